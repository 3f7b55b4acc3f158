/-! the ladder: begin, step -/
def LX (D : va_G) (E : Nat → ClassId) (l0 n : Nat) (V : Nat → Nat → Int) (B : Nat → Int) (H : Heap) : Prop := ∀ k, k < 9 → k ≠ n → RW D E (l0 + 2 + 16 * k) 24 (V k) (B k) H
theorem LX.k {D : va_G} {E : Nat → ClassId} {l0 n : Nat} {V : Nat → Nat → Int} {B : Nat → Int} {H H1 : Heap} (h : LX D E l0 n V B H) (hq : ∀ q, l0 + 2 ≤ q → q ≤ l0 + 145 ∧ (q < l0 + 2 + 16 * n ∨ l0 + 17 + 16 * n < q) → q < H.size → H1[q]? = H[q]?) : LX D E l0 n V B H1 := fun k hk hne => (h k hk hne).k (fun q a b c => hq q (by omega) (by omega) c)
theorem LX.up {D : va_G} {E : Nat → ClassId} {l0 n : Nat} {V : Nat → Nat → Int} {B : Nat → Int} {v : Nat → Int} {b : Int} {H : Heap} (h : LX D E l0 n V B H) (hw : RW D E (l0 + 2 + 16 * n) 24 v b H) : LX D E l0 9 (uR V n v) (ud B n b) H := fun k hk _ => by
  by_cases e : k = n
  · subst e; unfold uR; rw [if_pos rfl, ud_s]; exact hw
  · unfold uR; rw [if_neg e, ud_n _ _ e]; exact h k hk e
def PX (E : Nat → ClassId) (l0 n : Nat) (pk : Nat → Nat → Int) (H : Heap) : Prop := ∀ k, k < 9 → k ≠ n → IA E (l0 + 147 + k) 6 (pk k) H
theorem PX.k {E : Nat → ClassId} {l0 n : Nat} {pk : Nat → Nat → Int} {H H1 : Heap} (h : PX E l0 n pk H) (hq : ∀ q, l0 + 147 ≤ q → q ≤ l0 + 155 ∧ q ≠ l0 + 147 + n → q < H.size → H1[q]? = H[q]?) : PX E l0 n pk H1 := fun k hk hne => (h k hk hne).k (hq _ (by omega) (by omega) (h k hk hne).lt)
theorem PX.up {E : Nat → ClassId} {l0 n : Nat} {pk : Nat → Nat → Int} {g : Nat → Int} {H : Heap} (h : PX E l0 n pk H) (hw : IA E (l0 + 147 + n) 6 g H) : PX E l0 9 (uR pk n g) H := fun k hk _ => by
  by_cases e : k = n
  · subst e; unfold uR; rw [if_pos rfl]; exact hw
  · unfold uR; rw [if_neg e]; exact h k hk e
/-- the ladder's cells -/
def LD (D : va_G) (E : Nat → ClassId) (l0 : Nat) (kn : Int) (V : Nat → Nat → Int) (B : Nat → Int) (pk : Nat → Nat → Int) (H : Heap) : Prop := OA D l0 5 [.ref (l0 + 1), .ref (l0 + 146), .int (iI kn)] H ∧ QA E 4 (l0 + 1) 9 (fun k => some (l0 + 2 + 16 * k)) H ∧ LX D E l0 9 V B H ∧ QA E 6 (l0 + 146) 9 (fun k => some (l0 + 147 + k)) H ∧ PX E l0 9 pk H
theorem LD.lt {D : va_G} {E : Nat → ClassId} {l0 : Nat} {kn : Int} {V : Nat → Nat → Int} {B : Nat → Int} {pk : Nat → Nat → Int} {H : Heap} (h : LD D E l0 kn V B pk H) : l0 + 155 < H.size := by
  have := (h.2.2.2.2 8 (by omega) (by omega)).lt
  omega
theorem LD.k {D : va_G} {E : Nat → ClassId} {l0 : Nat} {kn : Int} {V : Nat → Nat → Int} {B : Nat → Int} {pk : Nat → Nat → Int} {H H1 : Heap} (h : LD D E l0 kn V B pk H) (hq : ∀ q, l0 ≤ q → q ≤ l0 + 155 → q < H.size → H1[q]? = H[q]?) : LD D E l0 kn V B pk H1 := by
  have hl := h.lt
  obtain ⟨h0, h1, h2, h3, h4⟩ := h
  exact ⟨h0.k (hq _ (by omega) (by omega) (by omega)), h1.k (hq _ (by omega) (by omega) (by omega)), h2.k (fun q a b c => hq q (by omega) (by omega) c), h3.k (hq _ (by omega) (by omega) (by omega)), h4.k (fun q a b c => hq q (by omega) (by omega) c)⟩
set_option maxHeartbeats 4000000 in
set_option maxRecDepth 100000 in
/-- begin(model) -/
theorem c_begin (l : Launch) (D : va_G) (E : Nat → ClassId) (l0 m0 : Nat) (σ : MS) (kn : Int) (V : Nat → Nat → Int) (B : Nat → Int) (pk : Nat → Nat → Int) (hok : mOK σ) (hlm : l0 + 155 < m0 ∨ m0 + 50 < l0) : pw_M rvV l D E yX5_begin wsX5_begin ({ frames := 3, cells := 0, slots := 0, locals := 86 } : Room) [.ref (l0), .ref (m0)] (fun H => LD D E l0 kn V B pk H ∧ MO D E m0 σ H) (fun _ H => ∃ (cm : Nat) (v : Nat → Int), (0 < cm ∧ cm ∣ 232792560 ∧ ∀ s k, s < mN σ → k < mC σ s → mD σ (4 * s + k) ∣ cm) ∧ (∀ s, s < 6 → v s = 0) ∧ LD D E l0 kn (uR V 0 v) (ud B 0 (cm : Int)) pk H) (fun q => l0 + 2 ≤ q ∧ q ≤ l0 + 17) (0) (0) := by
  refine pw_of (cc := cX5_begin) (maxL := 3) (ret := none) (by decide +kernel) rfl (Nat.le_of_ble_eq_true rfl) ?_
  intro p e s m args below meth c hx hb hr hml hts hown hlocks hini hK ⟨⟨hLO, hLQ, hLX, hPQ, hPX⟩, hM⟩ ls hl
  have hown : s.vm.findClass RX5 = some m.cls := hown
  have hl : lv_has ls 3 [(0, .ref (l0)), (1, .ref (m0))] := hl
  have hS : va_S (fun q => l0 + 2 ≤ q ∧ q ≤ l0 + 17) s.heap s.heap [] := va_S.rf
  have lk_11 := hts (.fieldLink RX5 11 "PolicyWorks$Ladder" "rows" "[LPolicyWorks$Row;") (by decide +kernel)
  have lk_37 := hts (.fieldLink RX5 37 "PolicyWorks$Row" "above" "[LPolicyWorks$Whole;") (by decide +kernel)
  have lk_46 := hts (.fieldLink RX5 46 "PolicyWorks$Row" "below" "LPolicyWorks$Whole;") (by decide +kernel)
  have hin5 : ∀ w ∈ wsX50, w ∈ wsX5_begin := by decide +kernel
  have hin7 : ∀ w ∈ wsX70, w ∈ wsX5_begin := by decide +kernel
  have hRow := hLX 0 (by omega) (by omega)
  have hLX0 : LX D E l0 0 V B s.heap := fun k h1 _ => hLX k h1 (by omega)
  have hRO := hRow.1
  have hRQ := hRow.2.1
  have hRV : RV D E (l0 + 2 + 16 * 0) 24 6 (V 0) s.heap := fun i h1 _ => hRow.2.2.1 i h1
  have hRB := hRow.2.2.2
  have hMO := hM.1
  have loop : ∀ (kk k : Nat) (vv : Nat → Int) (H : Heap) (locs : List Loc) (ls : Array Slot), k + kk = 6 → (∀ j, j < k → vv j = 0) → OA D (l0) 5 [.ref (l0 + 1), .ref (l0 + 146), .int (iI (kn))] H → QA E 4 (l0 + 1) 9 (fun k => some (l0 + 2 + 16 * k)) H → LX D E l0 0 V B H → QA E 6 (l0 + 146) 9 (fun k => some (l0 + 147 + k)) H → PX E l0 9 pk H → MO D E m0 σ H → OA D (l0 + 2 + 16 * 0) 7 [.ref (l0 + 2 + 16 * 0 + 1), .ref (l0 + 2 + 16 * 0 + 14)] H → QA E 5 (l0 + 2 + 16 * 0 + 1) 6 (fun s => some (l0 + 2 + 16 * 0 + 2 + 2 * s)) H → RV D E (l0 + 2 + 16 * 0) 24 6 vv H → WH D E (l0 + 2 + 16 * 0 + 14) 24 (B 0) H → va_S (fun q => l0 + 2 ≤ q ∧ q ≤ l0 + 17) s.heap H locs → lv_has ls 3 [(0, .ref (l0)), (1, .ref (m0)), (2, .int (iI ((k : Int))))] → W p l e ({ frames := 3, cells := 0, slots := 0, locals := 86 } : Room) s m args below meth c H locs (0) (0) (MQ below (pw_Q rvV (fun _ H => ∃ (cm : Nat) (v : Nat → Int), (0 < cm ∧ cm ∣ 232792560 ∧ ∀ s k, s < mN σ → k < mC σ s → mD σ (4 * s + k) ∣ cm) ∧ (∀ s, s < 6 → v s = 0) ∧ LD D E l0 kn (uR V 0 v) (ud B 0 (cm : Int)) pk H) (fun q => l0 + 2 ≤ q ∧ q ≤ l0 + 17)) args s (0) (0) (fun q => l0 + 2 ≤ q ∧ q ≤ l0 + 17)) (F0 m 2 ls []) := by
    intro kk
    induction kk with
    | zero =>
      intro k vv H locs ls hk h0 hLO hLQ hLX0 hPQ hPX hM hRO hRQ hRV hRB hS hl
      have hMO := hM.1
      obtain ⟨kz, hBR⟩ := hRB.r
      refine lv_iload_n hx hb dX5_begin_2 rfl (lv_at hl 2 rfl) ?_
      refine pw_bipush hx hb dX5_begin_3 ?_
      refine pw_icmp_ge (tgt := 28) hx hb dX5_begin_5 (by decide) (fun c_5 => ?_) (fun c_5 => absurd c_5 (by omega))
      refine lv_aload_n hx hb dX5_begin_28 rfl (lv_at hl 0 rfl) ?_
      refine pw_get (C := RX5) (T := TX5) (N := 3) hx hb hts hin5 hown hK hLO rfl 0 (by decide) lk_11 rfl rfl dX5_begin_29 ?_
      refine pw_iconst hx hb dX5_begin_32 ?_
      refine pw_qald hx hb hK hLQ rfl (0) rfl (by omega) (by omega) rfl dX5_begin_33 ?_
      refine pw_get (C := RX7) (T := TX7) (N := 2) hx hb hts hin7 hown hK hRO rfl 1 (by decide) lk_46 rfl rfl dX5_begin_34 ?_
      refine lv_aload_n hx hb dX5_begin_37 rfl (lv_at hl 1 rfl) ?_
      refine pw_callVi (As := []) (rest := [.ref (l0 + 2 + 16 * 0 + 14)]) ⟨hx, hb, hml, hown, hts⟩ (c_commonBelow l D E m0 σ hok) (cwV 0 hts gX5_begin_X6_commonRewardBelow rfl rfl rfl (by decide +kernel) ⟨Nat.le_of_ble_eq_true rfl, Nat.le_of_ble_eq_true rfl⟩) hK hMO rfl hM rfl hl.1 rfl (Nat.le_of_ble_eq_true rfl) dX5_begin_38 ⟨Nat.zero_le _, Nat.zero_le _⟩ hS (fun q h => h.elim) (fun z H1 locs1 ⟨cm, hz, hc0, hcL, hcd⟩ hz1 hk1 hS => ?_)
      have hLO := hLO.k (hk1 _ hLO.lt (fun h => h))
      have hLQ := hLQ.k (hk1 _ hLQ.lt (fun h => h))
      have hLX0 := hLX0.k (fun q h1 h2 h3 => (hk1 _ h3 (fun h => h)))
      have hPQ := hPQ.k (hk1 _ hPQ.lt (fun h => h))
      have hPX := hPX.k (fun q h1 h2 h3 => (hk1 _ h3 (fun h => h)))
      have hM := hM.k (fun q h1 h2 h3 => (hk1 _ h3 (fun h => h)))
      have hMO := hMO.k (hk1 _ hMO.lt (fun h => h))
      have hRO := hRO.k (hk1 _ hRO.lt (fun h => h))
      have hRQ := hRQ.k (hk1 _ hRQ.lt (fun h => h))
      have hRV := hRV.k (fun q h1 h2 h3 => (hk1 _ h3 (fun h => h)))
      have hBR := hBR.k (hk1 _ hBR.1.lt (fun h => h)) (hk1 _ hBR.2.lt (fun h => h))
      subst hz
      have hcle := Nat.le_of_dvd (by omega) hcL
      refine pw_i2l hx hb dX5_begin_41 ?_
      have hb24 : (232792560 : Int) < 1000000 ^ 24 := by decide +kernel
      refine pw_callVv (As := [.long (lI ((cm : Int)))]) (rest := []) ⟨hx, hb, hml, hown, hts⟩ (c_put l D E (l0 + 2 + 16 * 0 + 14) 24 (wdig (B 0)) kz (B 0).sign (cm : Int) (by omega) (by omega) (by omega) (by omega) (by omega) (by omega)) (cwV 1 hts gX5_begin_X8_put rfl rfl rfl (by decide +kernel) ⟨Nat.le_of_ble_eq_true rfl, Nat.le_of_ble_eq_true rfl⟩) hK hBR.1 rfl hBR rfl hl.1 rfl (Nat.le_of_ble_eq_true rfl) dX5_begin_42 ⟨Nat.zero_le _, Nat.zero_le _⟩ hS (fun q h => by (try dsimp only at h); (try dsimp only); omega) (fun H1 locs1 hRB hz1 hk1 hS => ?_)
      have hLO := hLO.k (hk1 _ hLO.lt (by (try dsimp only); omega))
      have hLQ := hLQ.k (hk1 _ hLQ.lt (by (try dsimp only); omega))
      have hLX0 := hLX0.k (fun q h1 h2 h3 => (hk1 _ h3 (by (try dsimp only); omega)))
      have hPQ := hPQ.k (hk1 _ hPQ.lt (by (try dsimp only); omega))
      have hPX := hPX.k (fun q h1 h2 h3 => (hk1 _ h3 (by (try dsimp only); omega)))
      have hM := hM.k (fun q h1 h2 h3 => (hk1 _ h3 (by (try dsimp only); omega)))
      have hMO := hMO.k (hk1 _ hMO.lt (by (try dsimp only); omega))
      have hRO := hRO.k (hk1 _ hRO.lt (by (try dsimp only); omega))
      have hRQ := hRQ.k (hk1 _ hRQ.lt (by (try dsimp only); omega))
      have hRV := hRV.k (fun q h1 h2 h3 => (hk1 _ h3 (by (try dsimp only); omega)))
      exact pw_vret hx hb hr hlocks hS ⟨cm, vv, ⟨hc0, hcL, hcd⟩, fun s hs => h0 s (by omega), hLO, hLQ, hLX0.up ⟨hRO, hRQ, fun s hs => hRV s hs (by omega), hRB⟩, hPQ, hPX⟩ dX5_begin_45
    | succ kk ih =>
      intro k vv H locs ls hk h0 hLO hLQ hLX0 hPQ hPX hM hRO hRQ hRV hRB hS hl
      have hMO := hM.1
      obtain ⟨kz, hVR⟩ := (hRV k (by omega) (by omega)).r
      have hRVx : RV D E (l0 + 2 + 16 * 0) 24 k vv H := fun i h1 _ => hRV i h1 (by omega)
      refine lv_iload_n hx hb dX5_begin_2 rfl (lv_at hl 2 rfl) ?_
      refine pw_bipush hx hb dX5_begin_3 ?_
      refine pw_icmp_ge (tgt := 28) hx hb dX5_begin_5 (by decide) (fun c_5 => absurd c_5 (by omega)) (fun c_5 => ?_)
      refine lv_aload_n hx hb dX5_begin_8 rfl (lv_at hl 0 rfl) ?_
      refine pw_get (C := RX5) (T := TX5) (N := 3) hx hb hts hin5 hown hK hLO rfl 0 (by decide) lk_11 rfl rfl dX5_begin_9 ?_
      refine pw_iconst hx hb dX5_begin_12 ?_
      refine pw_qald hx hb hK hLQ rfl (0) rfl (by omega) (by omega) rfl dX5_begin_13 ?_
      refine pw_get (C := RX7) (T := TX7) (N := 2) hx hb hts hin7 hown hK hRO rfl 0 (by decide) lk_37 rfl rfl dX5_begin_14 ?_
      refine lv_iload_n hx hb dX5_begin_17 rfl (lv_at hl 2 rfl) ?_
      refine pw_qald hx hb hK hRQ rfl (k) rfl (by omega) (by omega) rfl dX5_begin_18 ?_
      refine pw_callVv (As := []) (rest := []) ⟨hx, hb, hml, hown, hts⟩ (c_clear l D E (l0 + 2 + 16 * 0 + 2 + 2 * k) 24 (wdig (vv k)) kz (vv k).sign (by omega)) (cwV 0 hts gX5_begin_X8_clear rfl rfl rfl (by decide +kernel) ⟨Nat.le_of_ble_eq_true rfl, Nat.le_of_ble_eq_true rfl⟩) hK hVR.1 rfl hVR rfl hl.1 rfl (Nat.le_of_ble_eq_true rfl) dX5_begin_19 ⟨Nat.zero_le _, Nat.zero_le _⟩ hS (fun q h => by (try dsimp only at h); (try dsimp only); omega) (fun H1 locs1 hW hz1 hk1 hS => ?_)
      have hLO := hLO.k (hk1 _ hLO.lt (by (try dsimp only); omega))
      have hLQ := hLQ.k (hk1 _ hLQ.lt (by (try dsimp only); omega))
      have hLX0 := hLX0.k (fun q h1 h2 h3 => (hk1 _ h3 (by (try dsimp only); omega)))
      have hPQ := hPQ.k (hk1 _ hPQ.lt (by (try dsimp only); omega))
      have hPX := hPX.k (fun q h1 h2 h3 => (hk1 _ h3 (by (try dsimp only); omega)))
      have hM := hM.k (fun q h1 h2 h3 => (hk1 _ h3 (by (try dsimp only); omega)))
      have hMO := hMO.k (hk1 _ hMO.lt (by (try dsimp only); omega))
      have hRO := hRO.k (hk1 _ hRO.lt (by (try dsimp only); omega))
      have hRQ := hRQ.k (hk1 _ hRQ.lt (by (try dsimp only); omega))
      have hRVx := hRVx.k (fun q h1 h2 h3 => (hk1 _ h3 (by (try dsimp only); omega)))
      have hRB := hRB.k (hk1 _ (by have := hRB.lt; omega) (by (try dsimp only); omega)) (hk1 _ hRB.lt (by (try dsimp only); omega))
      refine lv_iinc (v := iI (((k + 1 : Nat) : Int))) (lv' := [(2, .int (iI (((k + 1 : Nat) : Int)))), (0, .ref (l0)), (1, .ref (m0))]) hx hb dX5_begin_22 hl (k := 2) rfl (by show iI _ + iI _ = _; exact (iI_add _ _).trans (by first | rfl | (congr 1; omega))) (by decide) rfl (fun ls hl => ?_)
      refine lv_goto (tgt := 2) hx hb dX5_begin_25 (by decide) ?_
      exact ih (k + 1) _ _ _ _ (by omega) (fun j hj => ud_ext (t := fun _ => 0) h0 rfl j hj) hLO hLQ hLX0 hPQ hPX hM hRO hRQ (hRVx.up (wh_zero hW)) hRB hS (lv_sub hl [1, 2, 0] rfl)
  refine pw_iconst hx hb dX5_begin_0 ?_
  refine lv_istore_n (lv' := [(2, .int (iI (0))), (0, .ref (l0)), (1, .ref (m0))]) hx hb dX5_begin_1 rfl hl (by decide) rfl (fun ls hl => ?_)
  exact loop 6 0 _ _ _ _ (by omega) (fun j hj => by omega) hLO hLQ hLX0 hPQ hPX hM hRO hRQ hRV hRB hS (lv_sub hl [1, 2, 0] rfl)
set_option maxHeartbeats 4000000 in
set_option maxRecDepth 100000 in
/-- step(model, chooser, n) -/
theorem c_step (l : Launch) (D : va_G) (E : Nat → ClassId) (l0 m0 c0 p1 gb gr : Nat) (σ : MS) (kn vb sb vr sr : Int) (V : Nat → Nat → Int) (B : Nat → Int) (pk : Nat → Nat → Int) (cm : Nat) (hok : mOK σ) (hrd : rdy σ) (hp : p1 < 8) (hlm : l0 + 155 < m0 ∨ m0 + 50 < l0) (hlc : l0 + 155 < c0 ∨ c0 + 8 < l0) (hcm : c0 + 8 < m0 ∨ m0 + 50 < c0) (hcd : ∀ s k, s < mN σ → k < mC σ s → mD σ (4 * s + k) ∣ cm) (hb0 : 0 < B p1) (hbc : (cm : Int) ∣ B p1) (hbb : (B p1).natAbs ≤ bb p1) (hvb : ∀ s, s < mN σ → (V p1 s).natAbs ≤ 20000 * (B p1).natAbs) : pw_M rvV l D E yX5_step wsX5_step ({ frames := 4, cells := 0, slots := 0, locals := 116 } : Room) [.ref (l0), .ref (m0), .ref (c0), .int (iI (((p1 + 1 : Nat) : Int)))] (fun H => LD D E l0 kn V B pk H ∧ MO D E m0 σ H ∧ CH D E c0 gb gr vb sb vr sr H) (fun _ H => ∃ gb gr vb sb vr sr v' b' g, CH D E c0 gb gr vb sb vr sr H ∧ SR σ cm (V p1) (B p1) v' b' g ∧ LD D E l0 kn (uR V (p1 + 1) v') (ud B (p1 + 1) b') (uR pk (p1 + 1) g) H) (fun q => (c0 ≤ q ∧ q ≤ c0 + 8) ∨ (l0 + 2 + 16 * (p1 + 1) ≤ q ∧ q ≤ l0 + 17 + 16 * (p1 + 1)) ∨ q = l0 + 147 + (p1 + 1)) (0) (0) := by
  refine pw_of (cc := cX5_step) (maxL := 11) (ret := none) (by decide +kernel) rfl (Nat.le_of_ble_eq_true rfl) ?_
  intro p e s m args below meth c hx hb hr hml hts hown hlocks hini hK ⟨⟨hLO, hLQ, hLX, hPQ, hPX⟩, hM, hCH⟩ ls hl
  have hown : s.vm.findClass RX5 = some m.cls := hown
  have hl : lv_has ls 11 [(0, .ref (l0)), (1, .ref (m0)), (2, .ref (c0)), (3, .int (iI (((p1 + 1 : Nat) : Int))))] := hl
  have hS : va_S (fun q => (c0 ≤ q ∧ q ≤ c0 + 8) ∨ (l0 + 2 + 16 * (p1 + 1) ≤ q ∧ q ≤ l0 + 17 + 16 * (p1 + 1)) ∨ q = l0 + 147 + (p1 + 1)) s.heap s.heap [] := va_S.rf
  have lk_11 := hts (.fieldLink RX5 11 "PolicyWorks$Ladder" "rows" "[LPolicyWorks$Row;") (by decide +kernel)
  have lk_22 := hts (.fieldLink RX5 22 "PolicyWorks$Ladder" "picks" "[[I") (by decide +kernel)
  have lk_37 := hts (.fieldLink RX5 37 "PolicyWorks$Row" "above" "[LPolicyWorks$Whole;") (by decide +kernel)
  have lk_46 := hts (.fieldLink RX5 46 "PolicyWorks$Row" "below" "LPolicyWorks$Whole;") (by decide +kernel)
  have lk_60 := hts (.fieldLink RX5 60 "PolicyWorks$Model" "states" "I") (by decide +kernel)
  have lk_73 := hts (.fieldLink RX5 73 "PolicyWorks$Action" "total" "I") (by decide +kernel)
  have lk_78 := hts (.fieldLink RX5 78 "PolicyWorks$Chooser" "best" "LPolicyWorks$Gain;") (by decide +kernel)
  have lk_82 := hts (.fieldLink RX5 82 "PolicyWorks$Gain" "above" "LPolicyWorks$Whole;") (by decide +kernel)
  have lk_90 := hts (.fieldLink RX5 90 "PolicyWorks$Action" "below" "I") (by decide +kernel)
  have lk_104 := hts (.fieldLink RX5 104 "PolicyWorks$Model" "discountBelow" "I") (by decide +kernel)
  have hin0 : ∀ w ∈ wsX00, w ∈ wsX5_step := by decide +kernel
  have hin1 : ∀ w ∈ wsX10, w ∈ wsX5_step := by decide +kernel
  have hin4 : ∀ w ∈ wsX40, w ∈ wsX5_step := by decide +kernel
  have hin5 : ∀ w ∈ wsX50, w ∈ wsX5_step := by decide +kernel
  have hin6 : ∀ w ∈ wsX60, w ∈ wsX5_step := by decide +kernel
  have hin7 : ∀ w ∈ wsX70, w ∈ wsX5_step := by decide +kernel
  have hN6 := hok.1
  have hC4 := hok.2.1
  have hB20 := hok.2.2.2.2.1
  have hAB := hok.2.2.2.1
  have hMO := hM.1
  have hRow := hLX (p1 + 1) (by omega) (by omega)
  have hLX0 : LX D E l0 (p1 + 1) V B s.heap := fun k h1 _ => hLX k h1 (by omega)
  have hPX0 : PX E l0 (p1 + 1) pk s.heap := fun k h1 _ => hPX k h1 (by omega)
  have hpi := hPX (p1 + 1) (by omega) (by omega)
  have hRO := hRow.1
  have hRQ := hRow.2.1
  have hRV : RV D E (l0 + 2 + 16 * (p1 + 1)) 24 6 (V (p1 + 1)) s.heap := fun i h1 _ => hRow.2.2.1 i h1
  have hRB := hRow.2.2.2
  have hgb : ∀ st k, st < mN σ → k < mC σ st → (gnum σ (4 * st + k) (V p1) (B p1)).natAbs ≤ 960000000 * (B p1).natAbs := fun st k h1 h2 => by
    have hc := hC4 st (by omega)
    have h3 := gn_b hok (i := 4 * st + k) (by omega) hb0 hvb
    have h4 := gsc_b hok (i := 4 * st + k) (by omega)
    have h5 : 20000 * (B p1).natAbs * (gsc σ (4 * st + k)).natAbs ≤ 20000 * (B p1).natAbs * 48000 := Nat.mul_le_mul_left _ (by omega)
    omega
  have hg23 : ∀ st k, st < mN σ → k < mC σ st → (gnum σ (4 * st + k) (V p1) (B p1)).natAbs < 1000000 ^ 23 := fun st k h1 h2 => by
    have h3 := hgb st k h1 h2
    have h4 := bb_mono (show p1 ≤ 7 by omega)
    have h5 := bb_8.2
    omega
  have e23 := bp_mono (show 23 ≤ 24 by omega)
  have hpk : ∀ st, st < mN σ → spk σ (V p1) (B p1) st < mC σ st := fun st h => spk_lt hrd h
  have hpk4 : ∀ st, st < mN σ → spk σ (V p1) (B p1) st < 4 := fun st h => by
    have := hpk st h
    have := hC4 st (by omega)
    omega
  have hTb := fun k hk => tP_b hok hpk4 k hk
  have hTp := fun k hk => tP_pos (pk := spk σ (V p1) (B p1)) (fun st h => (hrd.2 st h).2 _ (hpk st h)) k hk
  have hT6 := p120 hN6
  have hTN := hTb (mN σ) (Nat.le_refl _)
  have hTN0 := hTp (mN σ) (Nat.le_refl _)
  obtain ⟨b', hb'⟩ : ∃ b', b' = B p1 * (mB σ : Int) * (tP σ (spk σ (V p1) (B p1)) (mN σ) : Int) := ⟨_, rfl⟩
  have hb'0 : 0 < b' := by rw [hb']; exact Int.mul_pos (Int.mul_pos hb0 (by omega)) (by omega)
  have hb'le : b' ≤ B p1 * 59719680000000 := by
    rw [hb', Int.mul_assoc]
    refine Int.mul_le_mul_of_nonneg_left ?_ (by omega)
    have h1 : mB σ * tP σ (spk σ (V p1) (B p1)) (mN σ) ≤ 20 * 2985984000000 := Nat.mul_le_mul (by omega) (by omega)
    rw [← Int.natCast_mul]
    omega
  have hb'bb : b'.natAbs ≤ bb 8 := by
    have h1 : (B p1 * 59719680000000).natAbs ≤ bb (p1 + 1) := by
      rw [Int.natAbs_mul]
      have e : bb (p1 + 1) = bb p1 * 59719680000000 := by unfold bb; rw [Nat.pow_succ, Nat.mul_assoc]
      rw [e]
      exact Nat.mul_le_mul_right _ hbb
    have h2 := bb_mono (show p1 + 1 ≤ 8 by omega)
    have h3 : b'.natAbs ≤ (B p1 * 59719680000000).natAbs := by
      have : 0 ≤ B p1 * 59719680000000 := by omega
      omega
    omega
  have hqe : ∀ st, st < mN σ → (gnum σ (4 * st + spk σ (V p1) (B p1) st) (V p1) (B p1)).tdiv (mD σ (4 * st + spk σ (V p1) (B p1) st) : Int) * (mD σ (4 * st + spk σ (V p1) (B p1) st) : Int) = gnum σ (4 * st + spk σ (V p1) (B p1) st) (V p1) (B p1) := fun st h => Int.tdiv_mul_cancel (gn_dvd (hcd st _ h (hpk st h)) hbc)
  have hfit : ∀ st, st < mN σ → (gnum σ (4 * st + spk σ (V p1) (B p1) st) (V p1) (B p1)).tdiv (mD σ (4 * st + spk σ (V p1) (B p1) st) : Int) * ((tP σ (spk σ (V p1) (B p1)) (mN σ) / mT σ (4 * st + spk σ (V p1) (B p1) st) : Nat) : Int) * (B p1 * gsc σ (4 * st + spk σ (V p1) (B p1) st)) = gnum σ (4 * st + spk σ (V p1) (B p1) st) (V p1) (B p1) * b' := fun st h => step_fit (v := V p1) (hqe st h) (tP_dvd _ h) b' hb'
  have hvle : ∀ st, st < mN σ → ((gnum σ (4 * st + spk σ (V p1) (B p1) st) (V p1) (B p1)).tdiv (mD σ (4 * st + spk σ (V p1) (B p1) st) : Int) * ((tP σ (spk σ (V p1) (B p1)) (mN σ) / mT σ (4 * st + spk σ (V p1) (B p1) st) : Nat) : Int)).natAbs ≤ 20000 * b'.natAbs := fun st h => by
    have h1 := hfit st h
    have h2 := hpk4 st h
    have hi : 4 * st + spk σ (V p1) (B p1) st < 24 := by omega
    have h3 := gn_b hok hi hb0 hvb
    have hTs := (hrd.2 st h).2 _ (hpk st h)
    have hDs := (hok.2.2.1 _ hi).2.2.1
    have hs0 : 0 < gsc σ (4 * st + spk σ (V p1) (B p1) st) := Int.mul_pos (Int.mul_pos (by omega) (by omega)) (by omega)
    have h4 := congrArg Int.natAbs h1
    rw [Int.natAbs_mul, Int.natAbs_mul (gnum _ _ _ _), Int.natAbs_mul (B p1)] at h4
    have h5 : (gnum σ (4 * st + spk σ (V p1) (B p1) st) (V p1) (B p1)).natAbs * b'.natAbs ≤ 20000 * (B p1).natAbs * (gsc σ (4 * st + spk σ (V p1) (B p1) st)).natAbs * b'.natAbs := Nat.mul_le_mul_right _ h3
    have h6 : 0 < (B p1).natAbs * (gsc σ (4 * st + spk σ (V p1) (B p1) st)).natAbs := Nat.mul_pos (by omega) (by omega)
    refine Nat.le_of_mul_le_mul_right ?_ h6
    rw [h4]
    have e : 20000 * b'.natAbs * ((B p1).natAbs * (gsc σ (4 * st + spk σ (V p1) (B p1) st)).natAbs) = 20000 * (B p1).natAbs * (gsc σ (4 * st + spk σ (V p1) (B p1) st)).natAbs * b'.natAbs := by
      rw [Nat.mul_assoc 20000, Nat.mul_comm b'.natAbs, ← Nat.mul_assoc, ← Nat.mul_assoc]
    rw [e]
    exact h5
  have h24 := bb_8.1
  have loop2 : ∀ (gb gr : Nat) (vb sb vr sr : Int) (g : Nat → Int), (∀ j, j < mN σ → g j = (spk σ (V p1) (B p1) j : Int)) → ∀ (kk k : Nat) (vv : Nat → Int) (H : Heap) (locs : List Loc) (ls : Array Slot), k + kk = mN σ → (∀ j, j < k → vv j = (gnum σ (4 * j + spk σ (V p1) (B p1) j) (V p1) (B p1)).tdiv (mD σ (4 * j + spk σ (V p1) (B p1) j) : Int) * ((tP σ (spk σ (V p1) (B p1)) (mN σ) / mT σ (4 * j + spk σ (V p1) (B p1) j) : Nat) : Int)) → (∀ j, k ≤ j → j < mN σ → vv j = (gnum σ (4 * j + spk σ (V p1) (B p1) j) (V p1) (B p1)).tdiv (mD σ (4 * j + spk σ (V p1) (B p1) j) : Int)) → OA D (l0) 5 [.ref (l0 + 1), .ref (l0 + 146), .int (iI (kn))] H → QA E 4 (l0 + 1) 9 (fun k => some (l0 + 2 + 16 * k)) H → LX D E l0 (p1 + 1) V B H → QA E 6 (l0 + 146) 9 (fun k => some (l0 + 147 + k)) H → PX E l0 (p1 + 1) pk H → IA E (l0 + 147 + (p1 + 1)) 6 g H → MO D E m0 σ H → OA D (l0 + 2 + 16 * (p1 + 1)) 7 [.ref (l0 + 2 + 16 * (p1 + 1) + 1), .ref (l0 + 2 + 16 * (p1 + 1) + 14)] H → QA E 5 (l0 + 2 + 16 * (p1 + 1) + 1) 6 (fun s => some (l0 + 2 + 16 * (p1 + 1) + 2 + 2 * s)) H → RV D E (l0 + 2 + 16 * (p1 + 1)) 24 6 vv H → WH D E (l0 + 2 + 16 * (p1 + 1) + 14) 24 (B (p1 + 1)) H → CH D E c0 gb gr vb sb vr sr H → va_S (fun q => (c0 ≤ q ∧ q ≤ c0 + 8) ∨ (l0 + 2 + 16 * (p1 + 1) ≤ q ∧ q ≤ l0 + 17 + 16 * (p1 + 1)) ∨ q = l0 + 147 + (p1 + 1)) s.heap H locs → lv_has ls 11 [(0, .ref (l0)), (1, .ref (m0)), (2, .ref (c0)), (3, .int (iI (((p1 + 1 : Nat) : Int)))), (4, .ref (l0 + 2 + 16 * p1)), (5, .ref (l0 + 2 + 16 * (p1 + 1))), (6, .long (lI ((tP σ (spk σ (V p1) (B p1)) (mN σ) : Int)))), (8, .int (iI ((k : Int))))] → W p l e ({ frames := 4, cells := 0, slots := 0, locals := 116 } : Room) s m args below meth c H locs (0) (0) (MQ below (pw_Q rvV (fun _ H => ∃ gb gr vb sb vr sr v' b' g, CH D E c0 gb gr vb sb vr sr H ∧ SR σ cm (V p1) (B p1) v' b' g ∧ LD D E l0 kn (uR V (p1 + 1) v') (ud B (p1 + 1) b') (uR pk (p1 + 1) g) H) (fun q => (c0 ≤ q ∧ q ≤ c0 + 8) ∨ (l0 + 2 + 16 * (p1 + 1) ≤ q ∧ q ≤ l0 + 17 + 16 * (p1 + 1)) ∨ q = l0 + 147 + (p1 + 1))) args s (0) (0) (fun q => (c0 ≤ q ∧ q ≤ c0 + 8) ∨ (l0 + 2 + 16 * (p1 + 1) ≤ q ∧ q ≤ l0 + 17 + 16 * (p1 + 1)) ∨ q = l0 + 147 + (p1 + 1))) (F0 m 120 ls []) := by
    intro gb gr vb sb vr sr g hg kk
    induction kk with
    | zero =>
      intro k vv H locs ls hk h0 h1 hLO hLQ hLX0 hPQ hPX0 hpi hM hRO hRQ hRV hRB hCH hS hl
      have hMO := hM.1
      have hCO := hCH.1
      have hBW := hLX0 p1 (by omega) (by omega)
      have hBO := hBW.1
      have hBB := hBW.2.2.2
      obtain ⟨kz, hBR⟩ := hRB.r
      refine lv_iload hx hb dX5_step_120 (lv_at hl 7 rfl) ?_
      refine lv_aload_n hx hb dX5_step_122 rfl (lv_at hl 1 rfl) ?_
      refine pw_get (C := RX6) (T := TX6) (N := 5) hx hb hts hin6 hown hK hMO rfl 2 (by decide) lk_60 rfl rfl dX5_step_123 ?_
      refine pw_icmp_ge (tgt := 176) hx hb dX5_step_126 (by decide) (fun c_126 => ?_) (fun c_126 => absurd c_126 (by omega))
      refine lv_aload hx hb dX5_step_176 (lv_at hl 5 rfl) ?_
      refine pw_get (C := RX7) (T := TX7) (N := 2) hx hb hts hin7 hown hK hRO rfl 1 (by decide) lk_46 rfl rfl dX5_step_178 ?_
      refine lv_aload hx hb dX5_step_181 (lv_at hl 4 rfl) ?_
      refine pw_get (C := RX7) (T := TX7) (N := 2) hx hb hts hin7 hown hK hBO rfl 1 (by decide) lk_46 rfl rfl dX5_step_183 ?_
      refine pw_callVv (As := [.ref (l0 + 2 + 16 * p1 + 14)]) (rest := []) ⟨hx, hb, hml, hown, hts⟩ (c_copy l D E (l0 + 2 + 16 * (p1 + 1) + 14) 24 (l0 + 2 + 16 * p1 + 14) 24 (wdig (B (p1 + 1))) kz (B (p1 + 1)).sign (B p1) (by omega) (by omega) (by omega) hBB.bi.1 hBB.bi.2) (cwV 1 hts gX5_step_X8_copy rfl rfl rfl (by decide +kernel) ⟨Nat.le_of_ble_eq_true rfl, Nat.le_of_ble_eq_true rfl⟩) hK hBR.1 rfl ⟨hBR, hBB⟩ rfl hl.1 rfl (Nat.le_of_ble_eq_true rfl) dX5_step_186 ⟨Nat.zero_le _, Nat.zero_le _⟩ hS (fun q h => by (try dsimp only at h); (try dsimp only); omega) (fun H1 locs1 hRB hz1 hk1 hS => ?_)
      have hLO := hLO.k (hk1 _ hLO.lt (by (try dsimp only); omega))
      have hLQ := hLQ.k (hk1 _ hLQ.lt (by (try dsimp only); omega))
      have hLX0 := hLX0.k (fun q h1 h2 h3 => (hk1 _ h3 (by (try dsimp only); omega)))
      have hPQ := hPQ.k (hk1 _ hPQ.lt (by (try dsimp only); omega))
      have hPX0 := hPX0.k (fun q h1 h2 h3 => (hk1 _ h3 (by (try dsimp only); omega)))
      have hpi := hpi.k (hk1 _ hpi.lt (by (try dsimp only); omega))
      have hM := hM.k (fun q h1 h2 h3 => (hk1 _ h3 (by (try dsimp only); omega)))
      have hMO := hMO.k (hk1 _ hMO.lt (by (try dsimp only); omega))
      have hRO := hRO.k (hk1 _ hRO.lt (by (try dsimp only); omega))
      have hRQ := hRQ.k (hk1 _ hRQ.lt (by (try dsimp only); omega))
      have hRV := hRV.k (fun q h1 h2 h3 => (hk1 _ h3 (by (try dsimp only); omega)))
      have hCH := hCH.k (fun q h1 h2 h3 => (hk1 _ h3 (by (try dsimp only); omega)))
      have hCO := hCO.k (hk1 _ hCO.lt (by (try dsimp only); omega))
      have hBO := hBO.k (hk1 _ hBO.lt (by (try dsimp only); omega))
      have hBB := hBB.k (hk1 _ (by have := hBB.lt; omega) (by (try dsimp only); omega)) (hk1 _ hBB.lt (by (try dsimp only); omega))
      refine lv_aload hx hb dX5_step_189 (lv_at hl 5 rfl) ?_
      refine pw_get (C := RX7) (T := TX7) (N := 2) hx hb hts hin7 hown hK hRO rfl 1 (by decide) lk_46 rfl rfl dX5_step_191 ?_
      refine lv_aload_n hx hb dX5_step_194 rfl (lv_at hl 1 rfl) ?_
      refine pw_get (C := RX6) (T := TX6) (N := 5) hx hb hts hin6 hown hK hMO rfl 4 (by decide) lk_104 rfl rfl dX5_step_195 ?_
      refine pw_i2l hx hb dX5_step_198 ?_
      have hmb : (B p1 * (mB σ : Int)).natAbs ≤ b'.natAbs := by
        rw [hb', Int.natAbs_mul (B p1 * _)]
        exact Nat.le_mul_of_pos_right _ (by omega)
      have hmb2 := int_lt (n := 24) (show (B p1 * (mB σ : Int)).natAbs < 1000000 ^ 24 by omega)
      refine pw_callVv (As := [.long (lI ((mB σ : Int)))]) (rest := []) ⟨hx, hb, hml, hown, hts⟩ (c_multiply l D E (l0 + 2 + 16 * (p1 + 1) + 14) 24 (B p1) (mB σ : Int) (by omega) (by omega) (by omega) hmb2.1 hmb2.2) (cwV 1 hts gX5_step_X8_multiply rfl rfl rfl (by decide +kernel) ⟨Nat.le_of_ble_eq_true rfl, Nat.le_of_ble_eq_true rfl⟩) hK hRB.o.choose_spec rfl hRB rfl hl.1 rfl (Nat.le_of_ble_eq_true rfl) dX5_step_199 ⟨Nat.zero_le _, Nat.zero_le _⟩ hS (fun q h => by (try dsimp only at h); (try dsimp only); omega) (fun H1 locs1 hRB hz1 hk1 hS => ?_)
      have hLO := hLO.k (hk1 _ hLO.lt (by (try dsimp only); omega))
      have hLQ := hLQ.k (hk1 _ hLQ.lt (by (try dsimp only); omega))
      have hLX0 := hLX0.k (fun q h1 h2 h3 => (hk1 _ h3 (by (try dsimp only); omega)))
      have hPQ := hPQ.k (hk1 _ hPQ.lt (by (try dsimp only); omega))
      have hPX0 := hPX0.k (fun q h1 h2 h3 => (hk1 _ h3 (by (try dsimp only); omega)))
      have hpi := hpi.k (hk1 _ hpi.lt (by (try dsimp only); omega))
      have hM := hM.k (fun q h1 h2 h3 => (hk1 _ h3 (by (try dsimp only); omega)))
      have hMO := hMO.k (hk1 _ hMO.lt (by (try dsimp only); omega))
      have hRO := hRO.k (hk1 _ hRO.lt (by (try dsimp only); omega))
      have hRQ := hRQ.k (hk1 _ hRQ.lt (by (try dsimp only); omega))
      have hRV := hRV.k (fun q h1 h2 h3 => (hk1 _ h3 (by (try dsimp only); omega)))
      have hCH := hCH.k (fun q h1 h2 h3 => (hk1 _ h3 (by (try dsimp only); omega)))
      have hCO := hCO.k (hk1 _ hCO.lt (by (try dsimp only); omega))
      have hBO := hBO.k (hk1 _ hBO.lt (by (try dsimp only); omega))
      have hBB := hBB.k (hk1 _ (by have := hBB.lt; omega) (by (try dsimp only); omega)) (hk1 _ hBB.lt (by (try dsimp only); omega))
      refine lv_aload hx hb dX5_step_202 (lv_at hl 5 rfl) ?_
      refine pw_get (C := RX7) (T := TX7) (N := 2) hx hb hts hin7 hown hK hRO rfl 1 (by decide) lk_46 rfl rfl dX5_step_204 ?_
      refine lv_lload hx hb dX5_step_207 (lv_at hl 6 rfl) ?_
      have hmb3 := int_lt (n := 24) (show (B p1 * (mB σ : Int) * (tP σ (spk σ (V p1) (B p1)) (mN σ) : Int)).natAbs < 1000000 ^ 24 by rw [← hb']; omega)
      refine pw_callVv (As := [.long (lI ((tP σ (spk σ (V p1) (B p1)) (mN σ) : Int)))]) (rest := []) ⟨hx, hb, hml, hown, hts⟩ (c_multiply l D E (l0 + 2 + 16 * (p1 + 1) + 14) 24 (B p1 * (mB σ : Int)) (tP σ (spk σ (V p1) (B p1)) (mN σ) : Int) (by omega) (by omega) (by omega) hmb3.1 hmb3.2) (cwV 1 hts gX5_step_X8_multiply rfl rfl rfl (by decide +kernel) ⟨Nat.le_of_ble_eq_true rfl, Nat.le_of_ble_eq_true rfl⟩) hK hRB.o.choose_spec rfl hRB rfl hl.1 rfl (Nat.le_of_ble_eq_true rfl) dX5_step_209 ⟨Nat.zero_le _, Nat.zero_le _⟩ hS (fun q h => by (try dsimp only at h); (try dsimp only); omega) (fun H1 locs1 hRB hz1 hk1 hS => ?_)
      have hLO := hLO.k (hk1 _ hLO.lt (by (try dsimp only); omega))
      have hLQ := hLQ.k (hk1 _ hLQ.lt (by (try dsimp only); omega))
      have hLX0 := hLX0.k (fun q h1 h2 h3 => (hk1 _ h3 (by (try dsimp only); omega)))
      have hPQ := hPQ.k (hk1 _ hPQ.lt (by (try dsimp only); omega))
      have hPX0 := hPX0.k (fun q h1 h2 h3 => (hk1 _ h3 (by (try dsimp only); omega)))
      have hpi := hpi.k (hk1 _ hpi.lt (by (try dsimp only); omega))
      have hM := hM.k (fun q h1 h2 h3 => (hk1 _ h3 (by (try dsimp only); omega)))
      have hMO := hMO.k (hk1 _ hMO.lt (by (try dsimp only); omega))
      have hRO := hRO.k (hk1 _ hRO.lt (by (try dsimp only); omega))
      have hRQ := hRQ.k (hk1 _ hRQ.lt (by (try dsimp only); omega))
      have hRV := hRV.k (fun q h1 h2 h3 => (hk1 _ h3 (by (try dsimp only); omega)))
      have hCH := hCH.k (fun q h1 h2 h3 => (hk1 _ h3 (by (try dsimp only); omega)))
      have hCO := hCO.k (hk1 _ hCO.lt (by (try dsimp only); omega))
      have hBO := hBO.k (hk1 _ hBO.lt (by (try dsimp only); omega))
      have hBB := hBB.k (hk1 _ (by have := hBB.lt; omega) (by (try dsimp only); omega)) (hk1 _ hBB.lt (by (try dsimp only); omega))
      rw [← hb'] at hRB
      have hSR : SR σ cm (V p1) (B p1) vv b' g := by
        refine ⟨hb'0, ?_, hb'le, fun st hst => ⟨hg st hst, ?_, ?_⟩⟩
        · rw [hb', Int.mul_assoc]; exact Int.dvd_trans hbc (Int.dvd_mul_right _ _)
        · rw [h0 st (by omega)]; exact hvle st hst
        · rw [h0 st (by omega)]; exact hfit st hst
      exact pw_vret hx hb hr hlocks hS ⟨gb, gr, vb, sb, vr, sr, vv, b', g, hCH, hSR, hLO, hLQ, hLX0.up ⟨hRO, hRQ, fun s hs => hRV s hs (by omega), hRB⟩, hPQ, hPX0.up hpi⟩ dX5_step_212
    | succ kk ih =>
      intro k vv H locs ls hk h0 h1 hLO hLQ hLX0 hPQ hPX0 hpi hM hRO hRQ hRV hRB hCH hS hl
      have hMO := hM.1
      have hCO := hCH.1
      have hpk1 := hpk k (by omega)
      have hpk2 := hpk4 k (by omega)
      have hgk := hg k (by omega)
      have hTs := (hrd.2 k (by omega)).2 _ hpk1
      have hTs2 := mT_b hok (i := (4 * k + spk σ (V p1) (B p1) k)) (by omega)
      have hvk := hRV k (by omega) (by omega)
      rw [h1 k (Nat.le_refl k) (by omega)] at hvk
      have hRVx : RV D E (l0 + 2 + 16 * (p1 + 1)) 24 k vv H := fun i h1 _ => hRV i h1 (by omega)
      have hTdv : ((tP σ (spk σ (V p1) (B p1)) (mN σ) : Nat) : Int).tdiv (mT σ (4 * k + spk σ (V p1) (B p1) k) : Int) = ((tP σ (spk σ (V p1) (B p1)) (mN σ) / mT σ (4 * k + spk σ (V p1) (B p1) k) : Nat) : Int) := nat_td _ _
      have hTle : tP σ (spk σ (V p1) (B p1)) (mN σ) / mT σ (4 * k + spk σ (V p1) (B p1) k) ≤ tP σ (spk σ (V p1) (B p1)) (mN σ) := Nat.div_le_self _ _
      refine lv_iload hx hb dX5_step_120 (lv_at hl 7 rfl) ?_
      refine lv_aload_n hx hb dX5_step_122 rfl (lv_at hl 1 rfl) ?_
      refine pw_get (C := RX6) (T := TX6) (N := 5) hx hb hts hin6 hown hK hMO rfl 2 (by decide) lk_60 rfl rfl dX5_step_123 ?_
      refine pw_icmp_ge (tgt := 176) hx hb dX5_step_126 (by decide) (fun c_126 => absurd c_126 (by omega)) (fun c_126 => ?_)
      refine lv_aload_n hx hb dX5_step_129 rfl (lv_at hl 1 rfl) ?_
      refine lv_iload hx hb dX5_step_130 (lv_at hl 7 rfl) ?_
      refine lv_aload_n hx hb dX5_step_132 rfl (lv_at hl 0 rfl) ?_
      refine pw_get (C := RX5) (T := TX5) (N := 3) hx hb hts hin5 hown hK hLO rfl 1 (by decide) lk_22 rfl rfl dX5_step_133 ?_
      refine lv_iload_n hx hb dX5_step_136 rfl (lv_at hl 3 rfl) ?_
      refine pw_qalda hx hb hK hPQ (p1 + 1) rfl (by omega) (by omega) rfl dX5_step_137 ?_
      refine lv_iload hx hb dX5_step_138 (lv_at hl 7 rfl) ?_
      refine pw_iald hx hb hK hpi (k) rfl (by omega) (by omega) dX5_step_140 ?_
      refine pw_asi ((spk σ (V p1) (B p1) k : Int)) hgk ?_
      refine pw_callVr (As := [.int (iI ((k : Int))), .int (iI ((spk σ (V p1) (B p1) k : Int)))]) (rest := []) ⟨hx, hb, hml, hown, hts⟩ (c_find l D E m0 σ k (spk σ (V p1) (B p1) k) (by omega) (by omega)) (cwV 2 hts gX5_step_X6_find rfl rfl rfl (by decide +kernel) ⟨Nat.le_of_ble_eq_true rfl, Nat.le_of_ble_eq_true rfl⟩) hK hMO rfl hM rfl hl.1 rfl (Nat.le_of_ble_eq_true rfl) dX5_step_141 ⟨Nat.zero_le _, Nat.zero_le _⟩ hS (fun q h => h.elim) (fun z H1 locs1 hz hz1 hk1 hS => ?_)
      have hLO := hLO.k (hk1 _ hLO.lt (fun h => h))
      have hLQ := hLQ.k (hk1 _ hLQ.lt (fun h => h))
      have hLX0 := hLX0.k (fun q h1 h2 h3 => (hk1 _ h3 (fun h => h)))
      have hPQ := hPQ.k (hk1 _ hPQ.lt (fun h => h))
      have hPX0 := hPX0.k (fun q h1 h2 h3 => (hk1 _ h3 (fun h => h)))
      have hpi := hpi.k (hk1 _ hpi.lt (fun h => h))
      have hM := hM.k (fun q h1 h2 h3 => (hk1 _ h3 (fun h => h)))
      have hMO := hMO.k (hk1 _ hMO.lt (fun h => h))
      have hRO := hRO.k (hk1 _ hRO.lt (fun h => h))
      have hRQ := hRQ.k (hk1 _ hRQ.lt (fun h => h))
      have hRVx := hRVx.k (fun q h1 h2 h3 => (hk1 _ h3 (fun h => h)))
      have hRB := hRB.k (hk1 _ (by have := hRB.lt; omega) (fun h => h)) (hk1 _ hRB.lt (fun h => h))
      have hCH := hCH.k (fun q h1 h2 h3 => (hk1 _ h3 (fun h => h)))
      have hCO := hCO.k (hk1 _ hCO.lt (fun h => h))
      have hvk := hvk.k (hk1 _ (by have := hvk.lt; omega) (fun h => h)) (hk1 _ hvk.lt (fun h => h))
      subst hz
      have hAO := (hM.2.2.2 (4 * k + spk σ (V p1) (B p1) k) (by omega)).1
      refine pw_get (C := RX0) (T := TX0) (N := 4) hx hb hts hin0 hown hK hAO rfl 3 (by decide) lk_73 rfl rfl dX5_step_144 ?_
      refine pw_iconst hx hb dX5_step_147 ?_
      refine pw_mmax hx hb (hml.trans hl.1.symm) hown hts (by decide +kernel) (Nat.le_of_ble_eq_true rfl) (Nat.le_of_ble_eq_true rfl) (Nat.le_of_ble_eq_true rfl) (Nat.le_of_ble_eq_true rfl) dX5_step_148 ?_
      refine pw_asi ((mT σ (4 * k + spk σ (V p1) (B p1) k) : Int)) (by omega) ?_
      refine lv_istore (lv' := [(9, .int (iI ((mT σ (4 * k + spk σ (V p1) (B p1) k) : Int)))), (0, .ref (l0)), (1, .ref (m0)), (2, .ref (c0)), (3, .int (iI (((p1 + 1 : Nat) : Int)))), (4, .ref (l0 + 2 + 16 * p1)), (5, .ref (l0 + 2 + 16 * (p1 + 1))), (6, .long (lI ((tP σ (spk σ (V p1) (B p1)) (mN σ) : Int)))), (8, .int (iI ((k : Int))))]) hx hb dX5_step_151 hl (by decide) rfl (fun ls hl => ?_)
      refine lv_aload hx hb dX5_step_153 (lv_at hl 6 rfl) ?_
      refine pw_get (C := RX7) (T := TX7) (N := 2) hx hb hts hin7 hown hK hRO rfl 0 (by decide) lk_37 rfl rfl dX5_step_155 ?_
      refine lv_iload hx hb dX5_step_158 (lv_at hl 8 rfl) ?_
      refine pw_qald hx hb hK hRQ rfl (k) rfl (by omega) (by omega) rfl dX5_step_160 ?_
      refine lv_lload hx hb dX5_step_161 (lv_at hl 7 rfl) ?_
      refine lv_iload hx hb dX5_step_163 (lv_at hl 0 rfl) ?_
      refine pw_i2l hx hb dX5_step_165 ?_
      refine pw_ldiv hx hb dX5_step_166 (by omega) ?_
      refine pw_asl (((tP σ (spk σ (V p1) (B p1)) (mN σ) / mT σ (4 * k + spk σ (V p1) (B p1) k) : Nat) : Int)) hTdv ?_
      have hvw := int_lt (n := 24) (show ((gnum σ (4 * k + spk σ (V p1) (B p1) k) (V p1) (B p1)).tdiv (mD σ (4 * k + spk σ (V p1) (B p1) k) : Int) * ((tP σ (spk σ (V p1) (B p1)) (mN σ) / mT σ (4 * k + spk σ (V p1) (B p1) k) : Nat) : Int)).natAbs < 1000000 ^ 24 by have := hvle k (by omega); omega)
      refine pw_callVv (As := [.long (lI (((tP σ (spk σ (V p1) (B p1)) (mN σ) / mT σ (4 * k + spk σ (V p1) (B p1) k) : Nat) : Int)))]) (rest := []) ⟨hx, hb, hml, hown, hts⟩ (c_multiply l D E (l0 + 2 + 16 * (p1 + 1) + 2 + 2 * k) 24 ((gnum σ (4 * k + spk σ (V p1) (B p1) k) (V p1) (B p1)).tdiv (mD σ (4 * k + spk σ (V p1) (B p1) k) : Int)) ((tP σ (spk σ (V p1) (B p1)) (mN σ) / mT σ (4 * k + spk σ (V p1) (B p1) k) : Nat) : Int) (by omega) (Int.le_trans (by omega) (Int.natCast_nonneg _)) (by omega) hvw.1 hvw.2) (cwV 1 hts gX5_step_X8_multiply rfl rfl rfl (by decide +kernel) ⟨Nat.le_of_ble_eq_true rfl, Nat.le_of_ble_eq_true rfl⟩) hK hvk.o.choose_spec rfl hvk rfl hl.1 rfl (Nat.le_of_ble_eq_true rfl) dX5_step_167 ⟨Nat.zero_le _, Nat.zero_le _⟩ hS (fun q h => by (try dsimp only at h); (try dsimp only); omega) (fun H1 locs1 hvk hz1 hk1 hS => ?_)
      have hLO := hLO.k (hk1 _ hLO.lt (by (try dsimp only); omega))
      have hLQ := hLQ.k (hk1 _ hLQ.lt (by (try dsimp only); omega))
      have hLX0 := hLX0.k (fun q h1 h2 h3 => (hk1 _ h3 (by (try dsimp only); omega)))
      have hPQ := hPQ.k (hk1 _ hPQ.lt (by (try dsimp only); omega))
      have hPX0 := hPX0.k (fun q h1 h2 h3 => (hk1 _ h3 (by (try dsimp only); omega)))
      have hpi := hpi.k (hk1 _ hpi.lt (by (try dsimp only); omega))
      have hM := hM.k (fun q h1 h2 h3 => (hk1 _ h3 (by (try dsimp only); omega)))
      have hMO := hMO.k (hk1 _ hMO.lt (by (try dsimp only); omega))
      have hRO := hRO.k (hk1 _ hRO.lt (by (try dsimp only); omega))
      have hRQ := hRQ.k (hk1 _ hRQ.lt (by (try dsimp only); omega))
      have hRVx := hRVx.k (fun q h1 h2 h3 => (hk1 _ h3 (by (try dsimp only); omega)))
      have hRB := hRB.k (hk1 _ (by have := hRB.lt; omega) (by (try dsimp only); omega)) (hk1 _ hRB.lt (by (try dsimp only); omega))
      have hCH := hCH.k (fun q h1 h2 h3 => (hk1 _ h3 (by (try dsimp only); omega)))
      have hCO := hCO.k (hk1 _ hCO.lt (by (try dsimp only); omega))
      have hAO := hAO.k (hk1 _ hAO.lt (by (try dsimp only); omega))
      refine lv_iinc (v := iI (((k + 1 : Nat) : Int))) (lv' := [(8, .int (iI (((k + 1 : Nat) : Int)))), (9, .int (iI ((mT σ (4 * k + spk σ (V p1) (B p1) k) : Int)))), (0, .ref (l0)), (1, .ref (m0)), (2, .ref (c0)), (3, .int (iI (((p1 + 1 : Nat) : Int)))), (4, .ref (l0 + 2 + 16 * p1)), (5, .ref (l0 + 2 + 16 * (p1 + 1))), (6, .long (lI ((tP σ (spk σ (V p1) (B p1)) (mN σ) : Int))))]) hx hb dX5_step_170 hl (k := 8) rfl (by show iI _ + iI _ = _; exact (iI_add _ _).trans (by first | rfl | (congr 1; omega))) (by decide) rfl (fun ls hl => ?_)
      refine lv_goto (tgt := 120) hx hb dX5_step_173 (by decide) ?_
      exact ih (k + 1) _ _ _ _ (by omega) (fun j hj => ud_ext h0 rfl j hj) (fun j a1 a2 => by rw [ud_n _ _ (by omega)]; exact h1 j (by omega) a2) hLO hLQ hLX0 hPQ hPX0 hpi hM hRO hRQ (hRVx.up hvk) hRB hCH hS (lv_sub hl [2, 3, 4, 5, 6, 7, 8, 0] rfl)
  have loop1 : ∀ (kk k gb gr : Nat) (vb sb vr sr : Int) (g vv : Nat → Int) (H : Heap) (locs : List Loc) (ls : Array Slot), k + kk = mN σ → (∀ j, j < k → g j = (spk σ (V p1) (B p1) j : Int)) → (∀ j, j < k → vv j = (gnum σ (4 * j + spk σ (V p1) (B p1) j) (V p1) (B p1)).tdiv (mD σ (4 * j + spk σ (V p1) (B p1) j) : Int)) → OA D (l0) 5 [.ref (l0 + 1), .ref (l0 + 146), .int (iI (kn))] H → QA E 4 (l0 + 1) 9 (fun k => some (l0 + 2 + 16 * k)) H → LX D E l0 (p1 + 1) V B H → QA E 6 (l0 + 146) 9 (fun k => some (l0 + 147 + k)) H → PX E l0 (p1 + 1) pk H → IA E (l0 + 147 + (p1 + 1)) 6 g H → MO D E m0 σ H → OA D (l0 + 2 + 16 * (p1 + 1)) 7 [.ref (l0 + 2 + 16 * (p1 + 1) + 1), .ref (l0 + 2 + 16 * (p1 + 1) + 14)] H → QA E 5 (l0 + 2 + 16 * (p1 + 1) + 1) 6 (fun s => some (l0 + 2 + 16 * (p1 + 1) + 2 + 2 * s)) H → RV D E (l0 + 2 + 16 * (p1 + 1)) 24 6 vv H → WH D E (l0 + 2 + 16 * (p1 + 1) + 14) 24 (B (p1 + 1)) H → CH D E c0 gb gr vb sb vr sr H → va_S (fun q => (c0 ≤ q ∧ q ≤ c0 + 8) ∨ (l0 + 2 + 16 * (p1 + 1) ≤ q ∧ q ≤ l0 + 17 + 16 * (p1 + 1)) ∨ q = l0 + 147 + (p1 + 1)) s.heap H locs → lv_has ls 11 [(0, .ref (l0)), (1, .ref (m0)), (2, .ref (c0)), (3, .int (iI (((p1 + 1 : Nat) : Int)))), (4, .ref (l0 + 2 + 16 * p1)), (5, .ref (l0 + 2 + 16 * (p1 + 1))), (6, .long (lI ((tP σ (spk σ (V p1) (B p1)) k : Int)))), (8, .int (iI ((k : Int))))] → W p l e ({ frames := 4, cells := 0, slots := 0, locals := 116 } : Room) s m args below meth c H locs (0) (0) (MQ below (pw_Q rvV (fun _ H => ∃ gb gr vb sb vr sr v' b' g, CH D E c0 gb gr vb sb vr sr H ∧ SR σ cm (V p1) (B p1) v' b' g ∧ LD D E l0 kn (uR V (p1 + 1) v') (ud B (p1 + 1) b') (uR pk (p1 + 1) g) H) (fun q => (c0 ≤ q ∧ q ≤ c0 + 8) ∨ (l0 + 2 + 16 * (p1 + 1) ≤ q ∧ q ≤ l0 + 17 + 16 * (p1 + 1)) ∨ q = l0 + 147 + (p1 + 1))) args s (0) (0) (fun q => (c0 ≤ q ∧ q ≤ c0 + 8) ∨ (l0 + 2 + 16 * (p1 + 1) ≤ q ∧ q ≤ l0 + 17 + 16 * (p1 + 1)) ∨ q = l0 + 147 + (p1 + 1))) (F0 m 24 ls []) := by
    intro kk
    induction kk with
    | zero =>
      intro k gb gr vb sb vr sr g vv H locs ls hk hg h0 hLO hLQ hLX0 hPQ hPX0 hpi hM hRO hRQ hRV hRB hCH hS hl
      have hMO := hM.1
      have hCO := hCH.1
      have ek : k = mN σ := by omega
      refine lv_iload hx hb dX5_step_24 (lv_at hl 7 rfl) ?_
      refine lv_aload_n hx hb dX5_step_26 rfl (lv_at hl 1 rfl) ?_
      refine pw_get (C := RX6) (T := TX6) (N := 5) hx hb hts hin6 hown hK hMO rfl 2 (by decide) lk_60 rfl rfl dX5_step_27 ?_
      refine pw_icmp_ge (tgt := 117) hx hb dX5_step_30 (by decide) (fun c_30 => ?_) (fun c_30 => absurd c_30 (by omega))
      refine pw_iconst hx hb dX5_step_117 ?_
      refine lv_istore (lv' := [(8, .int (iI (0))), (0, .ref (l0)), (1, .ref (m0)), (2, .ref (c0)), (3, .int (iI (((p1 + 1 : Nat) : Int)))), (4, .ref (l0 + 2 + 16 * p1)), (5, .ref (l0 + 2 + 16 * (p1 + 1))), (6, .long (lI ((tP σ (spk σ (V p1) (B p1)) k : Int))))]) hx hb dX5_step_118 hl (by decide) rfl (fun ls hl => ?_)
      have hl : lv_has ls 11 [(0, .ref (l0)), (1, .ref (m0)), (2, .ref (c0)), (3, .int (iI (((p1 + 1 : Nat) : Int)))), (4, .ref (l0 + 2 + 16 * p1)), (5, .ref (l0 + 2 + 16 * (p1 + 1))), (6, .long (lI ((tP σ (spk σ (V p1) (B p1)) (mN σ) : Int)))), (8, .int (iI (((0 : Nat) : Int))))] := by rw [← ek]; exact lv_sub hl [1, 2, 3, 4, 5, 6, 7, 0] rfl
      exact loop2 gb gr _ _ _ _ g (fun j hj => hg j (by omega)) (mN σ) 0 vv _ _ _ (by omega) (fun j hj => by omega) (fun j _ hj => h0 j (by omega)) hLO hLQ hLX0 hPQ hPX0 hpi hM hRO hRQ hRV hRB hCH hS hl
    | succ kk ih =>
      intro k gb gr vb sb vr sr g vv H locs ls hk hg h0 hLO hLQ hLX0 hPQ hPX0 hpi hM hRO hRQ hRV hRB hCH hS hl
      have hMO := hM.1
      have hCO := hCH.1
      have hpk1 := hpk k (by omega)
      have hpk2 := hpk4 k (by omega)
      have hck0 := (hrd.2 k (by omega)).1
      have hBW := hLX0 p1 (by omega) (by omega)
      have hTs2 := mT_b hok (i := (4 * k + spk σ (V p1) (B p1) k)) (by omega)
      have hok1 := hok.2.2.1 (4 * k + spk σ (V p1) (B p1) k) (by omega)
      have hTk := hTb (k + 1) (by omega)
      have hTk6 := p120 (show k + 1 ≤ 6 by omega)
      obtain ⟨kz, hVR⟩ := (hRV k (by omega) (by omega)).r
      have hRVx : RV D E (l0 + 2 + 16 * (p1 + 1)) 24 k vv H := fun i h1 _ => hRV i h1 (by omega)
      have hgs := hg23 k _ (by omega) hpk1
      have hgi := int_lt (Nat.lt_of_lt_of_le hgs e23)
      refine lv_iload hx hb dX5_step_24 (lv_at hl 7 rfl) ?_
      refine lv_aload_n hx hb dX5_step_26 rfl (lv_at hl 1 rfl) ?_
      refine pw_get (C := RX6) (T := TX6) (N := 5) hx hb hts hin6 hown hK hMO rfl 2 (by decide) lk_60 rfl rfl dX5_step_27 ?_
      refine pw_icmp_ge (tgt := 117) hx hb dX5_step_30 (by decide) (fun c_30 => absurd c_30 (by omega)) (fun c_30 => ?_)
      refine lv_aload_n hx hb dX5_step_33 rfl (lv_at hl 2 rfl) ?_
      refine lv_aload_n hx hb dX5_step_34 rfl (lv_at hl 1 rfl) ?_
      refine lv_iload hx hb dX5_step_35 (lv_at hl 7 rfl) ?_
      refine pw_iconst hx hb dX5_step_37 ?_
      refine lv_aload hx hb dX5_step_38 (lv_at hl 4 rfl) ?_
      refine pw_callVi (As := [.ref (m0), .int (iI ((k : Int))), .int (iI (0)), .ref (l0 + 2 + 16 * p1)]) (rest := []) ⟨hx, hb, hml, hown, hts⟩ (c_greatest l D E c0 gb gr m0 (l0 + 2 + 16 * p1) 24 k 0 σ (V p1) (B p1) vb sb vr sr hok (by omega) hck0 (by omega) (by omega) (by omega) (fun j hj => hg23 k j (by omega) hj)) (cwV 4 hts gX5_step_X1_greatest rfl rfl rfl (by decide +kernel) ⟨Nat.le_of_ble_eq_true rfl, Nat.le_of_ble_eq_true rfl⟩) hK hCO rfl ⟨hCH, hM, hBW⟩ rfl hl.1 rfl (Nat.le_of_ble_eq_true rfl) dX5_step_40 ⟨Nat.zero_le _, Nat.zero_le _⟩ hS (fun q h => by (try dsimp only at h); (try dsimp only); omega) (fun z H1 locs1 ⟨hz, gb, gr, vr, sr, hCH⟩ hz1 hk1 hS => ?_)
      have hLO := hLO.k (hk1 _ hLO.lt (by (try dsimp only); omega))
      have hLQ := hLQ.k (hk1 _ hLQ.lt (by (try dsimp only); omega))
      have hLX0 := hLX0.k (fun q h1 h2 h3 => (hk1 _ h3 (by (try dsimp only); omega)))
      have hPQ := hPQ.k (hk1 _ hPQ.lt (by (try dsimp only); omega))
      have hPX0 := hPX0.k (fun q h1 h2 h3 => (hk1 _ h3 (by (try dsimp only); omega)))
      have hpi := hpi.k (hk1 _ hpi.lt (by (try dsimp only); omega))
      have hM := hM.k (fun q h1 h2 h3 => (hk1 _ h3 (by (try dsimp only); omega)))
      have hMO := hMO.k (hk1 _ hMO.lt (by (try dsimp only); omega))
      have hRO := hRO.k (hk1 _ hRO.lt (by (try dsimp only); omega))
      have hRQ := hRQ.k (hk1 _ hRQ.lt (by (try dsimp only); omega))
      have hRVx := hRVx.k (fun q h1 h2 h3 => (hk1 _ h3 (by (try dsimp only); omega)))
      have hRB := hRB.k (hk1 _ (by have := hRB.lt; omega) (by (try dsimp only); omega)) (hk1 _ hRB.lt (by (try dsimp only); omega))
      have hVR := hVR.k (hk1 _ hVR.1.lt (by (try dsimp only); omega)) (hk1 _ hVR.2.lt (by (try dsimp only); omega))
      have hBW := hBW.k (fun q h1 h2 h3 => (hk1 _ h3 (by (try dsimp only); omega)))
      have hz : z = (spk σ (V p1) (B p1) k : Int) := hz
      subst hz
      have hCH : CH D E c0 gb gr (gnum σ (4 * k + spk σ (V p1) (B p1) k) (V p1) (B p1)) (gsc σ (4 * k + spk σ (V p1) (B p1) k)) vr sr H1 := hCH
      have hCO := hCH.1
      refine lv_istore (lv' := [(9, .int (iI ((spk σ (V p1) (B p1) k : Int)))), (0, .ref (l0)), (1, .ref (m0)), (2, .ref (c0)), (3, .int (iI (((p1 + 1 : Nat) : Int)))), (4, .ref (l0 + 2 + 16 * p1)), (5, .ref (l0 + 2 + 16 * (p1 + 1))), (6, .long (lI ((tP σ (spk σ (V p1) (B p1)) k : Int)))), (8, .int (iI ((k : Int))))]) hx hb dX5_step_43 hl (by decide) rfl (fun ls hl => ?_)
      refine lv_aload_n hx hb dX5_step_45 rfl (lv_at hl 2 rfl) ?_
      refine lv_iload hx hb dX5_step_46 (lv_at hl 8 rfl) ?_
      refine lv_iload hx hb dX5_step_48 (lv_at hl 0 rfl) ?_
      refine pw_callVr (As := [.int (iI ((k : Int))), .int (iI ((spk σ (V p1) (B p1) k : Int)))]) (rest := []) ⟨hx, hb, hml, hown, hts⟩ (c_find l D E m0 σ k (spk σ (V p1) (B p1) k) (by omega) (by omega)) (cwV 2 hts gX5_step_X6_find rfl rfl rfl (by decide +kernel) ⟨Nat.le_of_ble_eq_true rfl, Nat.le_of_ble_eq_true rfl⟩) hK hMO rfl hM rfl hl.1 rfl (Nat.le_of_ble_eq_true rfl) dX5_step_50 ⟨Nat.zero_le _, Nat.zero_le _⟩ hS (fun q h => h.elim) (fun z H1 locs1 hz hz1 hk1 hS => ?_)
      have hLO := hLO.k (hk1 _ hLO.lt (fun h => h))
      have hLQ := hLQ.k (hk1 _ hLQ.lt (fun h => h))
      have hLX0 := hLX0.k (fun q h1 h2 h3 => (hk1 _ h3 (fun h => h)))
      have hPQ := hPQ.k (hk1 _ hPQ.lt (fun h => h))
      have hPX0 := hPX0.k (fun q h1 h2 h3 => (hk1 _ h3 (fun h => h)))
      have hpi := hpi.k (hk1 _ hpi.lt (fun h => h))
      have hM := hM.k (fun q h1 h2 h3 => (hk1 _ h3 (fun h => h)))
      have hMO := hMO.k (hk1 _ hMO.lt (fun h => h))
      have hRO := hRO.k (hk1 _ hRO.lt (fun h => h))
      have hRQ := hRQ.k (hk1 _ hRQ.lt (fun h => h))
      have hRVx := hRVx.k (fun q h1 h2 h3 => (hk1 _ h3 (fun h => h)))
      have hRB := hRB.k (hk1 _ (by have := hRB.lt; omega) (fun h => h)) (hk1 _ hRB.lt (fun h => h))
      have hCH := hCH.k (fun q h1 h2 h3 => (hk1 _ h3 (fun h => h)))
      have hCO := hCO.k (hk1 _ hCO.lt (fun h => h))
      have hVR := hVR.k (hk1 _ hVR.1.lt (fun h => h)) (hk1 _ hVR.2.lt (fun h => h))
      have hBW := hBW.k (fun q h1 h2 h3 => (hk1 _ h3 (fun h => h)))
      subst hz
      have hAO := (hM.2.2.2 (4 * k + spk σ (V p1) (B p1) k) (by omega)).1
      refine lv_astore (lv' := [(10, .ref (m0 + 3 + 2 * (4 * k + spk σ (V p1) (B p1) k))), (9, .int (iI ((spk σ (V p1) (B p1) k : Int)))), (0, .ref (l0)), (1, .ref (m0)), (2, .ref (c0)), (3, .int (iI (((p1 + 1 : Nat) : Int)))), (4, .ref (l0 + 2 + 16 * p1)), (5, .ref (l0 + 2 + 16 * (p1 + 1))), (6, .long (lI ((tP σ (spk σ (V p1) (B p1)) k : Int)))), (8, .int (iI ((k : Int))))]) hx hb dX5_step_53 hl (by decide) rfl (fun ls hl => ?_)
      refine lv_aload_n hx hb dX5_step_55 rfl (lv_at hl 2 rfl) ?_
      refine pw_get (C := RX5) (T := TX5) (N := 3) hx hb hts hin5 hown hK hLO rfl 1 (by decide) lk_22 rfl rfl dX5_step_56 ?_
      refine lv_iload_n hx hb dX5_step_59 rfl (lv_at hl 5 rfl) ?_
      refine pw_qalda hx hb hK hPQ (p1 + 1) rfl (by omega) (by omega) rfl dX5_step_60 ?_
      refine lv_iload hx hb dX5_step_61 (lv_at hl 9 rfl) ?_
      refine lv_iload hx hb dX5_step_63 (lv_at hl 1 rfl) ?_
      refine pw_iast hx hb hK hpi hS (by (try dsimp only); omega) (k) rfl (by omega) (by omega) dX5_step_65 (fun H1 locs1 hnew hz1 oq hS => ?_)
      have hLO := hLO.k (oq _ (by omega))
      have hLQ := hLQ.k (oq _ (by omega))
      have hLX0 := hLX0.k (fun q h1 h2 h3 => (oq _ (by omega)))
      have hPQ := hPQ.k (oq _ (by omega))
      have hPX0 := hPX0.k (fun q h1 h2 h3 => (oq _ (by omega)))
      have hM := hM.k (fun q h1 h2 h3 => (oq _ (by omega)))
      have hMO := hMO.k (oq _ (by omega))
      have hRO := hRO.k (oq _ (by omega))
      have hRQ := hRQ.k (oq _ (by omega))
      have hRVx := hRVx.k (fun q h1 h2 h3 => (oq _ (by omega)))
      have hRB := hRB.k (oq _ (by omega)) (oq _ (by omega))
      have hCH := hCH.k (fun q h1 h2 h3 => (oq _ (by omega)))
      have hCO := hCO.k (oq _ (by omega))
      have hVR := hVR.k (oq _ (by omega)) (oq _ (by omega))
      have hBW := hBW.k (fun q h1 h2 h3 => (oq _ (by omega)))
      have hAO := hAO.k (oq _ (by omega))
      have hpi := hnew
      clear hnew oq hz1
      refine lv_lload hx hb dX5_step_66 (lv_at hl 8 rfl) ?_
      refine lv_aload hx hb dX5_step_68 (lv_at hl 0 rfl) ?_
      refine pw_get (C := RX0) (T := TX0) (N := 4) hx hb hts hin0 hown hK hAO rfl 3 (by decide) lk_73 rfl rfl dX5_step_70 ?_
      refine pw_i2l hx hb dX5_step_73 ?_
      refine pw_lmul hx hb dX5_step_74 ?_
      refine pw_asl ((tP σ (spk σ (V p1) (B p1)) (k + 1) : Int)) (by rw [← Int.natCast_mul]; rfl) ?_
      refine lv_lstore (lv' := [(6, .long (lI ((tP σ (spk σ (V p1) (B p1)) (k + 1) : Int)))), (10, .ref (m0 + 3 + 2 * (4 * k + spk σ (V p1) (B p1) k))), (9, .int (iI ((spk σ (V p1) (B p1) k : Int)))), (0, .ref (l0)), (1, .ref (m0)), (2, .ref (c0)), (3, .int (iI (((p1 + 1 : Nat) : Int)))), (4, .ref (l0 + 2 + 16 * p1)), (5, .ref (l0 + 2 + 16 * (p1 + 1))), (8, .int (iI ((k : Int))))]) hx hb dX5_step_75 hl (by decide) rfl (fun ls hl => ?_)
      refine lv_aload hx hb dX5_step_77 (lv_at hl 8 rfl) ?_
      refine pw_get (C := RX7) (T := TX7) (N := 2) hx hb hts hin7 hown hK hRO rfl 0 (by decide) lk_37 rfl rfl dX5_step_79 ?_
      refine lv_iload hx hb dX5_step_82 (lv_at hl 9 rfl) ?_
      refine pw_qald hx hb hK hRQ rfl (k) rfl (by omega) (by omega) rfl dX5_step_84 ?_
      refine lv_aload_n hx hb dX5_step_85 rfl (lv_at hl 5 rfl) ?_
      refine pw_get (C := RX1) (T := TX1) (N := 3) hx hb hts hin1 hown hK hCO rfl 0 (by decide) lk_78 rfl rfl dX5_step_86 ?_
      have hGO := hCH.2.2.1.1
      have hGW := hCH.2.2.1.2
      have hgg := hCH.2.1
      refine pw_get (C := RX4) (T := TX4) (N := 2) hx hb hts hin4 hown hK hGO rfl 0 (by decide) lk_82 rfl rfl dX5_step_89 ?_
      refine pw_callVv (As := [.ref (gb + 1)]) (rest := []) ⟨hx, hb, hml, hown, hts⟩ (c_copy l D E (l0 + 2 + 16 * (p1 + 1) + 2 + 2 * k) 24 (gb + 1) 24 (wdig (vv k)) kz (vv k).sign (gnum σ (4 * k + spk σ (V p1) (B p1) k) (V p1) (B p1)) (by omega) (by omega) (by have := hCH.2.1; omega) hgi.1 hgi.2) (cwV 1 hts gX5_step_X8_copy rfl rfl rfl (by decide +kernel) ⟨Nat.le_of_ble_eq_true rfl, Nat.le_of_ble_eq_true rfl⟩) hK hVR.1 rfl ⟨hVR, hGW⟩ rfl hl.1 rfl (Nat.le_of_ble_eq_true rfl) dX5_step_92 ⟨Nat.zero_le _, Nat.zero_le _⟩ hS (fun q h => by (try dsimp only at h); (try dsimp only); omega) (fun H1 locs1 hW hz1 hk1 hS => ?_)
      have hLO := hLO.k (hk1 _ hLO.lt (by (try dsimp only); omega))
      have hLQ := hLQ.k (hk1 _ hLQ.lt (by (try dsimp only); omega))
      have hLX0 := hLX0.k (fun q h1 h2 h3 => (hk1 _ h3 (by (try dsimp only); omega)))
      have hPQ := hPQ.k (hk1 _ hPQ.lt (by (try dsimp only); omega))
      have hPX0 := hPX0.k (fun q h1 h2 h3 => (hk1 _ h3 (by (try dsimp only); omega)))
      have hpi := hpi.k (hk1 _ hpi.lt (by (try dsimp only); omega))
      have hM := hM.k (fun q h1 h2 h3 => (hk1 _ h3 (by (try dsimp only); omega)))
      have hMO := hMO.k (hk1 _ hMO.lt (by (try dsimp only); omega))
      have hRO := hRO.k (hk1 _ hRO.lt (by (try dsimp only); omega))
      have hRQ := hRQ.k (hk1 _ hRQ.lt (by (try dsimp only); omega))
      have hRVx := hRVx.k (fun q h1 h2 h3 => (hk1 _ h3 (by (try dsimp only); omega)))
      have hRB := hRB.k (hk1 _ (by have := hRB.lt; omega) (by (try dsimp only); omega)) (hk1 _ hRB.lt (by (try dsimp only); omega))
      have hCH := hCH.k (fun q h1 h2 h3 => (hk1 _ h3 (by (try dsimp only); omega)))
      have hCO := hCO.k (hk1 _ hCO.lt (by (try dsimp only); omega))
      have hBW := hBW.k (fun q h1 h2 h3 => (hk1 _ h3 (by (try dsimp only); omega)))
      have hAO := hAO.k (hk1 _ hAO.lt (by (try dsimp only); omega))
      have hGO := hGO.k (hk1 _ hGO.lt (by (try dsimp only); omega))
      have hGW := hGW.k (hk1 _ (by have := hGW.lt; omega) (by (try dsimp only); omega)) (hk1 _ hGW.lt (by (try dsimp only); omega))
      refine lv_aload hx hb dX5_step_95 (lv_at hl 8 rfl) ?_
      refine pw_get (C := RX7) (T := TX7) (N := 2) hx hb hts hin7 hown hK hRO rfl 0 (by decide) lk_37 rfl rfl dX5_step_97 ?_
      refine lv_iload hx hb dX5_step_100 (lv_at hl 9 rfl) ?_
      refine pw_qald hx hb hK hRQ rfl (k) rfl (by omega) (by omega) rfl dX5_step_102 ?_
      refine lv_aload hx hb dX5_step_103 (lv_at hl 1 rfl) ?_
      refine pw_get (C := RX0) (T := TX0) (N := 4) hx hb hts hin0 hown hK hAO rfl 2 (by decide) lk_90 rfl rfl dX5_step_105 ?_
      refine pw_callVv (As := [.int (iI ((mD σ (4 * k + spk σ (V p1) (B p1) k) : Int)))]) (rest := []) ⟨hx, hb, hml, hown, hts⟩ (c_divideSmall l D E (l0 + 2 + 16 * (p1 + 1) + 2 + 2 * k) 24 (mD σ (4 * k + spk σ (V p1) (B p1) k)) (gnum σ (4 * k + spk σ (V p1) (B p1) k) (V p1) (B p1)) (by omega) (by omega) (by omega)) (cwV 1 hts gX5_step_X8_divideSmall rfl rfl rfl (by decide +kernel) ⟨Nat.le_of_ble_eq_true rfl, Nat.le_of_ble_eq_true rfl⟩) hK hW.o.choose_spec rfl hW rfl hl.1 rfl (Nat.le_of_ble_eq_true rfl) dX5_step_108 ⟨Nat.zero_le _, Nat.zero_le _⟩ hS (fun q h => by (try dsimp only at h); (try dsimp only); omega) (fun H1 locs1 hW hz1 hk1 hS => ?_)
      have hLO := hLO.k (hk1 _ hLO.lt (by (try dsimp only); omega))
      have hLQ := hLQ.k (hk1 _ hLQ.lt (by (try dsimp only); omega))
      have hLX0 := hLX0.k (fun q h1 h2 h3 => (hk1 _ h3 (by (try dsimp only); omega)))
      have hPQ := hPQ.k (hk1 _ hPQ.lt (by (try dsimp only); omega))
      have hPX0 := hPX0.k (fun q h1 h2 h3 => (hk1 _ h3 (by (try dsimp only); omega)))
      have hpi := hpi.k (hk1 _ hpi.lt (by (try dsimp only); omega))
      have hM := hM.k (fun q h1 h2 h3 => (hk1 _ h3 (by (try dsimp only); omega)))
      have hMO := hMO.k (hk1 _ hMO.lt (by (try dsimp only); omega))
      have hRO := hRO.k (hk1 _ hRO.lt (by (try dsimp only); omega))
      have hRQ := hRQ.k (hk1 _ hRQ.lt (by (try dsimp only); omega))
      have hRVx := hRVx.k (fun q h1 h2 h3 => (hk1 _ h3 (by (try dsimp only); omega)))
      have hRB := hRB.k (hk1 _ (by have := hRB.lt; omega) (by (try dsimp only); omega)) (hk1 _ hRB.lt (by (try dsimp only); omega))
      have hCH := hCH.k (fun q h1 h2 h3 => (hk1 _ h3 (by (try dsimp only); omega)))
      have hCO := hCO.k (hk1 _ hCO.lt (by (try dsimp only); omega))
      have hBW := hBW.k (fun q h1 h2 h3 => (hk1 _ h3 (by (try dsimp only); omega)))
      have hAO := hAO.k (hk1 _ hAO.lt (by (try dsimp only); omega))
      have hGO := hGO.k (hk1 _ hGO.lt (by (try dsimp only); omega))
      have hGW := hGW.k (hk1 _ (by have := hGW.lt; omega) (by (try dsimp only); omega)) (hk1 _ hGW.lt (by (try dsimp only); omega))
      refine lv_iinc (v := iI (((k + 1 : Nat) : Int))) (lv' := [(8, .int (iI (((k + 1 : Nat) : Int)))), (6, .long (lI ((tP σ (spk σ (V p1) (B p1)) (k + 1) : Int)))), (10, .ref (m0 + 3 + 2 * (4 * k + spk σ (V p1) (B p1) k))), (9, .int (iI ((spk σ (V p1) (B p1) k : Int)))), (0, .ref (l0)), (1, .ref (m0)), (2, .ref (c0)), (3, .int (iI (((p1 + 1 : Nat) : Int)))), (4, .ref (l0 + 2 + 16 * p1)), (5, .ref (l0 + 2 + 16 * (p1 + 1)))]) hx hb dX5_step_111 hl (k := 9) rfl (by show iI _ + iI _ = _; exact (iI_add _ _).trans (by first | rfl | (congr 1; omega))) (by decide) rfl (fun ls hl => ?_)
      refine lv_goto (tgt := 24) hx hb dX5_step_114 (by decide) ?_
      exact ih (k + 1) gb gr _ _ _ _ _ _ _ _ _ (by omega) (fun j hj => ud_ext hg rfl j hj) (fun j hj => ud_ext h0 rfl j hj) hLO hLQ hLX0 hPQ hPX0 hpi hM hRO hRQ (hRVx.up hW) hRB hCH hS (lv_sub hl [4, 5, 6, 7, 8, 9, 1, 0] rfl)
  have hCO := hCH.1
  refine lv_aload_n hx hb dX5_step_0 rfl (lv_at hl 0 rfl) ?_
  refine pw_get (C := RX5) (T := TX5) (N := 3) hx hb hts hin5 hown hK hLO rfl 0 (by decide) lk_11 rfl rfl dX5_step_1 ?_
  refine lv_iload_n hx hb dX5_step_4 rfl (lv_at hl 3 rfl) ?_
  refine pw_iconst hx hb dX5_step_5 ?_
  refine pw_isub hx hb dX5_step_6 ?_
  refine pw_qald hx hb hK hLQ rfl (p1) (by omega) (by omega) (by omega) rfl dX5_step_7 ?_
  refine lv_astore (lv' := [(4, .ref (l0 + 2 + 16 * p1)), (0, .ref (l0)), (1, .ref (m0)), (2, .ref (c0)), (3, .int (iI (((p1 + 1 : Nat) : Int))))]) hx hb dX5_step_8 hl (by decide) rfl (fun ls hl => ?_)
  refine lv_aload_n hx hb dX5_step_10 rfl (lv_at hl 1 rfl) ?_
  refine pw_get (C := RX5) (T := TX5) (N := 3) hx hb hts hin5 hown hK hLO rfl 0 (by decide) lk_11 rfl rfl dX5_step_11 ?_
  refine lv_iload_n hx hb dX5_step_14 rfl (lv_at hl 4 rfl) ?_
  refine pw_qald hx hb hK hLQ rfl (p1 + 1) rfl (by omega) (by omega) rfl dX5_step_15 ?_
  refine lv_astore (lv' := [(5, .ref (l0 + 2 + 16 * (p1 + 1))), (4, .ref (l0 + 2 + 16 * p1)), (0, .ref (l0)), (1, .ref (m0)), (2, .ref (c0)), (3, .int (iI (((p1 + 1 : Nat) : Int))))]) hx hb dX5_step_16 hl (by decide) rfl (fun ls hl => ?_)
  refine pw_lconst (z := 1) hx hb dX5_step_18 ?_
  refine lv_lstore (lv' := [(6, .long (lI (1))), (5, .ref (l0 + 2 + 16 * (p1 + 1))), (4, .ref (l0 + 2 + 16 * p1)), (0, .ref (l0)), (1, .ref (m0)), (2, .ref (c0)), (3, .int (iI (((p1 + 1 : Nat) : Int))))]) hx hb dX5_step_19 hl (by decide) rfl (fun ls hl => ?_)
  refine pw_iconst hx hb dX5_step_21 ?_
  refine lv_istore (lv' := [(8, .int (iI (0))), (6, .long (lI (1))), (5, .ref (l0 + 2 + 16 * (p1 + 1))), (4, .ref (l0 + 2 + 16 * p1)), (0, .ref (l0)), (1, .ref (m0)), (2, .ref (c0)), (3, .int (iI (((p1 + 1 : Nat) : Int))))]) hx hb dX5_step_22 hl (by decide) rfl (fun ls hl => ?_)
  exact loop1 (mN σ) 0 gb gr _ _ _ _ _ _ _ _ _ (by omega) (fun j hj => by omega) (fun j hj => by omega) hLO hLQ hLX0 hPQ hPX0 hpi hM hRO hRQ hRV hRB hCH hS (lv_sub hl [4, 5, 6, 7, 3, 2, 1, 0] rfl)
