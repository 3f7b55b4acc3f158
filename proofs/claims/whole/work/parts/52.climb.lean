/-! the ladder: climb -/
def cmO (σ : MS) (cm : Nat) : Prop := 0 < cm ∧ cm ∣ 232792560 ∧ ∀ s k, s < mN σ → k < mC σ s → mD σ (4 * s + k) ∣ cm
/-- the first kn rows are those of the steps -/
def LV (σ : MS) (kn : Nat) (V : Nat → Nat → Int) (B : Nat → Int) (pk : Nat → Nat → Int) : Prop := kn ≤ 9 ∧ (0 < kn → ∃ cm, cmO σ cm ∧ (∀ s, s < 6 → V 0 s = 0) ∧ B 0 = (cm : Int) ∧ ∀ k, k + 1 < kn → SR σ cm (V k) (B k) (V (k + 1)) (B (k + 1)) (pk (k + 1)))
theorem LV.b {σ : MS} (hN : mN σ ≤ 6) {kn cm : Nat} {V : Nat → Nat → Int} {B : Nat → Int} {pk : Nat → Nat → Int} (hc : cmO σ cm) (h0 : ∀ s, s < 6 → V 0 s = 0) (hB : B 0 = (cm : Int)) (hs : ∀ k, k + 1 < kn → SR σ cm (V k) (B k) (V (k + 1)) (B (k + 1)) (pk (k + 1))) : ∀ k, k < kn → 0 < B k ∧ (cm : Int) ∣ B k ∧ (B k).natAbs ≤ bb k ∧ ∀ s, s < mN σ → (V k s).natAbs ≤ 20000 * (B k).natAbs
  | 0, _ => by
    have h1 := Nat.le_of_dvd (by omega) hc.2.1
    refine ⟨by rw [hB]; have := hc.1; omega, by rw [hB]; exact Int.dvd_refl _, ?_, fun s hs => ?_⟩
    · rw [hB, Int.natAbs_natCast]
      show cm ≤ 232792560 * 59719680000000 ^ 0
      simp
      exact h1
    · rw [h0 s (by omega)]
      simp
  | k + 1, hk => by
    obtain ⟨a1, a2, a3, a4⟩ := LV.b hN hc h0 hB hs k (by omega)
    obtain ⟨b1, b2, b3, b4⟩ := hs k hk
    refine ⟨b1, b2, ?_, fun s hs => (b4 s hs).2.1⟩
    have e : bb (k + 1) = bb k * 59719680000000 := by unfold bb; rw [Nat.pow_succ, Nat.mul_assoc]
    rw [e]
    have h1 : (B k).natAbs * 59719680000000 ≤ bb k * 59719680000000 := Nat.mul_le_mul_right _ a3
    omega
theorem LV.begin {σ : MS} {cm : Nat} {V : Nat → Nat → Int} {B : Nat → Int} {pk : Nat → Nat → Int} {v : Nat → Int} (hc : cmO σ cm) (h0 : ∀ s, s < 6 → v s = 0) : LV σ 1 (uR V 0 v) (ud B 0 (cm : Int)) pk :=
  ⟨by omega, fun _ => ⟨cm, hc, fun s hs => by unfold uR; rw [if_pos rfl]; exact h0 s hs, ud_s _ _ _, fun k hk => absurd hk (by omega)⟩⟩
theorem LV.step {σ : MS} {kn cm : Nat} {V : Nat → Nat → Int} {B : Nat → Int} {pk : Nat → Nat → Int} {v g : Nat → Int} {b : Int} (hk : kn < 8) (hc : cmO σ cm) (h0 : ∀ s, s < 6 → V 0 s = 0) (hB : B 0 = (cm : Int)) (hs : ∀ k, k + 1 < kn + 1 → SR σ cm (V k) (B k) (V (k + 1)) (B (k + 1)) (pk (k + 1))) (hn : SR σ cm (V kn) (B kn) v b g) : LV σ (kn + 2) (uR V (kn + 1) v) (ud B (kn + 1) b) (uR pk (kn + 1) g) := by
  refine ⟨by omega, fun _ => ⟨cm, hc, fun s hs => by unfold uR; rw [if_neg (by omega)]; exact h0 s hs, by rw [ud_n _ _ (by omega)]; exact hB, fun k hk2 => ?_⟩⟩
  by_cases e : k = kn
  · subst e
    unfold uR
    rw [if_neg (by omega), if_pos rfl, if_pos rfl, ud_n _ _ (by omega), ud_s]
    exact hn
  · unfold uR
    rw [if_neg (by omega), if_neg (by omega), if_neg (by omega), ud_n _ _ (by omega), ud_n _ _ (by omega)]
    exact hs k (by omega)
set_option maxHeartbeats 4000000 in
set_option maxRecDepth 100000 in
/-- climb(model, chooser, n) -/
theorem c_climb (l : Launch) (D : va_G) (E : Nat → ClassId) (l0 m0 c0 gb gr n kn : Nat) (σ : MS) (vb sb vr sr : Int) (V : Nat → Nat → Int) (B : Nat → Int) (pk : Nat → Nat → Int) (hok : mOK σ) (hrd : rdy σ) (hn : n ≤ 8) (hlv : LV σ kn V B pk) (hlm : l0 + 155 < m0 ∨ m0 + 50 < l0) (hlc : l0 + 155 < c0 ∨ c0 + 8 < l0) (hcm : c0 + 8 < m0 ∨ m0 + 50 < c0) : pw_M rvV l D E yX5_climb wsX5_climb ({ frames := 5, cells := 0, slots := 0, locals := 146 } : Room) [.ref (l0), .ref (m0), .ref (c0), .int (iI ((n : Int)))] (fun H => LD D E l0 (kn : Int) V B pk H ∧ MO D E m0 σ H ∧ CH D E c0 gb gr vb sb vr sr H) (fun _ H => ∃ (gb gr : Nat) (vb sb vr sr : Int) (kn : Nat) (V : Nat → Nat → Int) (B : Nat → Int) (pk : Nat → Nat → Int), CH D E c0 gb gr vb sb vr sr H ∧ LD D E l0 (kn : Int) V B pk H ∧ LV σ kn V B pk ∧ n < kn) (fun q => (c0 ≤ q ∧ q ≤ c0 + 8) ∨ (l0 ≤ q ∧ q ≤ l0 + 155)) (0) (0) := by
  refine pw_of (cc := cX5_climb) (maxL := 4) (ret := none) (by decide +kernel) rfl (Nat.le_of_ble_eq_true rfl) ?_
  intro p e s m args below meth c hx hb hr hml hts hown hlocks hini hK ⟨hLD, hM, hCH⟩ ls hl
  have hown : s.vm.findClass RX5 = some m.cls := hown
  have hl : lv_has ls 4 [(0, .ref (l0)), (1, .ref (m0)), (2, .ref (c0)), (3, .int (iI ((n : Int))))] := hl
  have hS : va_S (fun q => (c0 ≤ q ∧ q ≤ c0 + 8) ∨ (l0 ≤ q ∧ q ≤ l0 + 155)) s.heap s.heap [] := va_S.rf
  have lk_25 := hts (.fieldLink RX5 25 "PolicyWorks$Ladder" "known" "I") (by decide +kernel)
  have hin5 : ∀ w ∈ wsX50, w ∈ wsX5_climb := by decide +kernel
  have loop : ∀ (kk kn gb gr : Nat) (vb sb vr sr : Int) (V : Nat → Nat → Int) (B : Nat → Int) (pk : Nat → Nat → Int) (H : Heap) (locs : List Loc) (ls : Array Slot), kn + kk = 9 → 0 < kn → LV σ kn V B pk → LD D E l0 (kn : Int) V B pk H → MO D E m0 σ H → CH D E c0 gb gr vb sb vr sr H → va_S (fun q => (c0 ≤ q ∧ q ≤ c0 + 8) ∨ (l0 ≤ q ∧ q ≤ l0 + 155)) s.heap H locs → lv_has ls 4 [(0, .ref (l0)), (1, .ref (m0)), (2, .ref (c0)), (3, .int (iI ((n : Int))))] → W p l e ({ frames := 5, cells := 0, slots := 0, locals := 146 } : Room) s m args below meth c H locs (0) (0) (MQ below (pw_Q rvV (fun _ H => ∃ (gb gr : Nat) (vb sb vr sr : Int) (kn : Nat) (V : Nat → Nat → Int) (B : Nat → Int) (pk : Nat → Nat → Int), CH D E c0 gb gr vb sb vr sr H ∧ LD D E l0 (kn : Int) V B pk H ∧ LV σ kn V B pk ∧ n < kn) (fun q => (c0 ≤ q ∧ q ≤ c0 + 8) ∨ (l0 ≤ q ∧ q ≤ l0 + 155))) args s (0) (0) (fun q => (c0 ≤ q ∧ q ≤ c0 + 8) ∨ (l0 ≤ q ∧ q ≤ l0 + 155))) (F0 m 17 ls []) := by
    intro kk
    induction kk with
    | zero =>
      intro kn gb gr vb sb vr sr V B pk H locs ls hk hk0 hlv hLD hM hCH hS hl
      obtain ⟨hLO, hLQ, hLX, hPQ, hPX⟩ := hLD
      refine lv_aload_n hx hb dX5_climb_17 rfl (lv_at hl 0 rfl) ?_
      refine pw_get (C := RX5) (T := TX5) (N := 3) hx hb hts hin5 hown hK hLO rfl 2 (by decide) lk_25 rfl rfl dX5_climb_18 ?_
      refine lv_iload_n hx hb dX5_climb_21 rfl (lv_at hl 3 rfl) ?_
      refine pw_icmp_gt (tgt := 57) hx hb dX5_climb_22 (by decide) (fun c_22 => ?_) (fun c_22 => absurd c_22 (by omega))
      exact pw_vret hx hb hr hlocks hS ⟨gb, gr, vb, sb, vr, sr, _, V, B, pk, hCH, ⟨hLO, hLQ, hLX, hPQ, hPX⟩, hlv, by omega⟩ dX5_climb_57
    | succ kk ih =>
      intro kn gb gr vb sb vr sr V B pk H locs ls hk hk0 hlv hLD hM hCH hS hl
      obtain ⟨hLO, hLQ, hLX, hPQ, hPX⟩ := hLD
      obtain ⟨p1, rfl⟩ : ∃ p1, kn = p1 + 1 := ⟨kn - 1, by omega⟩
      obtain ⟨hk9, hex⟩ := hlv
      obtain ⟨cm, hc, h0, hB, hs⟩ := hex (by omega)
      have hlv : LV σ (p1 + 1) V B pk := ⟨hk9, hex⟩
      clear hex
      obtain ⟨w1, w2, w3, w4⟩ := LV.b hok.1 hc h0 hB hs p1 (by omega)
      have w2 : ∃ u, B p1 = (cm : Int) * u := w2
      refine lv_aload_n hx hb dX5_climb_17 rfl (lv_at hl 0 rfl) ?_
      refine pw_get (C := RX5) (T := TX5) (N := 3) hx hb hts hin5 hown hK hLO rfl 2 (by decide) lk_25 rfl rfl dX5_climb_18 ?_
      refine lv_iload_n hx hb dX5_climb_21 rfl (lv_at hl 3 rfl) ?_
      refine pw_icmp_gt (tgt := 57) hx hb dX5_climb_22 (by decide) (fun c_22 => ?_) (fun c_22 => ?_)
      · exact pw_vret hx hb hr hlocks hS ⟨gb, gr, vb, sb, vr, sr, _, V, B, pk, hCH, ⟨hLO, hLQ, hLX, hPQ, hPX⟩, hlv, by omega⟩ dX5_climb_57
      · refine lv_aload_n hx hb dX5_climb_25 rfl (lv_at hl 0 rfl) ?_
        refine pw_get (C := RX5) (T := TX5) (N := 3) hx hb hts hin5 hown hK hLO rfl 2 (by decide) lk_25 rfl rfl dX5_climb_26 ?_
        refine pw_bipush hx hb dX5_climb_29 ?_
        refine pw_icmp_gt (tgt := 57) hx hb dX5_climb_31 (by decide) (fun c_31 => absurd c_31 (by omega)) (fun c_31 => ?_)
        refine lv_aload_n hx hb dX5_climb_34 rfl (lv_at hl 0 rfl) ?_
        refine lv_aload_n hx hb dX5_climb_35 rfl (lv_at hl 1 rfl) ?_
        refine lv_aload_n hx hb dX5_climb_36 rfl (lv_at hl 2 rfl) ?_
        refine lv_aload_n hx hb dX5_climb_37 rfl (lv_at hl 0 rfl) ?_
        refine pw_get (C := RX5) (T := TX5) (N := 3) hx hb hts hin5 hown hK hLO rfl 2 (by decide) lk_25 rfl rfl dX5_climb_38 ?_
        refine pw_callVv (As := [.ref (m0), .ref (c0), .int (iI (((p1 + 1 : Nat) : Int)))]) (rest := []) ⟨hx, hb, hml, hown, hts⟩ (c_step l D E l0 m0 c0 p1 gb gr σ ((p1 + 1 : Nat) : Int) vb sb vr sr V B pk cm hok hrd (by omega) hlm hlc hcm hc.2.2 w1 w2 w3 w4) (cwV 3 hts gX5_climb_X5_step rfl rfl rfl (by decide +kernel) ⟨Nat.le_of_ble_eq_true rfl, Nat.le_of_ble_eq_true rfl⟩) hK hLO rfl ⟨⟨hLO, hLQ, hLX, hPQ, hPX⟩, hM, hCH⟩ rfl hl.1 rfl (Nat.le_of_ble_eq_true rfl) dX5_climb_41 ⟨Nat.zero_le _, Nat.zero_le _⟩ hS (fun q h => by (try dsimp only at h); (try dsimp only); omega) (fun H1 locs1 ⟨gb, gr, vb, sb, vr, sr, v', b', g, hCH, hSR, hLO, hLQ, hLX, hPQ, hPX⟩ hz1 hk1 hS => ?_)
        have hM := hM.k (fun q h1 h2 h3 => (hk1 _ h3 (by (try dsimp only); omega)))
        refine lv_aload_n hx hb dX5_climb_44 rfl (lv_at hl 0 rfl) ?_
        refine lv_dup hx hb dX5_climb_45 rfl ?_
        refine pw_get (C := RX5) (T := TX5) (N := 3) hx hb hts hin5 hown hK hLO rfl 2 (by decide) lk_25 rfl rfl dX5_climb_46 ?_
        refine pw_iconst hx hb dX5_climb_49 ?_
        refine pw_iadd hx hb dX5_climb_50 ?_
        refine pw_asi (((p1 + 2 : Nat) : Int)) (by omega) ?_
        refine pw_put (C := RX5) (T := TX5) (N := 3) hx hb hts hin5 tyX5 tyX5_ok nmX5 hown hK hLO hS (by (try dsimp only); omega) rfl 2 (by decide) lk_25 rfl rfl rfl rfl (by show _ < 3; decide) dX5_climb_51 (fun H1 locs1 hnew hz1 oq hS => ?_)
        have hLQ := hLQ.k (oq _ (by omega))
        have hLX := hLX.k (fun q h1 h2 h3 => (oq _ (by omega)))
        have hPQ := hPQ.k (oq _ (by omega))
        have hPX := hPX.k (fun q h1 h2 h3 => (oq _ (by omega)))
        have hM := hM.k (fun q h1 h2 h3 => (oq _ (by omega)))
        have hCH := hCH.k (fun q h1 h2 h3 => (oq _ (by omega)))
        have hLO : OA D (l0) 5 [.ref (l0 + 1), .ref (l0 + 146), .int (iI (((p1 + 2 : Nat) : Int)))] H1 := hnew
        clear hnew oq hz1
        refine lv_goto (tgt := 17) hx hb dX5_climb_54 (by decide) ?_
        exact ih (p1 + 2) gb gr _ _ _ _ _ _ _ _ _ _ (by omega) (by omega) (LV.step (by omega) hc h0 hB hs hSR) ⟨hLO, hLQ, hLX, hPQ, hPX⟩ hM hCH hS (lv_sub hl [0, 1, 2, 3] rfl)
  obtain ⟨hLO, hLQ, hLX, hPQ, hPX⟩ := hLD
  have hk9 := hlv.1
  refine lv_aload_n hx hb dX5_climb_0 rfl (lv_at hl 0 rfl) ?_
  refine pw_get (C := RX5) (T := TX5) (N := 3) hx hb hts hin5 hown hK hLO rfl 2 (by decide) lk_25 rfl rfl dX5_climb_1 ?_
  refine pw_if_ne (tgt := 17) hx hb dX5_climb_4 (by decide) (fun c_4 => ?_) (fun c_4 => ?_)
  · exact loop (9 - kn) kn gb gr _ _ _ _ _ _ _ _ _ _ (by omega) (by omega) hlv ⟨hLO, hLQ, hLX, hPQ, hPX⟩ hM hCH hS (lv_sub hl [0, 1, 2, 3] rfl)
  · refine lv_aload_n hx hb dX5_climb_7 rfl (lv_at hl 0 rfl) ?_
    refine lv_aload_n hx hb dX5_climb_8 rfl (lv_at hl 1 rfl) ?_
    refine pw_callVv (As := [.ref (m0)]) (rest := []) ⟨hx, hb, hml, hown, hts⟩ (c_begin l D E l0 m0 σ (kn : Int) V B pk hok hlm) (cwV 1 hts gX5_climb_X5_begin rfl rfl rfl (by decide +kernel) ⟨Nat.le_of_ble_eq_true rfl, Nat.le_of_ble_eq_true rfl⟩) hK hLO rfl ⟨⟨hLO, hLQ, hLX, hPQ, hPX⟩, hM⟩ rfl hl.1 rfl (Nat.le_of_ble_eq_true rfl) dX5_climb_9 ⟨Nat.zero_le _, Nat.zero_le _⟩ hS (fun q h => by (try dsimp only at h); (try dsimp only); omega) (fun H1 locs1 ⟨cm, v, hc, hv, hLO, hLQ, hLX, hPQ, hPX⟩ hz1 hk1 hS => ?_)
    have hM := hM.k (fun q h1 h2 h3 => (hk1 _ h3 (by (try dsimp only); omega)))
    have hCH := hCH.k (fun q h1 h2 h3 => (hk1 _ h3 (by (try dsimp only); omega)))
    refine lv_aload_n hx hb dX5_climb_12 rfl (lv_at hl 0 rfl) ?_
    refine pw_iconst hx hb dX5_climb_13 ?_
    refine pw_put (C := RX5) (T := TX5) (N := 3) hx hb hts hin5 tyX5 tyX5_ok nmX5 hown hK hLO hS (by (try dsimp only); omega) rfl 2 (by decide) lk_25 rfl rfl rfl rfl (by show _ < 3; decide) dX5_climb_14 (fun H1 locs1 hnew hz1 oq hS => ?_)
    have hLQ := hLQ.k (oq _ (by omega))
    have hLX := hLX.k (fun q h1 h2 h3 => (oq _ (by omega)))
    have hPQ := hPQ.k (oq _ (by omega))
    have hPX := hPX.k (fun q h1 h2 h3 => (oq _ (by omega)))
    have hM := hM.k (fun q h1 h2 h3 => (oq _ (by omega)))
    have hCH := hCH.k (fun q h1 h2 h3 => (oq _ (by omega)))
    have hLO : OA D (l0) 5 [.ref (l0 + 1), .ref (l0 + 146), .int (iI (1))] H1 := hnew
    clear hnew oq hz1
    exact loop 8 1 gb gr _ _ _ _ _ _ _ _ _ _ (by omega) (by omega) (LV.begin hc hv) ⟨hLO, hLQ, hLX, hPQ, hPX⟩ hM hCH hS (lv_sub hl [0, 1, 2, 3] rfl)
