/-! the class itself: forget, hold, findWorth, improve -/
theorem j_or {a b : Int} (ha : a = 0 ∨ a = 1) (hb : b = 0 ∨ b = 1) : (iI a ||| iI b) = iI (max a b) := by
  rcases ha with h | h <;> rcases hb with h2 | h2 <;> subst h <;> subst h2 <;> decide +kernel
def tpol (σ : MS) (k s : Nat) : Nat := min k (mC σ s - 1)
theorem tpol_lt {σ : MS} (hr : rdy σ) {k s : Nat} (hs : s < mN σ) : tpol σ k s < mC σ s := by
  have := (hr.2 s hs).1
  unfold tpol
  omega
/-- which worths are known, they are so -/
def WQ (σ : MS) (wn : Nat → Nat → Int) (wd wq : Nat → Int) : Prop := ∀ k, k < 4 → wq k = 0 ∨ (wq k = 1 ∧ PV σ (tpol σ k) (wn k) (wd k))
theorem gsum_b {σ : MS} (h : mOK σ) {i : Nat} (hi : i < 24) {v : Nat → Int} {M : Nat} : ∀ k, k ≤ 6 → (∀ t, t < k → (v t).natAbs ≤ M) → (gsum σ i v k).natAbs ≤ k * (8000 * M)
  | 0, _, _ => by simp [gsum]
  | k + 1, hk, hv => by
    have ih := gsum_b h hi k (by omega) (fun t ht => hv t (by omega))
    have h1 := gct_b h hi (show k < 6 by omega)
    have h2 : (v k * gct σ i k).natAbs ≤ 8000 * M := by rw [Int.natAbs_mul, Nat.mul_comm]; exact Nat.mul_le_mul h1 (hv k (by omega))
    show (gsum σ i v k + v k * gct σ i k).natAbs ≤ _
    rw [Nat.add_mul, Nat.one_mul]
    omega
theorem pv_gn {σ : MS} {π : Nat → Nat} {v : Nat → Int} {b : Int} (h : mOK σ) (hp : PV σ π v b) {i : Nat} (hi : i < 24) : (gnum σ i v b).natAbs < 1000000 ^ 23 := by
  have h1 := gsum_b h hi (M := 16800000 ^ 6) (mN σ) h.1 (fun t ht => (hp.2.2 t ht).2)
  have h2 := gc0_b h hi
  have h3 : (b * gc0 σ i).natAbs ≤ 16800000 ^ 6 * 2400000 := by rw [Int.natAbs_mul]; exact Nat.mul_le_mul hp.2.1 h2
  have h4 : mN σ * (8000 * 16800000 ^ 6) ≤ 6 * (8000 * 16800000 ^ 6) := Nat.mul_le_mul_right _ h.1
  have h5 : 16800000 ^ 6 * 2400000 + 6 * (8000 * 16800000 ^ 6) < 1000000 ^ 23 := by decide +kernel
  unfold gnum
  omega
set_option maxHeartbeats 4000000 in
set_option maxRecDepth 100000 in
/-- forget() -/
theorem c_forget (l : Launch) (D : va_G) (E : Nat → ClassId) (o0 : Nat) (rn kn : Int) (wq : Nat → Int) : pw_M rvV l D E yX9_forget wsX9_forget ({ frames := 0, cells := 0, slots := 0, locals := 0 } : Room) [.ref (o0)] (fun H => OA D o0 9 [.ref (o0 + 1), .ref (o0 + 52), .ref (o0 + 317), .ref (o0 + 326), .ref (o0 + 482), .ref (o0 + 498), .ref (o0 + 499), .ref (o0 + 564), .ref (o0 + 565), .ref (o0 + 566), .ref (o0 + 577), .ref (o0 + 579), .ref (o0 + 581), .int (iI (rn))] H ∧ OA D (o0 + 326) 5 [.ref (o0 + 326 + 1), .ref (o0 + 326 + 146), .int (iI (kn))] H ∧ ZA E (o0 + 564) 4 wq H) (fun _ H => OA D o0 9 [.ref (o0 + 1), .ref (o0 + 52), .ref (o0 + 317), .ref (o0 + 326), .ref (o0 + 482), .ref (o0 + 498), .ref (o0 + 499), .ref (o0 + 564), .ref (o0 + 565), .ref (o0 + 566), .ref (o0 + 577), .ref (o0 + 579), .ref (o0 + 581), .int (iI (0))] H ∧ OA D (o0 + 326) 5 [.ref (o0 + 326 + 1), .ref (o0 + 326 + 146), .int (iI (0))] H ∧ ZA E (o0 + 564) 4 (fun _ => 0) H) (fun q => q = o0 ∨ q = o0 + 326 ∨ q = o0 + 564) (0) (0) := by
  refine pw_of (cc := cX9_forget) (maxL := 2) (ret := none) (by decide +kernel) rfl (Nat.le_of_ble_eq_true rfl) ?_
  intro p e s m args below meth c hx hb hr hml hts hown hlocks hini hK ⟨hO, hL, hZ⟩ ls hl
  have hown : s.vm.findClass RX9 = some m.cls := hown
  have hl : lv_has ls 2 [(0, .ref (o0))] := hl
  have hS : va_S (fun q => q = o0 ∨ q = o0 + 326 ∨ q = o0 + 564) s.heap s.heap [] := va_S.rf
  have lk_33 := hts (.fieldLink RX9 33 "PolicyWorks" "ladder" "LPolicyWorks$Ladder;") (by decide +kernel)
  have lk_54 := hts (.fieldLink RX9 54 "PolicyWorks" "worthKnown" "[Z") (by decide +kernel)
  have lk_81 := hts (.fieldLink RX9 81 "PolicyWorks" "rounds" "I") (by decide +kernel)
  have lk_216 := hts (.fieldLink RX9 216 "PolicyWorks$Ladder" "known" "I") (by decide +kernel)
  have hin5 : ∀ w ∈ wsX50, w ∈ wsX9_forget := by decide +kernel
  have hin9 : ∀ w ∈ wsX90, w ∈ wsX9_forget := by decide +kernel
  have loop : ∀ (kk k : Nat) (g : Nat → Int) (H : Heap) (locs : List Loc) (ls : Array Slot), k + kk = 4 → (∀ j, j < k → g j = 0) → OA D (o0) 9 [.ref (o0 + 1), .ref (o0 + 52), .ref (o0 + 317), .ref (o0 + 326), .ref (o0 + 482), .ref (o0 + 498), .ref (o0 + 499), .ref (o0 + 564), .ref (o0 + 565), .ref (o0 + 566), .ref (o0 + 577), .ref (o0 + 579), .ref (o0 + 581), .int (iI (0))] H → OA D (o0 + 326) 5 [.ref (o0 + 326 + 1), .ref (o0 + 326 + 146), .int (iI (0))] H → ZA E (o0 + 564) 4 g H → va_S (fun q => q = o0 ∨ q = o0 + 326 ∨ q = o0 + 564) s.heap H locs → lv_has ls 2 [(0, .ref (o0)), (1, .int (iI ((k : Int))))] → W p l e ({ frames := 0, cells := 0, slots := 0, locals := 0 } : Room) s m args below meth c H locs (0) (0) (MQ below (pw_Q rvV (fun _ H => OA D o0 9 [.ref (o0 + 1), .ref (o0 + 52), .ref (o0 + 317), .ref (o0 + 326), .ref (o0 + 482), .ref (o0 + 498), .ref (o0 + 499), .ref (o0 + 564), .ref (o0 + 565), .ref (o0 + 566), .ref (o0 + 577), .ref (o0 + 579), .ref (o0 + 581), .int (iI (0))] H ∧ OA D (o0 + 326) 5 [.ref (o0 + 326 + 1), .ref (o0 + 326 + 146), .int (iI (0))] H ∧ ZA E (o0 + 564) 4 (fun _ => 0) H) (fun q => q = o0 ∨ q = o0 + 326 ∨ q = o0 + 564)) args s (0) (0) (fun q => q = o0 ∨ q = o0 + 326 ∨ q = o0 + 564)) (F0 m 15 ls []) := by
    intro kk
    induction kk with
    | zero =>
      intro k g H locs ls hk h0 hO hL hZ hS hl
      refine lv_iload_n hx hb dX9_forget_15 rfl (lv_at hl 1 rfl) ?_
      refine pw_iconst hx hb dX9_forget_16 ?_
      refine pw_icmp_ge (tgt := 33) hx hb dX9_forget_17 (by decide) (fun c_17 => ?_) (fun c_17 => absurd c_17 (by omega))
      exact pw_vret hx hb hr hlocks hS ⟨hO, hL, hZ.up (fun j hj => h0 j (by omega))⟩ dX9_forget_33
    | succ kk ih =>
      intro k g H locs ls hk h0 hO hL hZ hS hl
      refine lv_iload_n hx hb dX9_forget_15 rfl (lv_at hl 1 rfl) ?_
      refine pw_iconst hx hb dX9_forget_16 ?_
      refine pw_icmp_ge (tgt := 33) hx hb dX9_forget_17 (by decide) (fun c_17 => absurd c_17 (by omega)) (fun c_17 => ?_)
      refine lv_aload_n hx hb dX9_forget_20 rfl (lv_at hl 0 rfl) ?_
      refine pw_get (C := RX9) (T := TX9) (N := 14) hx hb hts hin9 hown hK hO rfl 7 (by decide) lk_54 rfl rfl dX9_forget_21 ?_
      refine lv_iload_n hx hb dX9_forget_24 rfl (lv_at hl 1 rfl) ?_
      refine pw_iconst hx hb dX9_forget_25 ?_
      refine pw_zast hx hb hK hZ hS (by (try dsimp only); omega) (k) rfl (by omega) (by omega) (by omega) dX9_forget_26 (fun H1 locs1 hnew hz1 oq hS => ?_)
      have hO := hO.k (oq _ (by omega))
      have hL := hL.k (oq _ (by omega))
      have hZ := hnew
      clear hnew oq hz1
      refine lv_iinc (v := iI (((k + 1 : Nat) : Int))) (lv' := [(1, .int (iI (((k + 1 : Nat) : Int)))), (0, .ref (o0))]) hx hb dX9_forget_27 hl (k := 1) rfl (by show iI _ + iI _ = _; exact (iI_add _ _).trans (by first | rfl | (congr 1; omega))) (by decide) rfl (fun ls hl => ?_)
      refine lv_goto (tgt := 15) hx hb dX9_forget_30 (by decide) ?_
      exact ih (k + 1) _ _ _ _ (by omega) (fun j hj => ud_ext (t := fun _ => 0) h0 rfl j hj) hO hL hZ hS (lv_sub hl [1, 0] rfl)
  refine lv_aload_n hx hb dX9_forget_0 rfl (lv_at hl 0 rfl) ?_
  refine pw_iconst hx hb dX9_forget_1 ?_
  refine pw_put (C := RX9) (T := TX9) (N := 14) hx hb hts hin9 tyX9 tyX9_ok nmX9 hown hK hO hS (by (try dsimp only); omega) rfl 13 (by decide) lk_81 rfl rfl rfl rfl (by show _ < 14; decide) dX9_forget_2 (fun H1 locs1 hnew hz1 oq hS => ?_)
  have hL := hL.k (oq _ (by omega))
  have hZ := hZ.k (oq _ (by omega))
  have hO : OA D (o0) 9 [.ref (o0 + 1), .ref (o0 + 52), .ref (o0 + 317), .ref (o0 + 326), .ref (o0 + 482), .ref (o0 + 498), .ref (o0 + 499), .ref (o0 + 564), .ref (o0 + 565), .ref (o0 + 566), .ref (o0 + 577), .ref (o0 + 579), .ref (o0 + 581), .int (iI (0))] H1 := hnew
  clear hnew oq hz1
  refine lv_aload_n hx hb dX9_forget_5 rfl (lv_at hl 0 rfl) ?_
  refine pw_get (C := RX9) (T := TX9) (N := 14) hx hb hts hin9 hown hK hO rfl 3 (by decide) lk_33 rfl rfl dX9_forget_6 ?_
  refine pw_iconst hx hb dX9_forget_9 ?_
  refine pw_put (C := RX5) (T := TX5) (N := 3) hx hb hts hin5 tyX5 tyX5_ok nmX5 hown hK hL hS (by (try dsimp only); omega) rfl 2 (by decide) lk_216 rfl rfl rfl rfl (by show _ < 3; decide) dX9_forget_10 (fun H1 locs1 hnew hz1 oq hS => ?_)
  have hO := hO.k (oq _ (by omega))
  have hZ := hZ.k (oq _ (by omega))
  have hL : OA D (o0 + 326) 5 [.ref (o0 + 326 + 1), .ref (o0 + 326 + 146), .int (iI (0))] H1 := hnew
  clear hnew oq hz1
  refine pw_iconst hx hb dX9_forget_13 ?_
  refine lv_istore_n (lv' := [(1, .int (iI (0))), (0, .ref (o0))]) hx hb dX9_forget_14 rfl hl (by decide) rfl (fun ls hl => ?_)
  exact loop 4 0 _ _ _ _ (by omega) (fun j hj => by omega) hO hL hZ hS (lv_sub hl [1, 0] rfl)
set_option maxHeartbeats 4000000 in
set_option maxRecDepth 100000 in
/-- hold(row, state) -/
theorem c_hold (l : Launch) (D : va_G) (E : Nat → ClassId) (o0 r0 n st : Nat) (rn : Int) (v : Nat → Int) (b u w o1 o2 o3 : Int) (hst : st < 6) (hn : n ≤ 24) (har : r0 + 15 < o0 + 566 ∨ o0 + 576 < r0) : pw_M rvV l D E yX9_hold wsX9_hold ({ frames := 3, cells := 0, slots := 0, locals := 65 } : Room) [.ref (o0), .ref (r0), .int (iI ((st : Int)))] (fun H => OA D o0 9 [.ref (o0 + 1), .ref (o0 + 52), .ref (o0 + 317), .ref (o0 + 326), .ref (o0 + 482), .ref (o0 + 498), .ref (o0 + 499), .ref (o0 + 564), .ref (o0 + 565), .ref (o0 + 566), .ref (o0 + 577), .ref (o0 + 579), .ref (o0 + 581), .int (iI (rn))] H ∧ FR D E (o0 + 566) u w o1 o2 o3 H ∧ RW D E r0 n v b H) (fun _ H => FR D E (o0 + 566) (v st) b o1 o2 o3 H) (fun q => o0 + 567 ≤ q ∧ q ≤ o0 + 570) (0) (0) := by
  refine pw_of (cc := cX9_hold) (maxL := 3) (ret := none) (by decide +kernel) rfl (Nat.le_of_ble_eq_true rfl) ?_
  intro p e s m args below meth c hx hb hr hml hts hown hlocks hini hK ⟨hO, ⟨hF, hU, hV, h5, h7, h9⟩, hRW⟩ ls hl
  have hown : s.vm.findClass RX9 = some m.cls := hown
  have hl : lv_has ls 3 [(0, .ref (o0)), (1, .ref (r0)), (2, .int (iI ((st : Int))))] := hl
  have hS : va_S (fun q => o0 + 567 ≤ q ∧ q ≤ o0 + 570) s.heap s.heap [] := va_S.rf
  have lk_64 := hts (.fieldLink RX9 64 "PolicyWorks" "told" "LPolicyWorks$Fraction;") (by decide +kernel)
  have lk_164 := hts (.fieldLink RX9 164 "PolicyWorks$Fraction" "above" "LPolicyWorks$Whole;") (by decide +kernel)
  have lk_171 := hts (.fieldLink RX9 171 "PolicyWorks$Fraction" "below" "LPolicyWorks$Whole;") (by decide +kernel)
  have lk_173 := hts (.fieldLink RX9 173 "PolicyWorks$Row" "below" "LPolicyWorks$Whole;") (by decide +kernel)
  have lk_232 := hts (.fieldLink RX9 232 "PolicyWorks$Row" "above" "[LPolicyWorks$Whole;") (by decide +kernel)
  have hin3 : ∀ w ∈ wsX30, w ∈ wsX9_hold := by decide +kernel
  have hin7 : ∀ w ∈ wsX70, w ∈ wsX9_hold := by decide +kernel
  have hin9 : ∀ w ∈ wsX90, w ∈ wsX9_hold := by decide +kernel
  have hRO := hRW.1
  have hRQ := hRW.2.1
  have hvs := hRW.2.2.1 st hst
  have hvb := hRW.2.2.2
  have hm := bp_mono hn
  have hb1 := int_lt (Nat.lt_of_lt_of_le hvs.b hm)
  have hb2 := int_lt (Nat.lt_of_lt_of_le hvb.b hm)
  obtain ⟨k1, hUr⟩ := hU.r
  obtain ⟨k2, hVr⟩ := hV.r
  refine lv_aload_n hx hb dX9_hold_0 rfl (lv_at hl 0 rfl) ?_
  refine pw_get (C := RX9) (T := TX9) (N := 14) hx hb hts hin9 hown hK hO rfl 9 (by decide) lk_64 rfl rfl dX9_hold_1 ?_
  refine pw_get (C := RX3) (T := TX3) (N := 5) hx hb hts hin3 hown hK hF rfl 0 (by decide) lk_164 rfl rfl dX9_hold_4 ?_
  refine lv_aload_n hx hb dX9_hold_7 rfl (lv_at hl 1 rfl) ?_
  refine pw_get (C := RX7) (T := TX7) (N := 2) hx hb hts hin7 hown hK hRO rfl 0 (by decide) lk_232 rfl rfl dX9_hold_8 ?_
  refine lv_iload_n hx hb dX9_hold_11 rfl (lv_at hl 2 rfl) ?_
  refine pw_qald hx hb hK hRQ rfl (st) rfl (by omega) (by omega) rfl dX9_hold_12 ?_
  refine pw_callVv (As := [.ref (r0 + 2 + 2 * st)]) (rest := []) ⟨hx, hb, hml, hown, hts⟩ (c_copy l D E (o0 + 566 + 1) 24 (r0 + 2 + 2 * st) n (wdig u) k1 u.sign (v st) (by omega) (by omega) (by omega) hb1.1 hb1.2) (cwV 1 hts gX9_hold_X8_copy rfl rfl rfl (by decide +kernel) ⟨Nat.le_of_ble_eq_true rfl, Nat.le_of_ble_eq_true rfl⟩) hK hUr.1 rfl ⟨hUr, hvs⟩ rfl hl.1 rfl (Nat.le_of_ble_eq_true rfl) dX9_hold_13 ⟨Nat.zero_le _, Nat.zero_le _⟩ hS (fun q h => by (try dsimp only at h); (try dsimp only); omega) (fun H1 locs1 hU hz1 hk1 hS => ?_)
  have hO := hO.k (hk1 _ hO.lt (by (try dsimp only); omega))
  have hF := hF.k (hk1 _ hF.lt (by (try dsimp only); omega))
  have hVr := hVr.k (hk1 _ hVr.1.lt (by (try dsimp only); omega)) (hk1 _ hVr.2.lt (by (try dsimp only); omega))
  have h5 := h5.k (hk1 _ (by have := h5.lt; omega) (by (try dsimp only); omega)) (hk1 _ h5.lt (by (try dsimp only); omega))
  have h7 := h7.k (hk1 _ (by have := h7.lt; omega) (by (try dsimp only); omega)) (hk1 _ h7.lt (by (try dsimp only); omega))
  have h9 := h9.k (hk1 _ (by have := h9.lt; omega) (by (try dsimp only); omega)) (hk1 _ h9.lt (by (try dsimp only); omega))
  have hRO := hRO.k (hk1 _ hRO.lt (by (try dsimp only); omega))
  have hRQ := hRQ.k (hk1 _ hRQ.lt (by (try dsimp only); omega))
  have hvs := hvs.k (hk1 _ (by have := hvs.lt; omega) (by (try dsimp only); omega)) (hk1 _ hvs.lt (by (try dsimp only); omega))
  have hvb := hvb.k (hk1 _ (by have := hvb.lt; omega) (by (try dsimp only); omega)) (hk1 _ hvb.lt (by (try dsimp only); omega))
  refine lv_aload_n hx hb dX9_hold_16 rfl (lv_at hl 0 rfl) ?_
  refine pw_get (C := RX9) (T := TX9) (N := 14) hx hb hts hin9 hown hK hO rfl 9 (by decide) lk_64 rfl rfl dX9_hold_17 ?_
  refine pw_get (C := RX3) (T := TX3) (N := 5) hx hb hts hin3 hown hK hF rfl 1 (by decide) lk_171 rfl rfl dX9_hold_20 ?_
  refine lv_aload_n hx hb dX9_hold_23 rfl (lv_at hl 1 rfl) ?_
  refine pw_get (C := RX7) (T := TX7) (N := 2) hx hb hts hin7 hown hK hRO rfl 1 (by decide) lk_173 rfl rfl dX9_hold_24 ?_
  refine pw_callVv (As := [.ref (r0 + 14)]) (rest := []) ⟨hx, hb, hml, hown, hts⟩ (c_copy l D E (o0 + 566 + 3) 24 (r0 + 14) n (wdig w) k2 w.sign b (by omega) (by omega) (by omega) hb2.1 hb2.2) (cwV 1 hts gX9_hold_X8_copy rfl rfl rfl (by decide +kernel) ⟨Nat.le_of_ble_eq_true rfl, Nat.le_of_ble_eq_true rfl⟩) hK hVr.1 rfl ⟨hVr, hvb⟩ rfl hl.1 rfl (Nat.le_of_ble_eq_true rfl) dX9_hold_27 ⟨Nat.zero_le _, Nat.zero_le _⟩ hS (fun q h => by (try dsimp only at h); (try dsimp only); omega) (fun H1 locs1 hV hz1 hk1 hS => ?_)
  have hO := hO.k (hk1 _ hO.lt (by (try dsimp only); omega))
  have hF := hF.k (hk1 _ hF.lt (by (try dsimp only); omega))
  have hU := hU.k (hk1 _ (by have := hU.lt; omega) (by (try dsimp only); omega)) (hk1 _ hU.lt (by (try dsimp only); omega))
  have h5 := h5.k (hk1 _ (by have := h5.lt; omega) (by (try dsimp only); omega)) (hk1 _ h5.lt (by (try dsimp only); omega))
  have h7 := h7.k (hk1 _ (by have := h7.lt; omega) (by (try dsimp only); omega)) (hk1 _ h7.lt (by (try dsimp only); omega))
  have h9 := h9.k (hk1 _ (by have := h9.lt; omega) (by (try dsimp only); omega)) (hk1 _ h9.lt (by (try dsimp only); omega))
  have hRO := hRO.k (hk1 _ hRO.lt (by (try dsimp only); omega))
  have hRQ := hRQ.k (hk1 _ hRQ.lt (by (try dsimp only); omega))
  have hvs := hvs.k (hk1 _ (by have := hvs.lt; omega) (by (try dsimp only); omega)) (hk1 _ hvs.lt (by (try dsimp only); omega))
  have hvb := hvb.k (hk1 _ (by have := hvb.lt; omega) (by (try dsimp only); omega)) (hk1 _ hvb.lt (by (try dsimp only); omega))
  exact pw_vret hx hb hr hlocks hS ⟨hF, hU, hV, h5, h7, h9⟩ dX9_hold_30
set_option maxHeartbeats 4000000 in
set_option maxRecDepth 100000 in
/-- findWorth(k) -/
theorem c_findWorth (l : Launch) (D : va_G) (E : Nat → ClassId) (o0 k : Nat) (σ : MS) (rn : Int) (wn : Nat → Nat → Int) (wd wq : Nat → Int) (hok : mOK σ) (hrd : rdy σ) (hk : k < 4) (hwq : WQ σ wn wd wq) : pw_M rvR l D E yX9_findWorth wsX9_findWorth ({ frames := 4, cells := 0, slots := 0, locals := 118 } : Room) [.ref (o0), .int (iI ((k : Int)))] (fun H => OA D o0 9 [.ref (o0 + 1), .ref (o0 + 52), .ref (o0 + 317), .ref (o0 + 326), .ref (o0 + 482), .ref (o0 + 498), .ref (o0 + 499), .ref (o0 + 564), .ref (o0 + 565), .ref (o0 + 566), .ref (o0 + 577), .ref (o0 + 579), .ref (o0 + 581), .int (iI (rn))] H ∧ MO D E (o0 + 1) σ H ∧ EQx D E (o0 + 52) H ∧ QA E 4 (o0 + 499) 4 (fun k => some (o0 + 500 + 16 * k)) H ∧ WRS D E (o0 + 500) 4 wn wd H ∧ ZA E (o0 + 564) 4 wq H ∧ IAx E (o0 + 565) H) (fun r0 H => r0 = o0 + 500 + 16 * k ∧ EQx D E (o0 + 52) H ∧ IAx E (o0 + 565) H ∧ ∃ wn wd wq, WRS D E (o0 + 500) 4 wn wd H ∧ ZA E (o0 + 564) 4 wq H ∧ WQ σ wn wd wq ∧ PV σ (tpol σ k) (wn k) (wd k)) (fun q => (o0 + 52 ≤ q ∧ q ≤ o0 + 316) ∨ (o0 + 500 ≤ q ∧ q ≤ o0 + 565)) (0) (0) := by
  refine pw_of (cc := cX9_findWorth) (maxL := 3) (ret := (some (.object "PolicyWorks$Row"))) (by decide +kernel) rfl (Nat.le_of_ble_eq_true rfl) ?_
  intro p e s m args below meth c hx hb hr hml hts hown hlocks hini hK ⟨hO, hM, hE, hQ, hWS, hZ, hT⟩ ls hl
  have hown : s.vm.findClass RX9 = some m.cls := hown
  have hl : lv_has ls 3 [(0, .ref (o0)), (1, .int (iI ((k : Int))))] := hl
  have hS : va_S (fun q => (o0 + 52 ≤ q ∧ q ≤ o0 + 316) ∨ (o0 + 500 ≤ q ∧ q ≤ o0 + 565)) s.heap s.heap [] := va_S.rf
  have lk_10 := hts (.fieldLink RX9 10 "PolicyWorks" "model" "LPolicyWorks$Model;") (by decide +kernel)
  have lk_19 := hts (.fieldLink RX9 19 "PolicyWorks" "equations" "LPolicyWorks$Equations;") (by decide +kernel)
  have lk_50 := hts (.fieldLink RX9 50 "PolicyWorks" "worths" "[LPolicyWorks$Row;") (by decide +kernel)
  have lk_54 := hts (.fieldLink RX9 54 "PolicyWorks" "worthKnown" "[Z") (by decide +kernel)
  have lk_58 := hts (.fieldLink RX9 58 "PolicyWorks" "trial" "[I") (by decide +kernel)
  have lk_85 := hts (.fieldLink RX9 85 "PolicyWorks$Model" "states" "I") (by decide +kernel)
  have lk_95 := hts (.fieldLink RX9 95 "PolicyWorks$Model" "actionCounts" "[I") (by decide +kernel)
  have hin6 : ∀ w ∈ wsX60, w ∈ wsX9_findWorth := by decide +kernel
  have hin9 : ∀ w ∈ wsX90, w ∈ wsX9_findWorth := by decide +kernel
  have hN6 := hok.1
  have hC4 := hok.2.1
  have hMO := hM.1
  have hC := hM.2.1
  have hwk := hwq k hk
  have loop : ∀ (kk t : Nat) (g : Nat → Int) (H : Heap) (locs : List Loc) (ls : Array Slot), t + kk = mN σ → wq k = 0 → (∀ j, j < t → g j = (tpol σ k j : Int)) → OA D (o0) 9 [.ref (o0 + 1), .ref (o0 + 52), .ref (o0 + 317), .ref (o0 + 326), .ref (o0 + 482), .ref (o0 + 498), .ref (o0 + 499), .ref (o0 + 564), .ref (o0 + 565), .ref (o0 + 566), .ref (o0 + 577), .ref (o0 + 579), .ref (o0 + 581), .int (iI (rn))] H → MO D E (o0 + 1) σ H → EQx D E (o0 + 52) H → QA E 4 (o0 + 499) 4 (fun k => some (o0 + 500 + 16 * k)) H → WRS D E (o0 + 500) 4 wn wd H → ZA E (o0 + 564) 4 wq H → IA E (o0 + 565) 6 g H → va_S (fun q => (o0 + 52 ≤ q ∧ q ≤ o0 + 316) ∨ (o0 + 500 ≤ q ∧ q ≤ o0 + 565)) s.heap H locs → lv_has ls 3 [(0, .ref (o0)), (1, .int (iI ((k : Int)))), (2, .int (iI ((t : Int))))] → W p l e ({ frames := 4, cells := 0, slots := 0, locals := 118 } : Room) s m args below meth c H locs (0) (0) (MQ below (pw_Q rvR (fun r0 H => r0 = o0 + 500 + 16 * k ∧ EQx D E (o0 + 52) H ∧ IAx E (o0 + 565) H ∧ ∃ wn wd wq, WRS D E (o0 + 500) 4 wn wd H ∧ ZA E (o0 + 564) 4 wq H ∧ WQ σ wn wd wq ∧ PV σ (tpol σ k) (wn k) (wd k)) (fun q => (o0 + 52 ≤ q ∧ q ≤ o0 + 316) ∨ (o0 + 500 ≤ q ∧ q ≤ o0 + 565))) args s (0) (0) (fun q => (o0 + 52 ≤ q ∧ q ≤ o0 + 316) ∨ (o0 + 500 ≤ q ∧ q ≤ o0 + 565))) (F0 m 11 ls []) := by
    intro kk
    induction kk with
    | zero =>
      intro t g H locs ls ht hw0 h0 hO hM hE hQ hWS hZ hT hS hl
      have hMO := hM.1
      have hC := hM.2.1
      obtain ⟨R0, mn0, hEQ⟩ := hE
      have hRk := hWS k hk (by omega)
      have hWSx : WRS D E (o0 + 500) k wn wd H := fun j h1 _ => hWS j h1 (by omega)
      have hEO := hEQ.1
      refine lv_iload_n hx hb dX9_findWorth_11 rfl (lv_at hl 2 rfl) ?_
      refine lv_aload_n hx hb dX9_findWorth_12 rfl (lv_at hl 0 rfl) ?_
      refine pw_get (C := RX9) (T := TX9) (N := 14) hx hb hts hin9 hown hK hO rfl 0 (by decide) lk_10 rfl rfl dX9_findWorth_13 ?_
      refine pw_get (C := RX6) (T := TX6) (N := 5) hx hb hts hin6 hown hK hMO rfl 2 (by decide) lk_85 rfl rfl dX9_findWorth_16 ?_
      refine pw_icmp_ge (tgt := 49) hx hb dX9_findWorth_19 (by decide) (fun c_19 => ?_) (fun c_19 => absurd c_19 (by omega))
      refine lv_aload_n hx hb dX9_findWorth_49 rfl (lv_at hl 0 rfl) ?_
      refine pw_get (C := RX9) (T := TX9) (N := 14) hx hb hts hin9 hown hK hO rfl 1 (by decide) lk_19 rfl rfl dX9_findWorth_50 ?_
      refine lv_aload_n hx hb dX9_findWorth_53 rfl (lv_at hl 0 rfl) ?_
      refine pw_get (C := RX9) (T := TX9) (N := 14) hx hb hts hin9 hown hK hO rfl 0 (by decide) lk_10 rfl rfl dX9_findWorth_54 ?_
      refine lv_aload_n hx hb dX9_findWorth_57 rfl (lv_at hl 0 rfl) ?_
      refine pw_get (C := RX9) (T := TX9) (N := 14) hx hb hts hin9 hown hK hO rfl 8 (by decide) lk_58 rfl rfl dX9_findWorth_58 ?_
      refine lv_aload_n hx hb dX9_findWorth_61 rfl (lv_at hl 0 rfl) ?_
      refine pw_get (C := RX9) (T := TX9) (N := 14) hx hb hts hin9 hown hK hO rfl 6 (by decide) lk_50 rfl rfl dX9_findWorth_62 ?_
      refine lv_iload_n hx hb dX9_findWorth_65 rfl (lv_at hl 1 rfl) ?_
      refine pw_qald hx hb hK hQ rfl (k) rfl (by omega) (by omega) rfl dX9_findWorth_66 ?_
      refine pw_callVv (As := [.ref (o0 + 1), .ref (o0 + 565), .ref (o0 + 500 + 16 * k)]) (rest := []) ⟨hx, hb, hml, hown, hts⟩ (c_findValues l D E (o0 + 52) (o0 + 1) (o0 + 565) (o0 + 500 + 16 * k) σ (tpol σ k) g R0 mn0 (wn k) (wd k) (fun s hs => h0 s (by omega)) hok hrd (fun s hs => tpol_lt hrd hs) (by omega) (by omega) (by omega) (by omega) (by omega)) (cwV 3 hts gX9_findWorth_X2_findValues rfl rfl rfl (by decide +kernel) ⟨Nat.le_of_ble_eq_true rfl, Nat.le_of_ble_eq_true rfl⟩) hK hEO rfl ⟨hEQ, hM, hT, hRk⟩ rfl hl.1 rfl (Nat.le_of_ble_eq_true rfl) dX9_findWorth_67 ⟨Nat.zero_le _, Nat.zero_le _⟩ hS (fun q h => by (try dsimp only at h); (try dsimp only); omega) (fun H1 locs1 ⟨R1, mn1, v1, b1, hEQ, hRk, hPV⟩ hz1 hk1 hS => ?_)
      have hO := hO.k (hk1 _ hO.lt (by (try dsimp only); omega))
      have hM := hM.k (fun q h1 h2 h3 => (hk1 _ h3 (by (try dsimp only); omega)))
      have hMO := hMO.k (hk1 _ hMO.lt (by (try dsimp only); omega))
      have hC := hC.k (hk1 _ hC.lt (by (try dsimp only); omega))
      have hQ := hQ.k (hk1 _ hQ.lt (by (try dsimp only); omega))
      have hWSx := hWSx.k (fun q h1 h2 h3 => (hk1 _ h3 (by (try dsimp only); omega)))
      have hZ := hZ.k (hk1 _ hZ.lt (by (try dsimp only); omega))
      have hT := hT.k (hk1 _ hT.lt (by (try dsimp only); omega))
      have hEO := hEQ.1
      refine lv_aload_n hx hb dX9_findWorth_70 rfl (lv_at hl 0 rfl) ?_
      refine pw_get (C := RX9) (T := TX9) (N := 14) hx hb hts hin9 hown hK hO rfl 7 (by decide) lk_54 rfl rfl dX9_findWorth_71 ?_
      refine lv_iload_n hx hb dX9_findWorth_74 rfl (lv_at hl 1 rfl) ?_
      refine pw_iconst hx hb dX9_findWorth_75 ?_
      refine pw_zast hx hb hK hZ hS (by (try dsimp only); omega) (k) rfl (by omega) (by omega) (by omega) dX9_findWorth_76 (fun H1 locs1 hnew hz1 oq hS => ?_)
      have hO := hO.k (oq _ (by omega))
      have hM := hM.k (fun q h1 h2 h3 => (oq _ (by omega)))
      have hMO := hMO.k (oq _ (by omega))
      have hC := hC.k (oq _ (by omega))
      have hEQ := hEQ.k (fun q h1 h2 h3 => (oq _ (by omega)))
      have hQ := hQ.k (oq _ (by omega))
      have hWSx := hWSx.k (fun q h1 h2 h3 => (oq _ (by omega)))
      have hT := hT.k (oq _ (by omega))
      have hRk := hRk.k (fun q h1 h2 h3 => (oq _ (by omega)))
      have hEO := hEO.k (oq _ (by omega))
      have hZ := hnew
      clear hnew oq hz1
      refine lv_aload_n hx hb dX9_findWorth_77 rfl (lv_at hl 0 rfl) ?_
      refine pw_get (C := RX9) (T := TX9) (N := 14) hx hb hts hin9 hown hK hO rfl 6 (by decide) lk_50 rfl rfl dX9_findWorth_78 ?_
      refine lv_iload_n hx hb dX9_findWorth_81 rfl (lv_at hl 1 rfl) ?_
      refine pw_qald hx hb hK hQ rfl (k) rfl (by omega) (by omega) rfl dX9_findWorth_82 ?_
      have hWQ : WQ σ (uR wn k v1) (ud wd k b1) (ud wq k 1) := fun j hj => by
        by_cases e : j = k
        · subst e; unfold uR; rw [if_pos rfl, ud_s, ud_s]; exact Or.inr ⟨rfl, hPV⟩
        · unfold uR; rw [if_neg e, ud_n _ _ e, ud_n _ _ e]; exact hwq j hj
      refine pw_aret (cn := "PolicyWorks$Row") hx hb hr hlocks hS ⟨rfl, ⟨_, _, hEQ⟩, ⟨_, hT⟩, uR wn k v1, ud wd k b1, ud wq k 1, hWSx.up hRk, hZ, hWQ, ?_⟩ dX9_findWorth_83
      unfold uR
      rw [if_pos rfl, ud_s]
      exact hPV
    | succ kk ih =>
      intro t g H locs ls ht hw0 h0 hO hM hE hQ hWS hZ hT hS hl
      have hMO := hM.1
      have hC := hM.2.1
      have hct := hC4 t (by omega)
      have hct0 := (hrd.2 t (by omega)).1
      have htp : min (k : Int) ((mC σ t : Int) - 1) = (tpol σ k t : Int) := by unfold tpol; omega
      refine lv_iload_n hx hb dX9_findWorth_11 rfl (lv_at hl 2 rfl) ?_
      refine lv_aload_n hx hb dX9_findWorth_12 rfl (lv_at hl 0 rfl) ?_
      refine pw_get (C := RX9) (T := TX9) (N := 14) hx hb hts hin9 hown hK hO rfl 0 (by decide) lk_10 rfl rfl dX9_findWorth_13 ?_
      refine pw_get (C := RX6) (T := TX6) (N := 5) hx hb hts hin6 hown hK hMO rfl 2 (by decide) lk_85 rfl rfl dX9_findWorth_16 ?_
      refine pw_icmp_ge (tgt := 49) hx hb dX9_findWorth_19 (by decide) (fun c_19 => absurd c_19 (by omega)) (fun c_19 => ?_)
      refine lv_aload_n hx hb dX9_findWorth_22 rfl (lv_at hl 0 rfl) ?_
      refine pw_get (C := RX9) (T := TX9) (N := 14) hx hb hts hin9 hown hK hO rfl 8 (by decide) lk_58 rfl rfl dX9_findWorth_23 ?_
      refine lv_iload_n hx hb dX9_findWorth_26 rfl (lv_at hl 2 rfl) ?_
      refine lv_iload_n hx hb dX9_findWorth_27 rfl (lv_at hl 1 rfl) ?_
      refine lv_aload_n hx hb dX9_findWorth_28 rfl (lv_at hl 0 rfl) ?_
      refine pw_get (C := RX9) (T := TX9) (N := 14) hx hb hts hin9 hown hK hO rfl 0 (by decide) lk_10 rfl rfl dX9_findWorth_29 ?_
      refine pw_get (C := RX6) (T := TX6) (N := 5) hx hb hts hin6 hown hK hMO rfl 0 (by decide) lk_95 rfl rfl dX9_findWorth_32 ?_
      refine lv_iload_n hx hb dX9_findWorth_35 rfl (lv_at hl 2 rfl) ?_
      refine pw_iald hx hb hK hC (t) rfl (by omega) (by omega) dX9_findWorth_36 ?_
      refine pw_asi ((mC σ (t) : Int)) rfl ?_
      refine pw_iconst hx hb dX9_findWorth_37 ?_
      refine pw_isub hx hb dX9_findWorth_38 ?_
      refine pw_mmin hx hb (hml.trans hl.1.symm) hown hts (by decide +kernel) (Nat.le_of_ble_eq_true rfl) (Nat.le_of_ble_eq_true rfl) (Nat.le_of_ble_eq_true rfl) (Nat.le_of_ble_eq_true rfl) dX9_findWorth_39 ?_
      refine pw_asi ((tpol σ k t : Int)) htp ?_
      refine pw_iast hx hb hK hT hS (by (try dsimp only); omega) (t) rfl (by omega) (by omega) dX9_findWorth_42 (fun H1 locs1 hnew hz1 oq hS => ?_)
      have hO := hO.k (oq _ (by omega))
      have hM := hM.k (fun q h1 h2 h3 => (oq _ (by omega)))
      have hMO := hMO.k (oq _ (by omega))
      have hC := hC.k (oq _ (by omega))
      have hE := hE.k (fun q h1 h2 h3 => (oq _ (by omega)))
      have hQ := hQ.k (oq _ (by omega))
      have hWS := hWS.k (fun q h1 h2 h3 => (oq _ (by omega)))
      have hZ := hZ.k (oq _ (by omega))
      have hT := hnew
      clear hnew oq hz1
      refine lv_iinc (v := iI (((t + 1 : Nat) : Int))) (lv' := [(2, .int (iI (((t + 1 : Nat) : Int)))), (0, .ref (o0)), (1, .int (iI ((k : Int))))]) hx hb dX9_findWorth_43 hl (k := 2) rfl (by show iI _ + iI _ = _; exact (iI_add _ _).trans (by first | rfl | (congr 1; omega))) (by decide) rfl (fun ls hl => ?_)
      refine lv_goto (tgt := 11) hx hb dX9_findWorth_46 (by decide) ?_
      exact ih (t + 1) _ _ _ _ (by omega) hw0 (fun j hj => ud_ext h0 rfl j hj) hO hM hE hQ hWS hZ hT hS (lv_sub hl [1, 2, 0] rfl)
  have hw01 : 0 ≤ wq k ∧ wq k ≤ 1 := by rcases hwk with h | h; exact ⟨by omega, by omega⟩; have := h.1; exact ⟨by omega, by omega⟩
  refine lv_aload_n hx hb dX9_findWorth_0 rfl (lv_at hl 0 rfl) ?_
  refine pw_get (C := RX9) (T := TX9) (N := 14) hx hb hts hin9 hown hK hO rfl 7 (by decide) lk_54 rfl rfl dX9_findWorth_1 ?_
  refine lv_iload_n hx hb dX9_findWorth_4 rfl (lv_at hl 1 rfl) ?_
  refine pw_zald hx hb hK hZ (k) rfl (by omega) (by omega) dX9_findWorth_5 ?_
  refine pw_if_ne (tgt := 77) hx hb dX9_findWorth_6 (by decide) (fun c_6 => ?_) (fun c_6 => ?_)
  · refine lv_aload_n hx hb dX9_findWorth_77 rfl (lv_at hl 0 rfl) ?_
    refine pw_get (C := RX9) (T := TX9) (N := 14) hx hb hts hin9 hown hK hO rfl 6 (by decide) lk_50 rfl rfl dX9_findWorth_78 ?_
    refine lv_iload_n hx hb dX9_findWorth_81 rfl (lv_at hl 1 rfl) ?_
    refine pw_qald hx hb hK hQ rfl (k) rfl (by omega) (by omega) rfl dX9_findWorth_82 ?_
    have hPV : PV σ (tpol σ k) (wn k) (wd k) := by rcases hwk with h | h; exact absurd h c_6; exact h.2
    exact pw_aret (cn := "PolicyWorks$Row") hx hb hr hlocks hS ⟨rfl, hE, hT, wn, wd, wq, hWS, hZ, hwq, hPV⟩ dX9_findWorth_83
  · refine pw_iconst hx hb dX9_findWorth_9 ?_
    refine lv_istore_n (lv' := [(2, .int (iI (0))), (0, .ref (o0)), (1, .int (iI ((k : Int))))]) hx hb dX9_findWorth_10 rfl hl (by decide) rfl (fun ls hl => ?_)
    obtain ⟨g0, hT⟩ := hT
    exact loop (mN σ) 0 g0 _ _ _ (by omega) c_6 (fun j hj => by omega) hO hM hE hQ hWS hZ hT hS (lv_sub hl [1, 2, 0] rfl)
def npol (σ : MS) (π : Nat → Nat) (v : Nat → Int) (b : Int) (s : Nat) : Nat := gpick σ s (π s) v b (mC σ s)
set_option maxHeartbeats 4000000 in
set_option maxRecDepth 100000 in
/-- improve() -/
theorem c_improve (l : Launch) (D : va_G) (E : Nat → ClassId) (o0 : Nat) (σ : MS) (rn : Int) (π : Nat → Nat) (bv : Nat → Int) (bd : Int) (bp : Nat → Int) (hok : mOK σ) (hrd : rdy σ) (hπ : ∀ s, s < mN σ → π s < mC σ s) (hbp : ∀ s, s < mN σ → bp s = (π s : Int)) (hpv : PV σ π bv bd) : pw_M rvI l D E yX9_improve wsX9_improve ({ frames := 4, cells := 0, slots := 0, locals := 116 } : Room) [.ref (o0)] (fun H => OA D o0 9 [.ref (o0 + 1), .ref (o0 + 52), .ref (o0 + 317), .ref (o0 + 326), .ref (o0 + 482), .ref (o0 + 498), .ref (o0 + 499), .ref (o0 + 564), .ref (o0 + 565), .ref (o0 + 566), .ref (o0 + 577), .ref (o0 + 579), .ref (o0 + 581), .int (iI (rn))] H ∧ MO D E (o0 + 1) σ H ∧ CHx D E (o0 + 317) H ∧ RW D E (o0 + 482) 8 bv bd H ∧ IA E (o0 + 498) 6 bp H) (fun z H => (z = 0 ∨ z = 1) ∧ (z = 0 ↔ ∀ s, s < mN σ → npol σ π bv bd s = π s) ∧ CHx D E (o0 + 317) H ∧ ∃ bp, (∀ s, s < mN σ → bp s = (npol σ π bv bd s : Int)) ∧ IA E (o0 + 498) 6 bp H) (fun q => (o0 + 317 ≤ q ∧ q ≤ o0 + 325) ∨ q = o0 + 498) (0) (0) := by
  refine pw_of (cc := cX9_improve) (maxL := 4) (ret := (some .boolean)) (by decide +kernel) rfl (Nat.le_of_ble_eq_true rfl) ?_
  intro p e s m args below meth c hx hb hr hml hts hown hlocks hini hK ⟨hO, hM, hCx, hRW, hBP⟩ ls hl
  have hown : s.vm.findClass RX9 = some m.cls := hown
  have hl : lv_has ls 4 [(0, .ref (o0))] := hl
  have hS : va_S (fun q => (o0 + 317 ≤ q ∧ q ≤ o0 + 325) ∨ q = o0 + 498) s.heap s.heap [] := va_S.rf
  have lk_10 := hts (.fieldLink RX9 10 "PolicyWorks" "model" "LPolicyWorks$Model;") (by decide +kernel)
  have lk_26 := hts (.fieldLink RX9 26 "PolicyWorks" "chooser" "LPolicyWorks$Chooser;") (by decide +kernel)
  have lk_42 := hts (.fieldLink RX9 42 "PolicyWorks" "bestValues" "LPolicyWorks$Row;") (by decide +kernel)
  have lk_46 := hts (.fieldLink RX9 46 "PolicyWorks" "bestPolicy" "[I") (by decide +kernel)
  have lk_85 := hts (.fieldLink RX9 85 "PolicyWorks$Model" "states" "I") (by decide +kernel)
  have hin6 : ∀ w ∈ wsX60, w ∈ wsX9_improve := by decide +kernel
  have hin9 : ∀ w ∈ wsX90, w ∈ wsX9_improve := by decide +kernel
  have hN6 := hok.1
  have hC4 := hok.2.1
  have hMO := hM.1
  have loop : ∀ (kk k : Nat) (bt : Int) (g : Nat → Int) (H : Heap) (locs : List Loc) (ls : Array Slot), k + kk = mN σ → (bt = 0 ∨ bt = 1) → (bt = 0 ↔ ∀ j, j < k → npol σ π bv bd j = π j) → (∀ j, j < k → g j = (npol σ π bv bd j : Int)) → (∀ j, k ≤ j → j < mN σ → g j = (π j : Int)) → OA D (o0) 9 [.ref (o0 + 1), .ref (o0 + 52), .ref (o0 + 317), .ref (o0 + 326), .ref (o0 + 482), .ref (o0 + 498), .ref (o0 + 499), .ref (o0 + 564), .ref (o0 + 565), .ref (o0 + 566), .ref (o0 + 577), .ref (o0 + 579), .ref (o0 + 581), .int (iI (rn))] H → MO D E (o0 + 1) σ H → CHx D E (o0 + 317) H → RW D E (o0 + 482) 8 bv bd H → IA E (o0 + 498) 6 g H → va_S (fun q => (o0 + 317 ≤ q ∧ q ≤ o0 + 325) ∨ q = o0 + 498) s.heap H locs → lv_has ls 4 [(0, .ref (o0)), (1, .int (iI (bt))), (2, .int (iI ((k : Int))))] → W p l e ({ frames := 4, cells := 0, slots := 0, locals := 116 } : Room) s m args below meth c H locs (0) (0) (MQ below (pw_Q rvI (fun z H => (z = 0 ∨ z = 1) ∧ (z = 0 ↔ ∀ s, s < mN σ → npol σ π bv bd s = π s) ∧ CHx D E (o0 + 317) H ∧ ∃ bp, (∀ s, s < mN σ → bp s = (npol σ π bv bd s : Int)) ∧ IA E (o0 + 498) 6 bp H) (fun q => (o0 + 317 ≤ q ∧ q ≤ o0 + 325) ∨ q = o0 + 498)) args s (0) (0) (fun q => (o0 + 317 ≤ q ∧ q ≤ o0 + 325) ∨ q = o0 + 498)) (F0 m 4 ls []) := by
    intro kk
    induction kk with
    | zero =>
      intro k bt g H locs ls hk hbt hiff h0 h1 hO hM hCx hRW hBP hS hl
      have hMO := hM.1
      have ek : k = mN σ := by omega
      refine lv_iload_n hx hb dX9_improve_4 rfl (lv_at hl 2 rfl) ?_
      refine lv_aload_n hx hb dX9_improve_5 rfl (lv_at hl 0 rfl) ?_
      refine pw_get (C := RX9) (T := TX9) (N := 14) hx hb hts hin9 hown hK hO rfl 0 (by decide) lk_10 rfl rfl dX9_improve_6 ?_
      refine pw_get (C := RX6) (T := TX6) (N := 5) hx hb hts hin6 hown hK hMO rfl 2 (by decide) lk_85 rfl rfl dX9_improve_9 ?_
      refine pw_icmp_ge (tgt := 69) hx hb dX9_improve_12 (by decide) (fun c_12 => ?_) (fun c_12 => absurd c_12 (by omega))
      refine lv_iload_n hx hb dX9_improve_69 rfl (lv_at hl 1 rfl) ?_
      subst ek
      exact pw_zret hx hb hr hlocks hS hbt ⟨hbt, hiff, hCx, g, h0, hBP⟩ dX9_improve_70
    | succ kk ih =>
      intro k bt g H locs ls hk hbt hiff h0 h1 hO hM hCx hRW hBP hS hl
      have hMO := hM.1
      have hpk := hπ k (by omega)
      have hck := hC4 k (by omega)
      have hgk := h1 k (Nat.le_refl k) (by omega)
      have hnp : npol σ π bv bd k < mC σ k := gpick_lt hpk _ (Nat.le_refl _)
      obtain ⟨gb, gr, vb, sb, vr, sr, hCH⟩ := hCx
      have hCO := hCH.1
      refine lv_iload_n hx hb dX9_improve_4 rfl (lv_at hl 2 rfl) ?_
      refine lv_aload_n hx hb dX9_improve_5 rfl (lv_at hl 0 rfl) ?_
      refine pw_get (C := RX9) (T := TX9) (N := 14) hx hb hts hin9 hown hK hO rfl 0 (by decide) lk_10 rfl rfl dX9_improve_6 ?_
      refine pw_get (C := RX6) (T := TX6) (N := 5) hx hb hts hin6 hown hK hMO rfl 2 (by decide) lk_85 rfl rfl dX9_improve_9 ?_
      refine pw_icmp_ge (tgt := 69) hx hb dX9_improve_12 (by decide) (fun c_12 => absurd c_12 (by omega)) (fun c_12 => ?_)
      refine lv_aload_n hx hb dX9_improve_15 rfl (lv_at hl 0 rfl) ?_
      refine pw_get (C := RX9) (T := TX9) (N := 14) hx hb hts hin9 hown hK hO rfl 2 (by decide) lk_26 rfl rfl dX9_improve_16 ?_
      refine lv_aload_n hx hb dX9_improve_19 rfl (lv_at hl 0 rfl) ?_
      refine pw_get (C := RX9) (T := TX9) (N := 14) hx hb hts hin9 hown hK hO rfl 0 (by decide) lk_10 rfl rfl dX9_improve_20 ?_
      refine lv_iload_n hx hb dX9_improve_23 rfl (lv_at hl 2 rfl) ?_
      refine lv_aload_n hx hb dX9_improve_24 rfl (lv_at hl 0 rfl) ?_
      refine pw_get (C := RX9) (T := TX9) (N := 14) hx hb hts hin9 hown hK hO rfl 5 (by decide) lk_46 rfl rfl dX9_improve_25 ?_
      refine lv_iload_n hx hb dX9_improve_28 rfl (lv_at hl 2 rfl) ?_
      refine pw_iald hx hb hK hBP (k) rfl (by omega) (by omega) dX9_improve_29 ?_
      refine pw_asi ((π k : Int)) hgk ?_
      refine lv_aload_n hx hb dX9_improve_30 rfl (lv_at hl 0 rfl) ?_
      refine pw_get (C := RX9) (T := TX9) (N := 14) hx hb hts hin9 hown hK hO rfl 4 (by decide) lk_42 rfl rfl dX9_improve_31 ?_
      refine pw_callVi (As := [.ref (o0 + 1), .int (iI ((k : Int))), .int (iI ((π k : Int))), .ref (o0 + 482)]) (rest := []) ⟨hx, hb, hml, hown, hts⟩ (c_greatest l D E (o0 + 317) gb gr (o0 + 1) (o0 + 482) 8 k (π k) σ bv bd vb sb vr sr hok (by omega) hpk (by omega) (by omega) (by omega) (fun j hj => pv_gn hok hpv (by omega))) (cwV 4 hts gX9_improve_X1_greatest rfl rfl rfl (by decide +kernel) ⟨Nat.le_of_ble_eq_true rfl, Nat.le_of_ble_eq_true rfl⟩) hK hCO rfl ⟨hCH, hM, hRW⟩ rfl hl.1 rfl (Nat.le_of_ble_eq_true rfl) dX9_improve_34 ⟨Nat.zero_le _, Nat.zero_le _⟩ hS (fun q h => by (try dsimp only at h); (try dsimp only); omega) (fun z H1 locs1 ⟨hz, gb, gr, vr, sr, hCH⟩ hz1 hk1 hS => ?_)
      have hO := hO.k (hk1 _ hO.lt (by (try dsimp only); omega))
      have hM := hM.k (fun q h1 h2 h3 => (hk1 _ h3 (by (try dsimp only); omega)))
      have hMO := hMO.k (hk1 _ hMO.lt (by (try dsimp only); omega))
      have hRW := hRW.k (fun q h1 h2 h3 => (hk1 _ h3 (by (try dsimp only); omega)))
      have hBP := hBP.k (hk1 _ hBP.lt (by (try dsimp only); omega))
      have hz : z = (npol σ π bv bd k : Int) := hz
      subst hz
      have hCO := hCH.1
      refine lv_istore_n (lv' := [(3, .int (iI ((npol σ π bv bd k : Int)))), (0, .ref (o0)), (1, .int (iI (bt))), (2, .int (iI ((k : Int))))]) hx hb dX9_improve_37 rfl hl (by decide) rfl (fun ls hl => ?_)
      refine lv_iload_n hx hb dX9_improve_38 rfl (lv_at hl 2 rfl) ?_
      refine lv_iload_n hx hb dX9_improve_39 rfl (lv_at hl 0 rfl) ?_
      refine lv_aload_n hx hb dX9_improve_40 rfl (lv_at hl 1 rfl) ?_
      refine pw_get (C := RX9) (T := TX9) (N := 14) hx hb hts hin9 hown hK hO rfl 5 (by decide) lk_46 rfl rfl dX9_improve_41 ?_
      refine lv_iload_n hx hb dX9_improve_44 rfl (lv_at hl 3 rfl) ?_
      refine pw_iald hx hb hK hBP (k) rfl (by omega) (by omega) dX9_improve_45 ?_
      refine pw_asi ((π k : Int)) hgk ?_
      refine pw_icmp_eq (tgt := 53) hx hb dX9_improve_46 (by decide) (fun c_46 => ?_) (fun c_46 => ?_)
      · refine pw_iconst hx hb dX9_improve_53 ?_
        refine lv_ior hx hb dX9_improve_54 ?_
        refine pw_eqi (max bt 0) (j_or hbt (Or.inl rfl)) ?_
        refine pw_asi (bt) (by omega) ?_
        refine lv_istore_n (lv' := [(1, .int (iI (bt))), (3, .int (iI ((npol σ π bv bd k : Int)))), (0, .ref (o0)), (2, .int (iI ((k : Int))))]) hx hb dX9_improve_55 rfl hl (by decide) rfl (fun ls hl => ?_)
        refine lv_aload_n hx hb dX9_improve_56 rfl (lv_at hl 2 rfl) ?_
        refine pw_get (C := RX9) (T := TX9) (N := 14) hx hb hts hin9 hown hK hO rfl 5 (by decide) lk_46 rfl rfl dX9_improve_57 ?_
        refine lv_iload_n hx hb dX9_improve_60 rfl (lv_at hl 3 rfl) ?_
        refine lv_iload_n hx hb dX9_improve_61 rfl (lv_at hl 1 rfl) ?_
        refine pw_iast hx hb hK hBP hS (Or.inr rfl) (k) rfl (by omega) (by omega) dX9_improve_62 (fun H1 locs1 hnew hz1 oq hS => ?_)
        have hO := hO.k (oq _ (by omega))
        have hM := hM.k (fun q h1 h2 h3 => (oq _ (by omega)))
        have hMO := hMO.k (oq _ (by omega))
        have hCH := hCH.k (fun q h1 h2 h3 => (oq _ (by omega)))
        have hRW := hRW.k (fun q h1 h2 h3 => (oq _ (by omega)))
        have hCO := hCO.k (oq _ (by omega))
        have hBP := hnew
        clear hnew oq hz1
        refine lv_iinc (v := iI (((k + 1 : Nat) : Int))) (lv' := [(2, .int (iI (((k + 1 : Nat) : Int)))), (1, .int (iI (bt))), (3, .int (iI ((npol σ π bv bd k : Int)))), (0, .ref (o0))]) hx hb dX9_improve_63 hl (k := 3) rfl (by show iI _ + iI _ = _; exact (iI_add _ _).trans (by first | rfl | (congr 1; omega))) (by decide) rfl (fun ls hl => ?_)
        refine lv_goto (tgt := 4) hx hb dX9_improve_66 (by decide) ?_
        exact ih (k + 1) bt _ _ _ _ (by omega) hbt ⟨fun h j hj => by
          by_cases e : j = k
          · rw [e]; omega
          · exact hiff.mp h j (by omega), fun h => hiff.mpr (fun j hj => h j (by omega))⟩ (fun j hj => ud_ext h0 rfl j hj) (fun j a1 a2 => by rw [ud_n _ _ (by omega)]; exact h1 j (by omega) a2) hO hM ⟨_, _, _, _, _, _, hCH⟩ hRW hBP hS (lv_sub hl [3, 1, 0] rfl)
      · refine pw_iconst hx hb dX9_improve_49 ?_
        refine lv_goto (tgt := 54) hx hb dX9_improve_50 (by decide) ?_
        refine lv_ior hx hb dX9_improve_54 ?_
        refine pw_eqi (max bt 1) (j_or hbt (Or.inr rfl)) ?_
        refine pw_asi (1) (by omega) ?_
        refine lv_istore_n (lv' := [(1, .int (iI (1))), (3, .int (iI ((npol σ π bv bd k : Int)))), (0, .ref (o0)), (2, .int (iI ((k : Int))))]) hx hb dX9_improve_55 rfl hl (by decide) rfl (fun ls hl => ?_)
        refine lv_aload_n hx hb dX9_improve_56 rfl (lv_at hl 2 rfl) ?_
        refine pw_get (C := RX9) (T := TX9) (N := 14) hx hb hts hin9 hown hK hO rfl 5 (by decide) lk_46 rfl rfl dX9_improve_57 ?_
        refine lv_iload_n hx hb dX9_improve_60 rfl (lv_at hl 3 rfl) ?_
        refine lv_iload_n hx hb dX9_improve_61 rfl (lv_at hl 1 rfl) ?_
        refine pw_iast hx hb hK hBP hS (Or.inr rfl) (k) rfl (by omega) (by omega) dX9_improve_62 (fun H1 locs1 hnew hz1 oq hS => ?_)
        have hO := hO.k (oq _ (by omega))
        have hM := hM.k (fun q h1 h2 h3 => (oq _ (by omega)))
        have hMO := hMO.k (oq _ (by omega))
        have hCH := hCH.k (fun q h1 h2 h3 => (oq _ (by omega)))
        have hRW := hRW.k (fun q h1 h2 h3 => (oq _ (by omega)))
        have hCO := hCO.k (oq _ (by omega))
        have hBP := hnew
        clear hnew oq hz1
        refine lv_iinc (v := iI (((k + 1 : Nat) : Int))) (lv' := [(2, .int (iI (((k + 1 : Nat) : Int)))), (1, .int (iI (1))), (3, .int (iI ((npol σ π bv bd k : Int)))), (0, .ref (o0))]) hx hb dX9_improve_63 hl (k := 3) rfl (by show iI _ + iI _ = _; exact (iI_add _ _).trans (by first | rfl | (congr 1; omega))) (by decide) rfl (fun ls hl => ?_)
        refine lv_goto (tgt := 4) hx hb dX9_improve_66 (by decide) ?_
        exact ih (k + 1) 1 _ _ _ _ (by omega) (Or.inr rfl) ⟨fun h => by omega, fun h => absurd (h k (by omega)) (by omega)⟩ (fun j hj => ud_ext h0 rfl j hj) (fun j a1 a2 => by rw [ud_n _ _ (by omega)]; exact h1 j (by omega) a2) hO hM ⟨_, _, _, _, _, _, hCH⟩ hRW hBP hS (lv_sub hl [3, 1, 0] rfl)
  refine pw_iconst hx hb dX9_improve_0 ?_
  refine lv_istore_n (lv' := [(1, .int (iI (0))), (0, .ref (o0))]) hx hb dX9_improve_1 rfl hl (by decide) rfl (fun ls hl => ?_)
  refine pw_iconst hx hb dX9_improve_2 ?_
  refine lv_istore_n (lv' := [(2, .int (iI (0))), (1, .int (iI (0))), (0, .ref (o0))]) hx hb dX9_improve_3 rfl hl (by decide) rfl (fun ls hl => ?_)
  exact loop (mN σ) 0 0 bp _ _ _ (by omega) (Or.inl rfl) ⟨fun _ j hj => by omega, fun _ => rfl⟩ (fun j hj => by omega) (fun j _ hj => hbp j hj) hO hM hCx hRW hBP hS (lv_sub hl [2, 1, 0] rfl)
