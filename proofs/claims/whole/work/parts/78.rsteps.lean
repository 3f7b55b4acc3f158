/-! the reference: steps, plan, bound, best, count -/
theorem gsum_0 (σ : MS) (i : Nat) : ∀ k, gsum σ i (fun _ => 0) k = 0
  | 0 => rfl
  | k + 1 => by
    show gsum σ i (fun _ => 0) k + 0 * gct σ i k = 0
    rw [gsum_0 σ i k, Int.zero_mul]
    rfl
theorem gnum_0 (σ : MS) (i : Nat) (b : Int) : gnum σ i (fun _ => 0) b = b * gc0 σ i := by
  unfold gnum
  rw [gsum_0, Int.add_zero]
/-- without values a gain is the reward -/
theorem gm0 {σ : MS} (hok : mOK σ) (hr : rdy σ) {s i j : Nat} (hs : s < mN σ) (hi : i < mC σ s) (hj : j < mC σ s) : gmore σ (fun _ => 0) 1 (4 * s + i) (4 * s + j) ↔ mU σ (4 * s + j) * (mD σ (4 * s + i) : Int) < mU σ (4 * s + i) * (mD σ (4 * s + j) : Int) := by
  have hB : 0 < (mB σ : Int) := by have := hok.2.2.2.1; omega
  have hTi : 0 < (mT σ (4 * s + i) : Int) := by have := (hr.2 s hs).2 i hi; omega
  have hTj : 0 < (mT σ (4 * s + j) : Int) := by have := (hr.2 s hs).2 j hj; omega
  show gnum σ (4 * s + j) _ _ * gsc σ (4 * s + i) < gnum σ (4 * s + i) _ _ * gsc σ (4 * s + j) ↔ _
  rw [gnum_0, gnum_0]
  unfold gc0 gsc
  have hp : 0 < (mB σ : Int) * (mT σ (4 * s + i) : Int) * ((mB σ : Int) * (mT σ (4 * s + j) : Int)) := Int.mul_pos (Int.mul_pos hB hTi) (Int.mul_pos hB hTj)
  generalize (mB σ : Int) = b1 at *
  generalize (mT σ (4 * s + i) : Int) = t1 at *
  generalize (mT σ (4 * s + j) : Int) = t2 at *
  have e1 : 1 * (mU σ (4 * s + j) * b1 * t2) * ((mD σ (4 * s + i) : Int) * b1 * t1) = mU σ (4 * s + j) * (mD σ (4 * s + i) : Int) * (b1 * t1 * (b1 * t2)) := by grind
  have e2 : 1 * (mU σ (4 * s + i) * b1 * t1) * ((mD σ (4 * s + j) : Int) * b1 * t2) = mU σ (4 * s + i) * (mD σ (4 * s + j) : Int) * (b1 * t1 * (b1 * t2)) := by grind
  rw [e1, e2]
  exact ⟨fun h => Int.lt_of_mul_lt_mul_right h (Int.le_of_lt hp), fun h => Int.mul_lt_mul_of_pos_right h hp⟩
/-- x over y is the greatest size of a best reward, among the first n states -/
def BQ (σ : MS) (x y n : Nat) : Prop := 0 < y ∧ (∀ s, s < n → (mU σ (4 * s + gpick σ s 0 (fun _ => 0) 1 (mC σ s))).natAbs * y ≤ x * mD σ (4 * s + gpick σ s 0 (fun _ => 0) 1 (mC σ s))) ∧ (0 < n → ∃ s, s < n ∧ (mU σ (4 * s + gpick σ s 0 (fun _ => 0) 1 (mC σ s))).natAbs * y = x * mD σ (4 * s + gpick σ s 0 (fun _ => 0) 1 (mC σ s))) ∧ (n = 0 → x = 0 ∧ y = 1)
theorem bq_up {σ : MS} {x y n : Nat} (h : BQ σ x y n) (hd : 0 < mD σ (4 * n + gpick σ n 0 (fun _ => 0) 1 (mC σ n))) (hg : x * mD σ (4 * n + gpick σ n 0 (fun _ => 0) 1 (mC σ n)) < (mU σ (4 * n + gpick σ n 0 (fun _ => 0) 1 (mC σ n))).natAbs * y) : BQ σ (mU σ (4 * n + gpick σ n 0 (fun _ => 0) 1 (mC σ n))).natAbs (mD σ (4 * n + gpick σ n 0 (fun _ => 0) 1 (mC σ n))) (n + 1) := by
  obtain ⟨h1, h2, h3, h4⟩ := h
  refine ⟨hd, fun s hs => ?_, fun _ => ⟨n, by omega, rfl⟩, fun h => by omega⟩
  by_cases e : s = n
  · rw [e]; exact Nat.le_refl _
  · have a1 := Nat.mul_le_mul_right (mD σ (4 * n + gpick σ n 0 (fun _ => 0) 1 (mC σ n))) (h2 s (by omega))
    have a2 := Nat.mul_le_mul_right (mD σ (4 * s + gpick σ s 0 (fun _ => 0) 1 (mC σ s))) (Nat.le_of_lt hg)
    refine Nat.le_of_mul_le_mul_right ?_ h1
    generalize (mU σ (4 * n + gpick σ n 0 (fun _ => 0) 1 (mC σ n))).natAbs = un at *
    generalize mD σ (4 * n + gpick σ n 0 (fun _ => 0) 1 (mC σ n)) = dn at *
    generalize (mU σ (4 * s + gpick σ s 0 (fun _ => 0) 1 (mC σ s))).natAbs = us at *
    generalize mD σ (4 * s + gpick σ s 0 (fun _ => 0) 1 (mC σ s)) = ds at *
    have b1 : us * dn * y = us * y * dn := Nat.mul_right_comm _ _ _
    have b2 : un * ds * y = un * y * ds := Nat.mul_right_comm _ _ _
    have b3 : x * ds * dn = x * dn * ds := Nat.mul_right_comm _ _ _
    omega
theorem bq_same {σ : MS} {x y n : Nat} (h : BQ σ x y n) (hg : (mU σ (4 * n + gpick σ n 0 (fun _ => 0) 1 (mC σ n))).natAbs * y ≤ x * mD σ (4 * n + gpick σ n 0 (fun _ => 0) 1 (mC σ n))) : BQ σ x y (n + 1) := by
  obtain ⟨h1, h2, h3, h4⟩ := h
  refine ⟨h1, fun s hs => ?_, fun _ => ?_, fun h => by omega⟩
  · by_cases e : s = n
    · rw [e]; exact hg
    · exact h2 s (by omega)
  · by_cases e : n = 0
    · obtain ⟨e1, e2⟩ := h4 e
      refine ⟨n, by omega, ?_⟩
      rw [e1, Nat.zero_mul] at hg ⊢
      omega
    · obtain ⟨s, hs, hq⟩ := h3 (by omega)
      exact ⟨s, by omega, hq⟩
theorem bq_uniq {σ : MS} (hok : mOK σ) (hr : rdy σ) {x y x' y' : Nat} (h : BQ σ x y (mN σ)) (h' : BQ σ x' y' (mN σ)) : x * y' = x' * y := by
  have half : ∀ {x y x' y' : Nat}, BQ σ x y (mN σ) → BQ σ x' y' (mN σ) → x * y' ≤ x' * y := by
    intro x y x' y' h h'
    obtain ⟨s, hs, he⟩ := h.2.2.1 hr.1
    have hl := h'.2.1 s hs
    have hN := hok.1
    have hC := hok.2.1 s (by omega)
    have hp := gpick_lt (σ := σ) (st := s) (v := fun _ => 0) (b := 1) (hr.2 s hs).1 _ (Nat.le_refl _)
    have hd := (hok.2.2.1 (4 * s + gpick σ s 0 (fun _ => 0) 1 (mC σ s)) (by omega)).2.2.1
    refine Nat.le_of_mul_le_mul_right ?_ (show 0 < mD σ (4 * s + gpick σ s 0 (fun _ => 0) 1 (mC σ s)) by omega)
    have a1 := Nat.mul_le_mul_right y hl
    generalize (mU σ (4 * s + gpick σ s 0 (fun _ => 0) 1 (mC σ s))).natAbs = us at *
    generalize mD σ (4 * s + gpick σ s 0 (fun _ => 0) 1 (mC σ s)) = ds at *
    have b1 : x * y' * ds = x * ds * y' := Nat.mul_right_comm _ _ _
    have b2 : x' * y * ds = x' * ds * y := Nat.mul_right_comm _ _ _
    have b3 : us * y' * y = us * y * y' := Nat.mul_right_comm _ _ _
    rw [he] at b3
    omega
  exact Nat.le_antisymm (half h h') (half h' h)
theorem pw20 {a n : Nat} (ha : a ≤ 20) (hn : n ≤ 8) : a ^ n ≤ 25600000000 := by
  have h1 : a ^ n ≤ 20 ^ n := Nat.pow_le_pow_left ha n
  have h2 : 20 ^ n ≤ 20 ^ 8 := Nat.pow_le_pow_right (by omega) hn
  have h3 : 20 ^ 8 = 25600000000 := by decide +kernel
  omega
set_option maxHeartbeats 4000000 in
set_option maxRecDepth 100000 in
/-- steps(n, s, part) -/
theorem r_steps (l : Launch) (D : va_G) (E : Nat → ClassId) (r0 : Nat) (σ : MS) (rn n st part : Int) (n1 : -2147483648 ≤ n) (n2 : n ≤ 2147483647) (st1 : -2147483648 ≤ st) (st2 : st ≤ 2147483647) (part1 : -2147483648 ≤ part) (part2 : part ≤ 2147483647) : pw_M rvL l D E yX10_steps wsX10_steps ({ frames := 6, cells := 0, slots := 0, locals := 152 } : Room) [.ref (r0), .int (iI (n)), .int (iI (st)), .int (iI (part))] (fun H => RPO D E r0 σ rn H) (fun z H => RPO D E r0 σ rn H ∧ ((¬ (rdy σ ∧ 0 ≤ n ∧ n ≤ 8 ∧ 0 ≤ st ∧ st < (mN σ : Int) ∧ -1 ≤ part) ∧ z = (if part = -1 then -2 else -1)) ∨ ((rdy σ ∧ 0 ≤ n ∧ n ≤ 8 ∧ 0 ≤ st ∧ st < (mN σ : Int) ∧ -1 ≤ part) ∧ ∃ v b, GS σ n.toNat v b ∧ z = tellZ (v st.toNat) b part))) (fun q => r0 ≤ q ∧ q ≤ r0 + 13) (0) (0) := by
  refine pw_of (cc := cX10_steps) (maxL := 4) (ret := (some .long)) (by decide +kernel) rfl (Nat.le_of_ble_eq_true rfl) ?_
  intro p e s m args below meth c hx hb hr hml hts hown hlocks hini hK ⟨th, so, co, bst, ch, nx, vs0, ow, tg, gU, gD, gW, hO, hC, hU, hDn, hW, hBs, hCh, hNx, hB, hP, hOw, hTg, hRI⟩ ls hl
  have hown : s.vm.findClass RX10 = some m.cls := hown
  have hl : lv_has ls 4 [(0, .ref (r0)), (1, .int (iI (n))), (2, .int (iI (st))), (3, .int (iI (part)))] := hl
  have hS : va_S (fun q => r0 ≤ q ∧ q ≤ r0 + 13) s.heap s.heap [] := va_S.rf
  have lk_56 := hts (.fieldLink RX10 56 "PolicyWorksModel" "thrown" "I") (by decide +kernel)
  have kc_202 := hts (.constantLong RX10 202 (8)) (by decide +kernel)
  have hin10 : ∀ w ∈ wsX100, w ∈ wsX10_steps := by decide +kernel
  have hok := hRI.1
  have hm := hRI.2.1
  have hN6 := hok.1
  have hC4 := hok.2.1
  have hso := hRI.2.2.2
  have hrs : (so = 0 ∧ rn = 0) ∨ (so = 1 ∧ 0 < rn) := hso.elim (fun h => Or.inl ⟨h.2, h.1⟩) (fun h => Or.inr ⟨h.2.1, h.1⟩)
  obtain ⟨f, g, h, ⟨hf, hg, hh⟩, hN⟩ := hB
  have b16 : 268435456 ^ 14 < 268435456 ^ 16 ∧ 268435456 ^ 16 * 8000000000 < 268435456 ^ 62 := by decide +kernel
  have p60 : 268435456 ^ 60 < 268435456 ^ 62 := by decide +kernel
  refine lv_aload_n hx hb dX10_steps_0 rfl (lv_at hl 0 rfl) ?_
  refine pw_iconst hx hb dX10_steps_1 ?_
  refine pw_put (C := RX10) (T := TX10) (N := 20) hx hb hts hin10 tyX10 tyX10_ok nmX10 hown hK hO hS (by (try dsimp only); omega) rfl 0 (by decide) lk_56 rfl rfl rfl rfl (by show _ < 20; decide) dX10_steps_2 (fun H1 locs1 hnew hz1 oq hS => ?_)
  have hC := hC.k (oq _ (by omega))
  have hU := hU.k (oq _ (by omega))
  have hDn := hDn.k (oq _ (by omega))
  have hW := hW.k (oq _ (by omega))
  have hBs := hBs.k (oq _ (by omega))
  have hCh := hCh.k (oq _ (by omega))
  have hNx := hNx.k (oq _ (by omega))
  have hP := hP.k (oq _ (by omega))
  have hOw := hOw.k (oq _ (by omega))
  have hTg := hTg.k (oq _ (by omega))
  have hf := hf.k (oq _ (by omega))
  have hg := hg.k (oq _ (by omega))
  have hh := hh.k (oq _ (by omega))
  have hO : OA D (r0) 10 [.int (iI (0)), .int (iI ((mN σ : Int))), .ref (r0 + 1), .ref (r0 + 2), .ref (r0 + 3), .ref (r0 + 4), .int (iI ((mA σ : Int))), .int (iI ((mB σ : Int))), .int (iI (so)), .int (iI (rn)), .ref (r0 + 5), .ref (r0 + 6), .ref (r0 + 7), .ref (r0 + 8), .ref (r0 + 9), .ref (r0 + 10), .ref (r0 + 11), .ref (r0 + 12), .ref (r0 + 13), .int (iI (co))] H1 := hnew
  clear hnew oq hz1
  refine lv_aload_n hx hb dX10_steps_5 rfl (lv_at hl 0 rfl) ?_
  refine pw_callVi (As := []) (rest := []) ⟨hx, hb, hml, hown, hts⟩ (r_isReady l D E r0 σ 0 so rn co gU gD gW hok hm) (cwV 0 hts gX10_steps_X10_isReady rfl rfl rfl (by decide +kernel) ⟨Nat.le_of_ble_eq_true rfl, Nat.le_of_ble_eq_true rfl⟩) hK hO rfl ⟨hO, hC, hW⟩ rfl hl.1 rfl (Nat.le_of_ble_eq_true rfl) dX10_steps_6 ⟨Nat.zero_le _, Nat.zero_le _⟩ hS (fun q h => h.elim) (fun zy H1 locs1 ⟨hy01, hyr⟩ hz1 hk1 hS => ?_)
  have hO := hO.k (hk1 _ hO.lt (fun h => h))
  have hC := hC.k (hk1 _ hC.lt (fun h => h))
  have hU := hU.k (hk1 _ hU.lt (fun h => h))
  have hDn := hDn.k (hk1 _ hDn.lt (fun h => h))
  have hW := hW.k (hk1 _ hW.lt (fun h => h))
  have hBs := hBs.k (hk1 _ hBs.lt (fun h => h))
  have hCh := hCh.k (hk1 _ hCh.lt (fun h => h))
  have hNx := hNx.k (hk1 _ hNx.lt (fun h => h))
  have hP := hP.k (hk1 _ hP.lt (fun h => h))
  have hOw := hOw.k (hk1 _ hOw.lt (fun h => h))
  have hTg := hTg.k (hk1 _ hTg.lt (fun h => h))
  have hf := hf.k (hk1 _ hf.lt (fun h => h))
  have hg := hg.k (hk1 _ hg.lt (fun h => h))
  have hh := hh.k (hk1 _ hh.lt (fun h => h))
  refine pw_if_eq (tgt := 32) hx hb dX10_steps_9 (by decide) (fun c_9 => ?_) (fun c_9 => ?_)
  · refine lv_iload_n hx hb dX10_steps_32 rfl (lv_at hl 3 rfl) ?_
    refine pw_callSi (As := [.int (iI (part))]) (rest := []) ⟨hx, hb, hml, hown, hts⟩ (r_none l D E part part1 part2) (va_cwS 1 hts gX10_steps_X10_none rfl rfl rfl (by decide +kernel) ⟨Nat.le_of_ble_eq_true rfl, Nat.le_of_ble_eq_true rfl⟩) hK trivial rfl hl.1 rfl (Nat.le_of_ble_eq_true rfl) dX10_steps_33 ⟨Nat.zero_le _, Nat.zero_le _⟩ hS (fun q h => h.elim) (fun zn H1 locs1 hzn hz1 hk1 hS => ?_)
    have hO := hO.k (hk1 _ hO.lt (fun h => h))
    have hC := hC.k (hk1 _ hC.lt (fun h => h))
    have hU := hU.k (hk1 _ hU.lt (fun h => h))
    have hDn := hDn.k (hk1 _ hDn.lt (fun h => h))
    have hW := hW.k (hk1 _ hW.lt (fun h => h))
    have hBs := hBs.k (hk1 _ hBs.lt (fun h => h))
    have hCh := hCh.k (hk1 _ hCh.lt (fun h => h))
    have hNx := hNx.k (hk1 _ hNx.lt (fun h => h))
    have hP := hP.k (hk1 _ hP.lt (fun h => h))
    have hOw := hOw.k (hk1 _ hOw.lt (fun h => h))
    have hTg := hTg.k (hk1 _ hTg.lt (fun h => h))
    have hf := hf.k (hk1 _ hf.lt (fun h => h))
    have hg := hg.k (hk1 _ hg.lt (fun h => h))
    have hh := hh.k (hk1 _ hh.lt (fun h => h))
    subst hzn
    refine pw_i2l hx hb dX10_steps_36 ?_
    exact pw_lret hx hb hr hlocks hS ⟨⟨_, _, _, _, _, _, _, _, _, _, _, _, hO, hC, hU, hDn, hW, hBs, hCh, hNx, ⟨f, g, h, ⟨hf, hg, hh⟩, hN⟩, hP, hOw, hTg, hRI⟩, Or.inl ⟨fun h => absurd (hyr.mpr h.1) (by omega), rfl⟩⟩ dX10_steps_37
  · have hrd := hyr.mp (by omega)
    refine lv_iload_n hx hb dX10_steps_12 rfl (lv_at hl 1 rfl) ?_
    refine pw_i2l hx hb dX10_steps_13 ?_
    refine pw_lconst (z := 0) hx hb dX10_steps_14 ?_
    refine pw_ldc2 (z := 8) hx hb hown kc_202 (by decide +kernel) dX10_steps_15 ?_
    refine pw_callSi (As := [.long (lI (n)), .long (lI (0)), .long (lI (8))]) (rest := []) ⟨hx, hb, hml, hown, hts⟩ (r_in l D E n 0 8 (by omega) (by omega) (by omega) (by omega) (by omega) (by omega)) (va_cwS 3 hts gX10_steps_X10_in rfl rfl rfl (by decide +kernel) ⟨Nat.le_of_ble_eq_true rfl, Nat.le_of_ble_eq_true rfl⟩) hK trivial rfl hl.1 rfl (Nat.le_of_ble_eq_true rfl) dX10_steps_18 ⟨Nat.zero_le _, Nat.zero_le _⟩ hS (fun q h => h.elim) (fun zi H1 locs1 hi3 hz1 hk1 hS => ?_)
    have hO := hO.k (hk1 _ hO.lt (fun h => h))
    have hC := hC.k (hk1 _ hC.lt (fun h => h))
    have hU := hU.k (hk1 _ hU.lt (fun h => h))
    have hDn := hDn.k (hk1 _ hDn.lt (fun h => h))
    have hW := hW.k (hk1 _ hW.lt (fun h => h))
    have hBs := hBs.k (hk1 _ hBs.lt (fun h => h))
    have hCh := hCh.k (hk1 _ hCh.lt (fun h => h))
    have hNx := hNx.k (hk1 _ hNx.lt (fun h => h))
    have hP := hP.k (hk1 _ hP.lt (fun h => h))
    have hOw := hOw.k (hk1 _ hOw.lt (fun h => h))
    have hTg := hTg.k (hk1 _ hTg.lt (fun h => h))
    have hf := hf.k (hk1 _ hf.lt (fun h => h))
    have hg := hg.k (hk1 _ hg.lt (fun h => h))
    have hh := hh.k (hk1 _ hh.lt (fun h => h))
    have hi01 : 0 ≤ zi ∧ zi ≤ 1 := by rw [hi3]; split <;> omega
    refine pw_if_eq (tgt := 32) hx hb dX10_steps_21 (by decide) (fun c_21 => ?_) (fun c_21 => ?_)
    · refine lv_iload_n hx hb dX10_steps_32 rfl (lv_at hl 3 rfl) ?_
      refine pw_callSi (As := [.int (iI (part))]) (rest := []) ⟨hx, hb, hml, hown, hts⟩ (r_none l D E part part1 part2) (va_cwS 1 hts gX10_steps_X10_none rfl rfl rfl (by decide +kernel) ⟨Nat.le_of_ble_eq_true rfl, Nat.le_of_ble_eq_true rfl⟩) hK trivial rfl hl.1 rfl (Nat.le_of_ble_eq_true rfl) dX10_steps_33 ⟨Nat.zero_le _, Nat.zero_le _⟩ hS (fun q h => h.elim) (fun zn H1 locs1 hzn hz1 hk1 hS => ?_)
      have hO := hO.k (hk1 _ hO.lt (fun h => h))
      have hC := hC.k (hk1 _ hC.lt (fun h => h))
      have hU := hU.k (hk1 _ hU.lt (fun h => h))
      have hDn := hDn.k (hk1 _ hDn.lt (fun h => h))
      have hW := hW.k (hk1 _ hW.lt (fun h => h))
      have hBs := hBs.k (hk1 _ hBs.lt (fun h => h))
      have hCh := hCh.k (hk1 _ hCh.lt (fun h => h))
      have hNx := hNx.k (hk1 _ hNx.lt (fun h => h))
      have hP := hP.k (hk1 _ hP.lt (fun h => h))
      have hOw := hOw.k (hk1 _ hOw.lt (fun h => h))
      have hTg := hTg.k (hk1 _ hTg.lt (fun h => h))
      have hf := hf.k (hk1 _ hf.lt (fun h => h))
      have hg := hg.k (hk1 _ hg.lt (fun h => h))
      have hh := hh.k (hk1 _ hh.lt (fun h => h))
      subst hzn
      refine pw_i2l hx hb dX10_steps_36 ?_
      exact pw_lret hx hb hr hlocks hS ⟨⟨_, _, _, _, _, _, _, _, _, _, _, _, hO, hC, hU, hDn, hW, hBs, hCh, hNx, ⟨f, g, h, ⟨hf, hg, hh⟩, hN⟩, hP, hOw, hTg, hRI⟩, Or.inl ⟨fun h => by rw [if_pos ⟨h.2.1, h.2.2.1⟩] at hi3; omega, rfl⟩⟩ dX10_steps_37
    · have hk3 : 0 ≤ n ∧ n ≤ 8 := by
        by_cases h : 0 ≤ n ∧ n ≤ 8
        · exact h
        · rw [if_neg h] at hi3; omega
      refine lv_aload_n hx hb dX10_steps_24 rfl (lv_at hl 0 rfl) ?_
      refine lv_iload_n hx hb dX10_steps_25 rfl (lv_at hl 2 rfl) ?_
      refine pw_callVi (As := [.int (iI (st))]) (rest := []) ⟨hx, hb, hml, hown, hts⟩ (r_isState l D E r0 σ 0 so rn co hok st st1 st2) (cwV 1 hts gX10_steps_X10_isState rfl rfl rfl (by decide +kernel) ⟨Nat.le_of_ble_eq_true rfl, Nat.le_of_ble_eq_true rfl⟩) hK hO rfl hO rfl hl.1 rfl (Nat.le_of_ble_eq_true rfl) dX10_steps_26 ⟨Nat.zero_le _, Nat.zero_le _⟩ hS (fun q h => h.elim) (fun z H1 locs1 hz hz1 hk1 hS => ?_)
      have hO := hO.k (hk1 _ hO.lt (fun h => h))
      have hC := hC.k (hk1 _ hC.lt (fun h => h))
      have hU := hU.k (hk1 _ hU.lt (fun h => h))
      have hDn := hDn.k (hk1 _ hDn.lt (fun h => h))
      have hW := hW.k (hk1 _ hW.lt (fun h => h))
      have hBs := hBs.k (hk1 _ hBs.lt (fun h => h))
      have hCh := hCh.k (hk1 _ hCh.lt (fun h => h))
      have hNx := hNx.k (hk1 _ hNx.lt (fun h => h))
      have hP := hP.k (hk1 _ hP.lt (fun h => h))
      have hOw := hOw.k (hk1 _ hOw.lt (fun h => h))
      have hTg := hTg.k (hk1 _ hTg.lt (fun h => h))
      have hf := hf.k (hk1 _ hf.lt (fun h => h))
      have hg := hg.k (hk1 _ hg.lt (fun h => h))
      have hh := hh.k (hk1 _ hh.lt (fun h => h))
      have hz01 : 0 ≤ z ∧ z ≤ 1 := by rw [hz]; split <;> omega
      refine pw_if_ne (tgt := 38) hx hb dX10_steps_29 (by decide) (fun c_29 => ?_) (fun c_29 => ?_)
      · have hkin : 0 ≤ st ∧ st < (mN σ : Int) := by
          by_cases h : 0 ≤ st ∧ st < (mN σ : Int)
          · exact h
          · rw [if_neg h] at hz; omega
        refine lv_aload_n hx hb dX10_steps_38 rfl (lv_at hl 0 rfl) ?_
        refine lv_iload_n hx hb dX10_steps_39 rfl (lv_at hl 1 rfl) ?_
        refine pw_asi (((n.toNat : Nat) : Int)) (by omega) ?_
        refine pw_callVv (As := [.int (iI (((n.toNat : Nat) : Int)))]) (rest := []) ⟨hx, hb, hml, hown, hts⟩ (r_go l D E r0 σ 0 so rn co gU gD gW ch vs0 ow tg n.toNat (by omega) hok hrd hm) (cwV 1 hts gX10_steps_X10_go rfl rfl rfl (by decide +kernel) ⟨Nat.le_of_ble_eq_true rfl, Nat.le_of_ble_eq_true rfl⟩) hK hO rfl ⟨hO, hC, hU, hDn, hW, hCh, ⟨f, g, h, ⟨hf, hg, hh⟩, hN⟩, hP, hOw, hTg⟩ rfl hl.1 rfl (Nat.le_of_ble_eq_true rfl) dX10_steps_40 ⟨Nat.zero_le _, Nat.zero_le _⟩ hS (fun q h => by (try dsimp only at h); (try dsimp only); omega) (fun H1 locs1 ⟨ch, ow, tg, vs, hCh, ⟨f, g, h, ⟨hf, hg, hh⟩, hN⟩, hOw, hTg, hGS, hb1, hb2, hv8⟩ hz1 hk1 hS => ?_)
        have hO := hO.k (hk1 _ hO.lt (by (try dsimp only); omega))
        have hC := hC.k (hk1 _ hC.lt (by (try dsimp only); omega))
        have hU := hU.k (hk1 _ hU.lt (by (try dsimp only); omega))
        have hDn := hDn.k (hk1 _ hDn.lt (by (try dsimp only); omega))
        have hW := hW.k (hk1 _ hW.lt (by (try dsimp only); omega))
        have hBs := hBs.k (hk1 _ hBs.lt (by (try dsimp only); omega))
        have hNx := hNx.k (hk1 _ hNx.lt (by (try dsimp only); omega))
        have hP := hP.k (hk1 _ hP.lt (by (try dsimp only); omega))
        have hv8 : ∀ q, 68 ≤ q → vs (q) = vs0 q := hv8
        have hmg := mG_b n.toNat (by omega)
        obtain ⟨vv, hvv⟩ : ∃ vv : Nat → Int, vv = fun t => vs (55 + t) := ⟨_, rfl⟩
        obtain ⟨bb0, hbb0⟩ : ∃ bb0 : Int, bb0 = vs 67 := ⟨_, rfl⟩
        rw [← hvv, ← hbb0] at hGS
        have h55 : vs (55 + st.toNat) = vv st.toNat := by rw [hvv]
        have h67 : vs (67) = bb0 := hbb0.symm
        have hb1 : ∀ t, t < mN σ → (vv t).natAbs ≤ mG n.toNat := by rw [hvv]; exact hb1
        rw [← hbb0] at hb2
        clear hvv hbb0
        refine lv_aload_n hx hb dX10_steps_43 rfl (lv_at hl 0 rfl) ?_
        refine pw_bipush hx hb dX10_steps_44 ?_
        refine lv_iload_n hx hb dX10_steps_46 rfl (lv_at hl 2 rfl) ?_
        refine pw_iadd hx hb dX10_steps_47 ?_
        refine pw_asi (((55 + st.toNat : Nat) : Int)) (by omega) ?_
        refine pw_bipush hx hb dX10_steps_48 ?_
        refine pw_callVv (As := [.int (iI (((55 + st.toNat : Nat) : Int))), .int (iI (53))]) (rest := []) ⟨hx, hb, hml, hown, hts⟩ (r_copy l D E r0 (oV 0 σ so rn co) f g h (55 + st.toNat) 53 (vv st.toNat) (by omega) (by omega) (by omega) (num_at (hN (55 + st.toNat) (by omega)) h55)) (cwV 2 hts gX10_steps_X10_copy rfl rfl rfl (by decide +kernel) ⟨Nat.le_of_ble_eq_true rfl, Nat.le_of_ble_eq_true rfl⟩) hK hO rfl ⟨hO, hf, hg, hh⟩ rfl hl.1 rfl (Nat.le_of_ble_eq_true rfl) dX10_steps_50 ⟨Nat.zero_le _, Nat.zero_le _⟩ hS (fun q h => by (try dsimp only at h); (try dsimp only); omega) (fun H1 locs1 ⟨f, g, h, ⟨hf, hg, hh⟩, hn1, ho1⟩ hz1 hk1 hS => ?_)
        have hO := hO.k (hk1 _ hO.lt (by (try dsimp only); omega))
        have hC := hC.k (hk1 _ hC.lt (by (try dsimp only); omega))
        have hU := hU.k (hk1 _ hU.lt (by (try dsimp only); omega))
        have hDn := hDn.k (hk1 _ hDn.lt (by (try dsimp only); omega))
        have hW := hW.k (hk1 _ hW.lt (by (try dsimp only); omega))
        have hBs := hBs.k (hk1 _ hBs.lt (by (try dsimp only); omega))
        have hCh := hCh.k (hk1 _ hCh.lt (by (try dsimp only); omega))
        have hNx := hNx.k (hk1 _ hNx.lt (by (try dsimp only); omega))
        have hP := hP.k (hk1 _ hP.lt (by (try dsimp only); omega))
        have hOw := hOw.k (hk1 _ hOw.lt (by (try dsimp only); omega))
        have hTg := hTg.k (hk1 _ hTg.lt (by (try dsimp only); omega))
        obtain ⟨vs, hva0, hvo, hN⟩ := bn_np hN hn1 ho1
        clear hn1 ho1
        have h55 : vs (55 + st.toNat) = vv st.toNat := (hvo _ (by omega)).trans h55
        have h67 : vs (67) = bb0 := (hvo _ (by omega)).trans h67
        have hv8 : ∀ q, 68 ≤ q → vs (q) = vs0 q := fun q hq => (hvo _ (by omega)).trans (hv8 q hq)
        have h53 : vs (53) = vv st.toNat := hva0
        clear hva0 hvo
        refine lv_aload_n hx hb dX10_steps_53 rfl (lv_at hl 0 rfl) ?_
        refine pw_bipush hx hb dX10_steps_54 ?_
        refine pw_bipush hx hb dX10_steps_56 ?_
        refine pw_callVv (As := [.int (iI (67)), .int (iI (54))]) (rest := []) ⟨hx, hb, hml, hown, hts⟩ (r_copy l D E r0 (oV 0 σ so rn co) f g h 67 54 bb0 (by omega) (by omega) (by omega) (num_at (hN (67) (by omega)) h67)) (cwV 2 hts gX10_steps_X10_copy rfl rfl rfl (by decide +kernel) ⟨Nat.le_of_ble_eq_true rfl, Nat.le_of_ble_eq_true rfl⟩) hK hO rfl ⟨hO, hf, hg, hh⟩ rfl hl.1 rfl (Nat.le_of_ble_eq_true rfl) dX10_steps_58 ⟨Nat.zero_le _, Nat.zero_le _⟩ hS (fun q h => by (try dsimp only at h); (try dsimp only); omega) (fun H1 locs1 ⟨f, g, h, ⟨hf, hg, hh⟩, hn1, ho1⟩ hz1 hk1 hS => ?_)
        have hO := hO.k (hk1 _ hO.lt (by (try dsimp only); omega))
        have hC := hC.k (hk1 _ hC.lt (by (try dsimp only); omega))
        have hU := hU.k (hk1 _ hU.lt (by (try dsimp only); omega))
        have hDn := hDn.k (hk1 _ hDn.lt (by (try dsimp only); omega))
        have hW := hW.k (hk1 _ hW.lt (by (try dsimp only); omega))
        have hBs := hBs.k (hk1 _ hBs.lt (by (try dsimp only); omega))
        have hCh := hCh.k (hk1 _ hCh.lt (by (try dsimp only); omega))
        have hNx := hNx.k (hk1 _ hNx.lt (by (try dsimp only); omega))
        have hP := hP.k (hk1 _ hP.lt (by (try dsimp only); omega))
        have hOw := hOw.k (hk1 _ hOw.lt (by (try dsimp only); omega))
        have hTg := hTg.k (hk1 _ hTg.lt (by (try dsimp only); omega))
        obtain ⟨vs, hva0, hvo, hN⟩ := bn_np hN hn1 ho1
        clear hn1 ho1
        have h55 : vs (55 + st.toNat) = vv st.toNat := (hvo _ (by omega)).trans h55
        have h67 : vs (67) = bb0 := (hvo _ (by omega)).trans h67
        have hv8 : ∀ q, 68 ≤ q → vs (q) = vs0 q := fun q hq => (hvo _ (by omega)).trans (hv8 q hq)
        have h53 : vs (53) = vv st.toNat := (hvo _ (by omega)).trans h53
        have h54 : vs (54) = bb0 := hva0
        clear hva0 hvo
        refine lv_aload_n hx hb dX10_steps_61 rfl (lv_at hl 0 rfl) ?_
        refine lv_iload_n hx hb dX10_steps_62 rfl (lv_at hl 3 rfl) ?_
        refine pw_callVl (As := [.int (iI (part))]) (rest := []) ⟨hx, hb, hml, hown, hts⟩ (r_tell l D E r0 (oV 0 σ so rn co) vs part part1 part2 (by rw [h54]; exact hGS.pos) (by rw [h53]; have := hb1 st.toNat (by omega); omega) (by rw [h54]; omega)) (cwV 1 hts gX10_steps_X10_tell rfl rfl rfl (by decide +kernel) ⟨Nat.le_of_ble_eq_true rfl, Nat.le_of_ble_eq_true rfl⟩) hK hO rfl ⟨hO, f, g, h, ⟨hf, hg, hh⟩, hN⟩ rfl hl.1 rfl (Nat.le_of_ble_eq_true rfl) dX10_steps_63 ⟨Nat.zero_le _, Nat.zero_le _⟩ hS (fun q h => by (try dsimp only at h); (try dsimp only); omega) (fun zt H1 locs1 ⟨hzt, vst, ⟨f, g, h, ⟨hf, hg, hh⟩, hN⟩, hvt⟩ hz1 hk1 hS => ?_)
        have hO := hO.k (hk1 _ hO.lt (by (try dsimp only); omega))
        have hC := hC.k (hk1 _ hC.lt (by (try dsimp only); omega))
        have hU := hU.k (hk1 _ hU.lt (by (try dsimp only); omega))
        have hDn := hDn.k (hk1 _ hDn.lt (by (try dsimp only); omega))
        have hW := hW.k (hk1 _ hW.lt (by (try dsimp only); omega))
        have hBs := hBs.k (hk1 _ hBs.lt (by (try dsimp only); omega))
        have hCh := hCh.k (hk1 _ hCh.lt (by (try dsimp only); omega))
        have hNx := hNx.k (hk1 _ hNx.lt (by (try dsimp only); omega))
        have hP := hP.k (hk1 _ hP.lt (by (try dsimp only); omega))
        have hOw := hOw.k (hk1 _ hOw.lt (by (try dsimp only); omega))
        have hTg := hTg.k (hk1 _ hTg.lt (by (try dsimp only); omega))
        have hR2 : RI σ rn so bst vst gU gD gW := hRI.vs (fun q hq => (hvt q (by omega)).trans (hv8 q (by omega)))
        by_cases hp : part < -1
        · exact pw_lret hx hb hr hlocks hS ⟨⟨_, _, _, _, _, _, _, _, _, _, _, _, hO, hC, hU, hDn, hW, hBs, hCh, hNx, ⟨f, g, h, ⟨hf, hg, hh⟩, hN⟩, hP, hOw, hTg, hR2⟩, Or.inl ⟨fun h => by omega, by rw [hzt, if_pos hp, if_neg (by omega)]⟩⟩ dX10_steps_66
        · exact pw_lret hx hb hr hlocks hS ⟨⟨_, _, _, _, _, _, _, _, _, _, _, _, hO, hC, hU, hDn, hW, hBs, hCh, hNx, ⟨f, g, h, ⟨hf, hg, hh⟩, hN⟩, hP, hOw, hTg, hR2⟩, Or.inr ⟨⟨hrd, hk3.1, hk3.2, hkin.1, hkin.2, by omega⟩, vv, bb0, hGS, by rw [hzt, if_neg hp, h53, h54]⟩⟩ dX10_steps_66
      · refine lv_iload_n hx hb dX10_steps_32 rfl (lv_at hl 3 rfl) ?_
        refine pw_callSi (As := [.int (iI (part))]) (rest := []) ⟨hx, hb, hml, hown, hts⟩ (r_none l D E part part1 part2) (va_cwS 1 hts gX10_steps_X10_none rfl rfl rfl (by decide +kernel) ⟨Nat.le_of_ble_eq_true rfl, Nat.le_of_ble_eq_true rfl⟩) hK trivial rfl hl.1 rfl (Nat.le_of_ble_eq_true rfl) dX10_steps_33 ⟨Nat.zero_le _, Nat.zero_le _⟩ hS (fun q h => h.elim) (fun zn H1 locs1 hzn hz1 hk1 hS => ?_)
        have hO := hO.k (hk1 _ hO.lt (fun h => h))
        have hC := hC.k (hk1 _ hC.lt (fun h => h))
        have hU := hU.k (hk1 _ hU.lt (fun h => h))
        have hDn := hDn.k (hk1 _ hDn.lt (fun h => h))
        have hW := hW.k (hk1 _ hW.lt (fun h => h))
        have hBs := hBs.k (hk1 _ hBs.lt (fun h => h))
        have hCh := hCh.k (hk1 _ hCh.lt (fun h => h))
        have hNx := hNx.k (hk1 _ hNx.lt (fun h => h))
        have hP := hP.k (hk1 _ hP.lt (fun h => h))
        have hOw := hOw.k (hk1 _ hOw.lt (fun h => h))
        have hTg := hTg.k (hk1 _ hTg.lt (fun h => h))
        have hf := hf.k (hk1 _ hf.lt (fun h => h))
        have hg := hg.k (hk1 _ hg.lt (fun h => h))
        have hh := hh.k (hk1 _ hh.lt (fun h => h))
        subst hzn
        refine pw_i2l hx hb dX10_steps_36 ?_
        exact pw_lret hx hb hr hlocks hS ⟨⟨_, _, _, _, _, _, _, _, _, _, _, _, hO, hC, hU, hDn, hW, hBs, hCh, hNx, ⟨f, g, h, ⟨hf, hg, hh⟩, hN⟩, hP, hOw, hTg, hRI⟩, Or.inl ⟨fun h => by rw [if_pos ⟨h.2.2.2.1, h.2.2.2.2.1⟩] at hz; omega, rfl⟩⟩ dX10_steps_37
set_option maxHeartbeats 4000000 in
set_option maxRecDepth 100000 in
/-- plan(n, s) -/
theorem r_plan (l : Launch) (D : va_G) (E : Nat → ClassId) (r0 : Nat) (σ : MS) (rn n st : Int) (n1 : -2147483648 ≤ n) (n2 : n ≤ 2147483647) (st1 : -2147483648 ≤ st) (st2 : st ≤ 2147483647) : pw_M rvI l D E yX10_plan wsX10_plan ({ frames := 6, cells := 0, slots := 0, locals := 152 } : Room) [.ref (r0), .int (iI (n)), .int (iI (st))] (fun H => RPO D E r0 σ rn H) (fun z H => RPO D E r0 σ rn H ∧ ((¬ (rdy σ ∧ 1 ≤ n ∧ n ≤ 8 ∧ 0 ≤ st ∧ st < (mN σ : Int)) ∧ z = -1) ∨ ((rdy σ ∧ 1 ≤ n ∧ n ≤ 8 ∧ 0 ≤ st ∧ st < (mN σ : Int)) ∧ ∃ v b, GS σ (n.toNat - 1) v b ∧ z = (spk σ v b st.toNat : Int)))) (fun q => r0 ≤ q ∧ q ≤ r0 + 13) (0) (0) := by
  refine pw_of (cc := cX10_plan) (maxL := 3) (ret := (some .int)) (by decide +kernel) rfl (Nat.le_of_ble_eq_true rfl) ?_
  intro p e s m args below meth c hx hb hr hml hts hown hlocks hini hK ⟨th, so, co, bst, ch, nx, vs0, ow, tg, gU, gD, gW, hO, hC, hU, hDn, hW, hBs, hCh, hNx, hB, hP, hOw, hTg, hRI⟩ ls hl
  have hown : s.vm.findClass RX10 = some m.cls := hown
  have hl : lv_has ls 3 [(0, .ref (r0)), (1, .int (iI (n))), (2, .int (iI (st)))] := hl
  have hS : va_S (fun q => r0 ≤ q ∧ q ≤ r0 + 13) s.heap s.heap [] := va_S.rf
  have lk_56 := hts (.fieldLink RX10 56 "PolicyWorksModel" "thrown" "I") (by decide +kernel)
  have kc_202 := hts (.constantLong RX10 202 (8)) (by decide +kernel)
  have hin10 : ∀ w ∈ wsX100, w ∈ wsX10_plan := by decide +kernel
  have hok := hRI.1
  have hm := hRI.2.1
  have hN6 := hok.1
  have hC4 := hok.2.1
  have hso := hRI.2.2.2
  have hrs : (so = 0 ∧ rn = 0) ∨ (so = 1 ∧ 0 < rn) := hso.elim (fun h => Or.inl ⟨h.2, h.1⟩) (fun h => Or.inr ⟨h.2.1, h.1⟩)
  obtain ⟨f, g, h, ⟨hf, hg, hh⟩, hN⟩ := hB
  have b16 : 268435456 ^ 14 < 268435456 ^ 16 ∧ 268435456 ^ 16 * 8000000000 < 268435456 ^ 62 := by decide +kernel
  have p60 : 268435456 ^ 60 < 268435456 ^ 62 := by decide +kernel
  refine lv_aload_n hx hb dX10_plan_0 rfl (lv_at hl 0 rfl) ?_
  refine pw_iconst hx hb dX10_plan_1 ?_
  refine pw_put (C := RX10) (T := TX10) (N := 20) hx hb hts hin10 tyX10 tyX10_ok nmX10 hown hK hO hS (by (try dsimp only); omega) rfl 0 (by decide) lk_56 rfl rfl rfl rfl (by show _ < 20; decide) dX10_plan_2 (fun H1 locs1 hnew hz1 oq hS => ?_)
  have hC := hC.k (oq _ (by omega))
  have hU := hU.k (oq _ (by omega))
  have hDn := hDn.k (oq _ (by omega))
  have hW := hW.k (oq _ (by omega))
  have hBs := hBs.k (oq _ (by omega))
  have hCh := hCh.k (oq _ (by omega))
  have hNx := hNx.k (oq _ (by omega))
  have hP := hP.k (oq _ (by omega))
  have hOw := hOw.k (oq _ (by omega))
  have hTg := hTg.k (oq _ (by omega))
  have hf := hf.k (oq _ (by omega))
  have hg := hg.k (oq _ (by omega))
  have hh := hh.k (oq _ (by omega))
  have hO : OA D (r0) 10 [.int (iI (0)), .int (iI ((mN σ : Int))), .ref (r0 + 1), .ref (r0 + 2), .ref (r0 + 3), .ref (r0 + 4), .int (iI ((mA σ : Int))), .int (iI ((mB σ : Int))), .int (iI (so)), .int (iI (rn)), .ref (r0 + 5), .ref (r0 + 6), .ref (r0 + 7), .ref (r0 + 8), .ref (r0 + 9), .ref (r0 + 10), .ref (r0 + 11), .ref (r0 + 12), .ref (r0 + 13), .int (iI (co))] H1 := hnew
  clear hnew oq hz1
  refine lv_aload_n hx hb dX10_plan_5 rfl (lv_at hl 0 rfl) ?_
  refine pw_callVi (As := []) (rest := []) ⟨hx, hb, hml, hown, hts⟩ (r_isReady l D E r0 σ 0 so rn co gU gD gW hok hm) (cwV 0 hts gX10_plan_X10_isReady rfl rfl rfl (by decide +kernel) ⟨Nat.le_of_ble_eq_true rfl, Nat.le_of_ble_eq_true rfl⟩) hK hO rfl ⟨hO, hC, hW⟩ rfl hl.1 rfl (Nat.le_of_ble_eq_true rfl) dX10_plan_6 ⟨Nat.zero_le _, Nat.zero_le _⟩ hS (fun q h => h.elim) (fun zy H1 locs1 ⟨hy01, hyr⟩ hz1 hk1 hS => ?_)
  have hO := hO.k (hk1 _ hO.lt (fun h => h))
  have hC := hC.k (hk1 _ hC.lt (fun h => h))
  have hU := hU.k (hk1 _ hU.lt (fun h => h))
  have hDn := hDn.k (hk1 _ hDn.lt (fun h => h))
  have hW := hW.k (hk1 _ hW.lt (fun h => h))
  have hBs := hBs.k (hk1 _ hBs.lt (fun h => h))
  have hCh := hCh.k (hk1 _ hCh.lt (fun h => h))
  have hNx := hNx.k (hk1 _ hNx.lt (fun h => h))
  have hP := hP.k (hk1 _ hP.lt (fun h => h))
  have hOw := hOw.k (hk1 _ hOw.lt (fun h => h))
  have hTg := hTg.k (hk1 _ hTg.lt (fun h => h))
  have hf := hf.k (hk1 _ hf.lt (fun h => h))
  have hg := hg.k (hk1 _ hg.lt (fun h => h))
  have hh := hh.k (hk1 _ hh.lt (fun h => h))
  refine pw_if_eq (tgt := 32) hx hb dX10_plan_9 (by decide) (fun c_9 => ?_) (fun c_9 => ?_)
  · refine pw_iconst hx hb dX10_plan_32 ?_
    exact pw_iret hx hb hr hlocks hS ⟨⟨_, _, _, _, _, _, _, _, _, _, _, _, hO, hC, hU, hDn, hW, hBs, hCh, hNx, ⟨f, g, h, ⟨hf, hg, hh⟩, hN⟩, hP, hOw, hTg, hRI⟩, Or.inl ⟨fun h => absurd (hyr.mpr h.1) (by omega), rfl⟩⟩ dX10_plan_33
  · have hrd := hyr.mp (by omega)
    refine lv_iload_n hx hb dX10_plan_12 rfl (lv_at hl 1 rfl) ?_
    refine pw_i2l hx hb dX10_plan_13 ?_
    refine pw_lconst (z := 1) hx hb dX10_plan_14 ?_
    refine pw_ldc2 (z := 8) hx hb hown kc_202 (by decide +kernel) dX10_plan_15 ?_
    refine pw_callSi (As := [.long (lI (n)), .long (lI (1)), .long (lI (8))]) (rest := []) ⟨hx, hb, hml, hown, hts⟩ (r_in l D E n 1 8 (by omega) (by omega) (by omega) (by omega) (by omega) (by omega)) (va_cwS 3 hts gX10_plan_X10_in rfl rfl rfl (by decide +kernel) ⟨Nat.le_of_ble_eq_true rfl, Nat.le_of_ble_eq_true rfl⟩) hK trivial rfl hl.1 rfl (Nat.le_of_ble_eq_true rfl) dX10_plan_18 ⟨Nat.zero_le _, Nat.zero_le _⟩ hS (fun q h => h.elim) (fun zi H1 locs1 hi3 hz1 hk1 hS => ?_)
    have hO := hO.k (hk1 _ hO.lt (fun h => h))
    have hC := hC.k (hk1 _ hC.lt (fun h => h))
    have hU := hU.k (hk1 _ hU.lt (fun h => h))
    have hDn := hDn.k (hk1 _ hDn.lt (fun h => h))
    have hW := hW.k (hk1 _ hW.lt (fun h => h))
    have hBs := hBs.k (hk1 _ hBs.lt (fun h => h))
    have hCh := hCh.k (hk1 _ hCh.lt (fun h => h))
    have hNx := hNx.k (hk1 _ hNx.lt (fun h => h))
    have hP := hP.k (hk1 _ hP.lt (fun h => h))
    have hOw := hOw.k (hk1 _ hOw.lt (fun h => h))
    have hTg := hTg.k (hk1 _ hTg.lt (fun h => h))
    have hf := hf.k (hk1 _ hf.lt (fun h => h))
    have hg := hg.k (hk1 _ hg.lt (fun h => h))
    have hh := hh.k (hk1 _ hh.lt (fun h => h))
    have hi01 : 0 ≤ zi ∧ zi ≤ 1 := by rw [hi3]; split <;> omega
    refine pw_if_eq (tgt := 32) hx hb dX10_plan_21 (by decide) (fun c_21 => ?_) (fun c_21 => ?_)
    · refine pw_iconst hx hb dX10_plan_32 ?_
      exact pw_iret hx hb hr hlocks hS ⟨⟨_, _, _, _, _, _, _, _, _, _, _, _, hO, hC, hU, hDn, hW, hBs, hCh, hNx, ⟨f, g, h, ⟨hf, hg, hh⟩, hN⟩, hP, hOw, hTg, hRI⟩, Or.inl ⟨fun h => by rw [if_pos ⟨h.2.1, h.2.2.1⟩] at hi3; omega, rfl⟩⟩ dX10_plan_33
    · have hk3 : 1 ≤ n ∧ n ≤ 8 := by
        by_cases h : 1 ≤ n ∧ n ≤ 8
        · exact h
        · rw [if_neg h] at hi3; omega
      refine lv_aload_n hx hb dX10_plan_24 rfl (lv_at hl 0 rfl) ?_
      refine lv_iload_n hx hb dX10_plan_25 rfl (lv_at hl 2 rfl) ?_
      refine pw_callVi (As := [.int (iI (st))]) (rest := []) ⟨hx, hb, hml, hown, hts⟩ (r_isState l D E r0 σ 0 so rn co hok st st1 st2) (cwV 1 hts gX10_plan_X10_isState rfl rfl rfl (by decide +kernel) ⟨Nat.le_of_ble_eq_true rfl, Nat.le_of_ble_eq_true rfl⟩) hK hO rfl hO rfl hl.1 rfl (Nat.le_of_ble_eq_true rfl) dX10_plan_26 ⟨Nat.zero_le _, Nat.zero_le _⟩ hS (fun q h => h.elim) (fun z H1 locs1 hz hz1 hk1 hS => ?_)
      have hO := hO.k (hk1 _ hO.lt (fun h => h))
      have hC := hC.k (hk1 _ hC.lt (fun h => h))
      have hU := hU.k (hk1 _ hU.lt (fun h => h))
      have hDn := hDn.k (hk1 _ hDn.lt (fun h => h))
      have hW := hW.k (hk1 _ hW.lt (fun h => h))
      have hBs := hBs.k (hk1 _ hBs.lt (fun h => h))
      have hCh := hCh.k (hk1 _ hCh.lt (fun h => h))
      have hNx := hNx.k (hk1 _ hNx.lt (fun h => h))
      have hP := hP.k (hk1 _ hP.lt (fun h => h))
      have hOw := hOw.k (hk1 _ hOw.lt (fun h => h))
      have hTg := hTg.k (hk1 _ hTg.lt (fun h => h))
      have hf := hf.k (hk1 _ hf.lt (fun h => h))
      have hg := hg.k (hk1 _ hg.lt (fun h => h))
      have hh := hh.k (hk1 _ hh.lt (fun h => h))
      have hz01 : 0 ≤ z ∧ z ≤ 1 := by rw [hz]; split <;> omega
      refine pw_if_ne (tgt := 34) hx hb dX10_plan_29 (by decide) (fun c_29 => ?_) (fun c_29 => ?_)
      · have hkin : 0 ≤ st ∧ st < (mN σ : Int) := by
          by_cases h : 0 ≤ st ∧ st < (mN σ : Int)
          · exact h
          · rw [if_neg h] at hz; omega
        refine lv_aload_n hx hb dX10_plan_34 rfl (lv_at hl 0 rfl) ?_
        refine lv_iload_n hx hb dX10_plan_35 rfl (lv_at hl 1 rfl) ?_
        refine pw_iconst hx hb dX10_plan_36 ?_
        refine pw_isub hx hb dX10_plan_37 ?_
        refine pw_asi (((n.toNat - 1 : Nat) : Int)) (by omega) ?_
        refine pw_callVv (As := [.int (iI (((n.toNat - 1 : Nat) : Int)))]) (rest := []) ⟨hx, hb, hml, hown, hts⟩ (r_go l D E r0 σ 0 so rn co gU gD gW ch vs0 ow tg (n.toNat - 1) (by omega) hok hrd hm) (cwV 1 hts gX10_plan_X10_go rfl rfl rfl (by decide +kernel) ⟨Nat.le_of_ble_eq_true rfl, Nat.le_of_ble_eq_true rfl⟩) hK hO rfl ⟨hO, hC, hU, hDn, hW, hCh, ⟨f, g, h, ⟨hf, hg, hh⟩, hN⟩, hP, hOw, hTg⟩ rfl hl.1 rfl (Nat.le_of_ble_eq_true rfl) dX10_plan_38 ⟨Nat.zero_le _, Nat.zero_le _⟩ hS (fun q h => by (try dsimp only at h); (try dsimp only); omega) (fun H1 locs1 ⟨ch, ow, tg, vs, hCh, ⟨f, g, h, ⟨hf, hg, hh⟩, hN⟩, hOw, hTg, hGS, hb1, hb2, hv8⟩ hz1 hk1 hS => ?_)
        have hO := hO.k (hk1 _ hO.lt (by (try dsimp only); omega))
        have hC := hC.k (hk1 _ hC.lt (by (try dsimp only); omega))
        have hU := hU.k (hk1 _ hU.lt (by (try dsimp only); omega))
        have hDn := hDn.k (hk1 _ hDn.lt (by (try dsimp only); omega))
        have hW := hW.k (hk1 _ hW.lt (by (try dsimp only); omega))
        have hBs := hBs.k (hk1 _ hBs.lt (by (try dsimp only); omega))
        have hNx := hNx.k (hk1 _ hNx.lt (by (try dsimp only); omega))
        have hP := hP.k (hk1 _ hP.lt (by (try dsimp only); omega))
        have hv8 : ∀ q, 68 ≤ q → vs (q) = vs0 q := hv8
        have hmg := mG_b (n.toNat - 1) (by omega)
        refine lv_aload_n hx hb dX10_plan_41 rfl (lv_at hl 0 rfl) ?_
        refine lv_iload_n hx hb dX10_plan_42 rfl (lv_at hl 2 rfl) ?_
        refine pw_asi (((st.toNat : Nat) : Int)) (by omega) ?_
        refine pw_bipush hx hb dX10_plan_43 ?_
        refine pw_bipush hx hb dX10_plan_45 ?_
        refine pw_callVi (As := [.int (iI (((st.toNat : Nat) : Int))), .int (iI (55)), .int (iI (67))]) (rest := []) ⟨hx, hb, hml, hown, hts⟩ (r_greatest l D E r0 σ 0 so rn co gU gD gW vs st.toNat 55 67 (mG (n.toNat - 1)) (by omega) (hrd.2 st.toNat (by omega)).1 hm (by omega) (by omega) hok (by omega) (by omega) (by omega) (by omega) hb1 hb2 (by omega)) (cwV 3 hts gX10_plan_X10_greatest rfl rfl rfl (by decide +kernel) ⟨Nat.le_of_ble_eq_true rfl, Nat.le_of_ble_eq_true rfl⟩) hK hO rfl ⟨hO, hU, hDn, hW, hC, f, g, h, ⟨hf, hg, hh⟩, hN⟩ rfl hl.1 rfl (Nat.le_of_ble_eq_true rfl) dX10_plan_47 ⟨Nat.zero_le _, Nat.zero_le _⟩ hS (fun q h => by (try dsimp only at h); (try dsimp only); omega) (fun zg H1 locs1 ⟨hzg, vst, ⟨f, g, h, ⟨hf, hg, hh⟩, hN⟩, hvt⟩ hz1 hk1 hS => ?_)
        have hO := hO.k (hk1 _ hO.lt (by (try dsimp only); omega))
        have hC := hC.k (hk1 _ hC.lt (by (try dsimp only); omega))
        have hU := hU.k (hk1 _ hU.lt (by (try dsimp only); omega))
        have hDn := hDn.k (hk1 _ hDn.lt (by (try dsimp only); omega))
        have hW := hW.k (hk1 _ hW.lt (by (try dsimp only); omega))
        have hBs := hBs.k (hk1 _ hBs.lt (by (try dsimp only); omega))
        have hCh := hCh.k (hk1 _ hCh.lt (by (try dsimp only); omega))
        have hNx := hNx.k (hk1 _ hNx.lt (by (try dsimp only); omega))
        have hP := hP.k (hk1 _ hP.lt (by (try dsimp only); omega))
        have hOw := hOw.k (hk1 _ hOw.lt (by (try dsimp only); omega))
        have hTg := hTg.k (hk1 _ hTg.lt (by (try dsimp only); omega))
        have hR2 : RI σ rn so bst vst gU gD gW := hRI.vs (fun q hq => (hvt q (by omega)).trans (hv8 q (by omega)))
        exact pw_iret hx hb hr hlocks hS ⟨⟨_, _, _, _, _, _, _, _, _, _, _, _, hO, hC, hU, hDn, hW, hBs, hCh, hNx, ⟨f, g, h, ⟨hf, hg, hh⟩, hN⟩, hP, hOw, hTg, hR2⟩, Or.inr ⟨⟨hrd, hk3.1, hk3.2, hkin.1, hkin.2⟩, _, _, hGS, hzg⟩⟩ dX10_plan_50
      · refine pw_iconst hx hb dX10_plan_32 ?_
        exact pw_iret hx hb hr hlocks hS ⟨⟨_, _, _, _, _, _, _, _, _, _, _, _, hO, hC, hU, hDn, hW, hBs, hCh, hNx, ⟨f, g, h, ⟨hf, hg, hh⟩, hN⟩, hP, hOw, hTg, hRI⟩, Or.inl ⟨fun h => by rw [if_pos ⟨h.2.2.2.1, h.2.2.2.2⟩] at hz; omega, rfl⟩⟩ dX10_plan_33
set_option maxHeartbeats 4000000 in
set_option maxRecDepth 100000 in
/-- best() -/
theorem r_best (l : Launch) (D : va_G) (E : Nat → ClassId) (r0 : Nat) (σ : MS) (rn : Int) : pw_M rvI l D E yX10_best wsX10_best ({ frames := 0, cells := 0, slots := 0, locals := 0 } : Room) [.ref (r0)] (fun H => RPO D E r0 σ rn H) (fun z H => RPO D E r0 σ rn H ∧ z = if 0 < rn then 1 else 0) (fun q => r0 ≤ q ∧ q ≤ r0 + 13) (0) (0) := by
  refine pw_of (cc := cX10_best) (maxL := 1) (ret := (some .boolean)) (by decide +kernel) rfl (Nat.le_of_ble_eq_true rfl) ?_
  intro p e s m args below meth c hx hb hr hml hts hown hlocks hini hK ⟨th, so, co, bst, ch, nx, vs, ow, tg, gU, gD, gW, hO, hC, hU, hDn, hW, hBs, hCh, hNx, hB, hP, hOw, hTg, hRI⟩ ls hl
  have hown : s.vm.findClass RX10 = some m.cls := hown
  have hl : lv_has ls 1 [(0, .ref (r0))] := hl
  have hS : va_S (fun q => r0 ≤ q ∧ q ≤ r0 + 13) s.heap s.heap [] := va_S.rf
  have lk_56 := hts (.fieldLink RX10 56 "PolicyWorksModel" "thrown" "I") (by decide +kernel)
  have lk_96 := hts (.fieldLink RX10 96 "PolicyWorksModel" "solved" "Z") (by decide +kernel)
  have hin10 : ∀ w ∈ wsX100, w ∈ wsX10_best := by decide +kernel
  have hok := hRI.1
  have hm := hRI.2.1
  have hN6 := hok.1
  have hC4 := hok.2.1
  have hso := hRI.2.2.2
  have hrs : (so = 0 ∧ rn = 0) ∨ (so = 1 ∧ 0 < rn) := hso.elim (fun h => Or.inl ⟨h.2, h.1⟩) (fun h => Or.inr ⟨h.2.1, h.1⟩)
  refine lv_aload_n hx hb dX10_best_0 rfl (lv_at hl 0 rfl) ?_
  refine pw_iconst hx hb dX10_best_1 ?_
  refine pw_put (C := RX10) (T := TX10) (N := 20) hx hb hts hin10 tyX10 tyX10_ok nmX10 hown hK hO hS (by (try dsimp only); omega) rfl 0 (by decide) lk_56 rfl rfl rfl rfl (by show _ < 20; decide) dX10_best_2 (fun H1 locs1 hnew hz1 oq hS => ?_)
  have hC := hC.k (oq _ (by omega))
  have hU := hU.k (oq _ (by omega))
  have hDn := hDn.k (oq _ (by omega))
  have hW := hW.k (oq _ (by omega))
  have hBs := hBs.k (oq _ (by omega))
  have hCh := hCh.k (oq _ (by omega))
  have hNx := hNx.k (oq _ (by omega))
  have hB := hB.k (fun q h1 h2 h3 => (oq _ (by omega)))
  have hP := hP.k (oq _ (by omega))
  have hOw := hOw.k (oq _ (by omega))
  have hTg := hTg.k (oq _ (by omega))
  have hO : OA D (r0) 10 [.int (iI (0)), .int (iI ((mN σ : Int))), .ref (r0 + 1), .ref (r0 + 2), .ref (r0 + 3), .ref (r0 + 4), .int (iI ((mA σ : Int))), .int (iI ((mB σ : Int))), .int (iI (so)), .int (iI (rn)), .ref (r0 + 5), .ref (r0 + 6), .ref (r0 + 7), .ref (r0 + 8), .ref (r0 + 9), .ref (r0 + 10), .ref (r0 + 11), .ref (r0 + 12), .ref (r0 + 13), .int (iI (co))] H1 := hnew
  clear hnew oq hz1
  refine lv_aload_n hx hb dX10_best_5 rfl (lv_at hl 0 rfl) ?_
  refine pw_get (C := RX10) (T := TX10) (N := 20) hx hb hts hin10 hown hK hO rfl 8 (by decide) lk_96 rfl rfl dX10_best_6 ?_
  rcases hrs with ⟨h1, h2⟩ | ⟨h1, h2⟩
  · exact pw_zret hx hb hr hlocks hS (by omega) ⟨⟨_, _, _, _, _, _, _, _, _, _, _, _, hO, hC, hU, hDn, hW, hBs, hCh, hNx, hB, hP, hOw, hTg, hRI⟩, by rw [if_neg (by omega)]; exact h1⟩ dX10_best_9
  · exact pw_zret hx hb hr hlocks hS (by omega) ⟨⟨_, _, _, _, _, _, _, _, _, _, _, _, hO, hC, hU, hDn, hW, hBs, hCh, hNx, hB, hP, hOw, hTg, hRI⟩, by rw [if_pos h2]; exact h1⟩ dX10_best_9
set_option maxHeartbeats 4000000 in
set_option maxRecDepth 100000 in
/-- count(k) -/
theorem r_count (l : Launch) (D : va_G) (E : Nat → ClassId) (r0 : Nat) (σ : MS) (rn k : Int) (k1 : -2147483648 ≤ k) (k2 : k ≤ 2147483647) : pw_M rvI l D E yX10_count wsX10_count ({ frames := 2, cells := 0, slots := 0, locals := 46 } : Room) [.ref (r0), .int (iI (k))] (fun H => RPO D E r0 σ rn H) (fun z H => RPO D E r0 σ rn H ∧ z = (if k = 0 then (mN σ : Int) else if k = 1 then ((sA σ (qR σ 0) (mN σ) : Nat) : Int) else if k = 2 then rn else if k = 3 then ((sA σ (qR σ 1) (mN σ) : Nat) : Int) else -1)) (fun q => r0 ≤ q ∧ q ≤ r0 + 13) (0) (0) := by
  refine pw_of (cc := cX10_count) (maxL := 2) (ret := (some .int)) (by decide +kernel) rfl (Nat.le_of_ble_eq_true rfl) ?_
  intro p e s m args below meth c hx hb hr hml hts hown hlocks hini hK ⟨th, so, co, bst, ch, nx, vs, ow, tg, gU, gD, gW, hO, hC, hU, hDn, hW, hBs, hCh, hNx, hB, hP, hOw, hTg, hRI⟩ ls hl
  have hown : s.vm.findClass RX10 = some m.cls := hown
  have hl : lv_has ls 2 [(0, .ref (r0)), (1, .int (iI (k)))] := hl
  have hS : va_S (fun q => r0 ≤ q ∧ q ≤ r0 + 13) s.heap s.heap [] := va_S.rf
  have lk_56 := hts (.fieldLink RX10 56 "PolicyWorksModel" "thrown" "I") (by decide +kernel)
  have lk_100 := hts (.fieldLink RX10 100 "PolicyWorksModel" "rounds" "I") (by decide +kernel)
  have lk_103 := hts (.fieldLink RX10 103 "PolicyWorksModel" "states" "I") (by decide +kernel)
  have hin10 : ∀ w ∈ wsX100, w ∈ wsX10_count := by decide +kernel
  have hok := hRI.1
  have hm := hRI.2.1
  have hN6 := hok.1
  have hC4 := hok.2.1
  have hso := hRI.2.2.2
  have hrs : (so = 0 ∧ rn = 0) ∨ (so = 1 ∧ 0 < rn) := hso.elim (fun h => Or.inl ⟨h.2, h.1⟩) (fun h => Or.inr ⟨h.2.1, h.1⟩)
  have hA1 := sA_b hok (qR_1 σ 1) (mN σ) hN6
  have hA0 := sA_b hok (qR_1 σ 0) (mN σ) hN6
  have hrn := hRI.2.2.1
  refine lv_aload_n hx hb dX10_count_0 rfl (lv_at hl 0 rfl) ?_
  refine pw_iconst hx hb dX10_count_1 ?_
  refine pw_put (C := RX10) (T := TX10) (N := 20) hx hb hts hin10 tyX10 tyX10_ok nmX10 hown hK hO hS (by (try dsimp only); omega) rfl 0 (by decide) lk_56 rfl rfl rfl rfl (by show _ < 20; decide) dX10_count_2 (fun H1 locs1 hnew hz1 oq hS => ?_)
  have hC := hC.k (oq _ (by omega))
  have hU := hU.k (oq _ (by omega))
  have hDn := hDn.k (oq _ (by omega))
  have hW := hW.k (oq _ (by omega))
  have hBs := hBs.k (oq _ (by omega))
  have hCh := hCh.k (oq _ (by omega))
  have hNx := hNx.k (oq _ (by omega))
  have hB := hB.k (fun q h1 h2 h3 => (oq _ (by omega)))
  have hP := hP.k (oq _ (by omega))
  have hOw := hOw.k (oq _ (by omega))
  have hTg := hTg.k (oq _ (by omega))
  have hO : OA D (r0) 10 [.int (iI (0)), .int (iI ((mN σ : Int))), .ref (r0 + 1), .ref (r0 + 2), .ref (r0 + 3), .ref (r0 + 4), .int (iI ((mA σ : Int))), .int (iI ((mB σ : Int))), .int (iI (so)), .int (iI (rn)), .ref (r0 + 5), .ref (r0 + 6), .ref (r0 + 7), .ref (r0 + 8), .ref (r0 + 9), .ref (r0 + 10), .ref (r0 + 11), .ref (r0 + 12), .ref (r0 + 13), .int (iI (co))] H1 := hnew
  clear hnew oq hz1
  refine lv_iload_n hx hb dX10_count_5 rfl (lv_at hl 1 rfl) ?_
  refine pw_if_ne (tgt := 16) hx hb dX10_count_6 (by decide) (fun c_6 => ?_) (fun c_6 => ?_)
  · refine lv_iload_n hx hb dX10_count_16 rfl (lv_at hl 1 rfl) ?_
    refine pw_iconst hx hb dX10_count_17 ?_
    refine pw_icmp_ne (tgt := 28) hx hb dX10_count_18 (by decide) (fun c_18 => ?_) (fun c_18 => ?_)
    · refine lv_iload_n hx hb dX10_count_28 rfl (lv_at hl 1 rfl) ?_
      refine pw_iconst hx hb dX10_count_29 ?_
      refine pw_icmp_ne (tgt := 40) hx hb dX10_count_30 (by decide) (fun c_30 => ?_) (fun c_30 => ?_)
      · refine lv_iload_n hx hb dX10_count_40 rfl (lv_at hl 1 rfl) ?_
        refine pw_iconst hx hb dX10_count_41 ?_
        refine pw_icmp_ne (tgt := 52) hx hb dX10_count_42 (by decide) (fun c_42 => ?_) (fun c_42 => ?_)
        · refine pw_iconst hx hb dX10_count_52 ?_
          exact pw_iret hx hb hr hlocks hS ⟨⟨_, _, _, _, _, _, _, _, _, _, _, _, hO, hC, hU, hDn, hW, hBs, hCh, hNx, hB, hP, hOw, hTg, hRI⟩, by rw [if_neg (by omega), if_neg (by omega), if_neg (by omega), if_neg (by omega)]⟩ dX10_count_53
        · refine lv_aload_n hx hb dX10_count_45 rfl (lv_at hl 0 rfl) ?_
          refine pw_callVi (As := []) (rest := []) ⟨hx, hb, hml, hown, hts⟩ (r_readyCount l D E r0 σ 0 so rn co gU gD gW hok hm) (cwV 0 hts gX10_count_X10_readyCount rfl rfl rfl (by decide +kernel) ⟨Nat.le_of_ble_eq_true rfl, Nat.le_of_ble_eq_true rfl⟩) hK hO rfl ⟨hO, hC, hW⟩ rfl hl.1 rfl (Nat.le_of_ble_eq_true rfl) dX10_count_46 ⟨Nat.zero_le _, Nat.zero_le _⟩ hS (fun q h => h.elim) (fun z H1 locs1 hz hz1 hk1 hS => ?_)
          have hO := hO.k (hk1 _ hO.lt (fun h => h))
          have hC := hC.k (hk1 _ hC.lt (fun h => h))
          have hU := hU.k (hk1 _ hU.lt (fun h => h))
          have hDn := hDn.k (hk1 _ hDn.lt (fun h => h))
          have hW := hW.k (hk1 _ hW.lt (fun h => h))
          have hBs := hBs.k (hk1 _ hBs.lt (fun h => h))
          have hCh := hCh.k (hk1 _ hCh.lt (fun h => h))
          have hNx := hNx.k (hk1 _ hNx.lt (fun h => h))
          have hB := hB.k (fun q h1 h2 h3 => (hk1 _ h3 (fun h => h)))
          have hP := hP.k (hk1 _ hP.lt (fun h => h))
          have hOw := hOw.k (hk1 _ hOw.lt (fun h => h))
          have hTg := hTg.k (hk1 _ hTg.lt (fun h => h))
          subst hz
          refine lv_goto (tgt := 53) hx hb dX10_count_49 (by decide) ?_
          exact pw_iret hx hb hr hlocks hS ⟨⟨_, _, _, _, _, _, _, _, _, _, _, _, hO, hC, hU, hDn, hW, hBs, hCh, hNx, hB, hP, hOw, hTg, hRI⟩, by rw [if_neg (by omega), if_neg (by omega), if_neg (by omega), if_pos (by omega)]⟩ dX10_count_53
      · refine lv_aload_n hx hb dX10_count_33 rfl (lv_at hl 0 rfl) ?_
        refine pw_get (C := RX10) (T := TX10) (N := 20) hx hb hts hin10 hown hK hO rfl 9 (by decide) lk_100 rfl rfl dX10_count_34 ?_
        refine lv_goto (tgt := 53) hx hb dX10_count_37 (by decide) ?_
        exact pw_iret hx hb hr hlocks hS ⟨⟨_, _, _, _, _, _, _, _, _, _, _, _, hO, hC, hU, hDn, hW, hBs, hCh, hNx, hB, hP, hOw, hTg, hRI⟩, by rw [if_neg (by omega), if_neg (by omega), if_pos (by omega)]⟩ dX10_count_53
    · refine lv_aload_n hx hb dX10_count_21 rfl (lv_at hl 0 rfl) ?_
      refine pw_callVi (As := []) (rest := []) ⟨hx, hb, hml, hown, hts⟩ (r_allActions l D E r0 σ 0 so rn co hok) (cwV 0 hts gX10_count_X10_allActions rfl rfl rfl (by decide +kernel) ⟨Nat.le_of_ble_eq_true rfl, Nat.le_of_ble_eq_true rfl⟩) hK hO rfl ⟨hO, hC⟩ rfl hl.1 rfl (Nat.le_of_ble_eq_true rfl) dX10_count_22 ⟨Nat.zero_le _, Nat.zero_le _⟩ hS (fun q h => h.elim) (fun z H1 locs1 hz hz1 hk1 hS => ?_)
      have hO := hO.k (hk1 _ hO.lt (fun h => h))
      have hC := hC.k (hk1 _ hC.lt (fun h => h))
      have hU := hU.k (hk1 _ hU.lt (fun h => h))
      have hDn := hDn.k (hk1 _ hDn.lt (fun h => h))
      have hW := hW.k (hk1 _ hW.lt (fun h => h))
      have hBs := hBs.k (hk1 _ hBs.lt (fun h => h))
      have hCh := hCh.k (hk1 _ hCh.lt (fun h => h))
      have hNx := hNx.k (hk1 _ hNx.lt (fun h => h))
      have hB := hB.k (fun q h1 h2 h3 => (hk1 _ h3 (fun h => h)))
      have hP := hP.k (hk1 _ hP.lt (fun h => h))
      have hOw := hOw.k (hk1 _ hOw.lt (fun h => h))
      have hTg := hTg.k (hk1 _ hTg.lt (fun h => h))
      subst hz
      refine lv_goto (tgt := 53) hx hb dX10_count_25 (by decide) ?_
      exact pw_iret hx hb hr hlocks hS ⟨⟨_, _, _, _, _, _, _, _, _, _, _, _, hO, hC, hU, hDn, hW, hBs, hCh, hNx, hB, hP, hOw, hTg, hRI⟩, by rw [if_neg (by omega), if_pos (by omega)]⟩ dX10_count_53
  · refine lv_aload_n hx hb dX10_count_9 rfl (lv_at hl 0 rfl) ?_
    refine pw_get (C := RX10) (T := TX10) (N := 20) hx hb hts hin10 hown hK hO rfl 1 (by decide) lk_103 rfl rfl dX10_count_10 ?_
    refine lv_goto (tgt := 53) hx hb dX10_count_13 (by decide) ?_
    exact pw_iret hx hb hr hlocks hS ⟨⟨_, _, _, _, _, _, _, _, _, _, _, _, hO, hC, hU, hDn, hW, hBs, hCh, hNx, hB, hP, hOw, hTg, hRI⟩, by rw [if_pos (by omega)]⟩ dX10_count_53
set_option maxHeartbeats 4000000 in
set_option maxRecDepth 100000 in
/-- bound(n, part) -/
theorem r_bound (l : Launch) (D : va_G) (E : Nat → ClassId) (r0 : Nat) (σ : MS) (rn n part : Int) (n1 : -2147483648 ≤ n) (n2 : n ≤ 2147483647) (part1 : -2147483648 ≤ part) (part2 : part ≤ 2147483647) : pw_M rvL l D E yX10_bound wsX10_bound ({ frames := 4, cells := 0, slots := 0, locals := 107 } : Room) [.ref (r0), .int (iI (n)), .int (iI (part))] (fun H => RPO D E r0 σ rn H) (fun z H => RPO D E r0 σ rn H ∧ ((¬ (rdy σ ∧ 0 ≤ n ∧ n ≤ 8 ∧ -1 ≤ part) ∧ z = (if part = -1 then -2 else -1)) ∨ ((rdy σ ∧ 0 ≤ n ∧ n ≤ 8 ∧ -1 ≤ part) ∧ ∃ x y : Nat, BQ σ x y (mN σ) ∧ z = tellZ ((x : Int) * ((mA σ ^ n.toNat : Nat) : Int) * (mB σ : Int)) ((y : Int) * ((mB σ ^ n.toNat : Nat) : Int) * ((mB σ : Int) - (mA σ : Int))) part))) (fun q => r0 ≤ q ∧ q ≤ r0 + 13) (0) (0) := by
  refine pw_of (cc := cX10_bound) (maxL := 10) (ret := (some .long)) (by decide +kernel) rfl (Nat.le_of_ble_eq_true rfl) ?_
  intro p e s m args below meth c hx hb hr hml hts hown hlocks hini hK ⟨th, so, co, bst, ch, nx, vs0, ow, tg, gU, gD, gW, hO, hC, hU, hDn, hW, hBs, hCh, hNx, hB, hP, hOw, hTg, hRI⟩ ls hl
  have hown : s.vm.findClass RX10 = some m.cls := hown
  have hl : lv_has ls 10 [(0, .ref (r0)), (1, .int (iI (n))), (2, .int (iI (part)))] := hl
  have hS : va_S (fun q => r0 ≤ q ∧ q ≤ r0 + 13) s.heap s.heap [] := va_S.rf
  have lk_7 := hts (.fieldLink RX10 7 "PolicyWorksModel" "actionCounts" "[I") (by decide +kernel)
  have lk_13 := hts (.fieldLink RX10 13 "PolicyWorksModel" "ups" "[I") (by decide +kernel)
  have lk_16 := hts (.fieldLink RX10 16 "PolicyWorksModel" "downs" "[I") (by decide +kernel)
  have lk_22 := hts (.fieldLink RX10 22 "PolicyWorksModel" "discountUp" "I") (by decide +kernel)
  have lk_26 := hts (.fieldLink RX10 26 "PolicyWorksModel" "discountDown" "I") (by decide +kernel)
  have lk_56 := hts (.fieldLink RX10 56 "PolicyWorksModel" "thrown" "I") (by decide +kernel)
  have lk_103 := hts (.fieldLink RX10 103 "PolicyWorksModel" "states" "I") (by decide +kernel)
  have kc_202 := hts (.constantLong RX10 202 (8)) (by decide +kernel)
  have hin10 : ∀ w ∈ wsX100, w ∈ wsX10_bound := by decide +kernel
  have hok := hRI.1
  have hm := hRI.2.1
  have hN6 := hok.1
  have hC4 := hok.2.1
  have hso := hRI.2.2.2
  have hrs : (so = 0 ∧ rn = 0) ∨ (so = 1 ∧ 0 < rn) := hso.elim (fun h => Or.inl ⟨h.2, h.1⟩) (fun h => Or.inr ⟨h.2.1, h.1⟩)
  obtain ⟨f, g, h, ⟨hf, hg, hh⟩, hN⟩ := hB
  have b16 : 268435456 ^ 14 < 268435456 ^ 16 ∧ 268435456 ^ 16 * 8000000000 < 268435456 ^ 62 := by decide +kernel
  have hAB := hok.2.2.2.1
  have hB20 := hok.2.2.2.2.1
  have p62 : 100000000000000000000 < 268435456 ^ 62 ∧ 100000000000000000000 < 268435456 ^ 64 := by decide +kernel
  have loopK : rdy σ → 0 ≤ n ∧ n ≤ 8 → ∀ (x y : Nat), BQ σ x y (mN σ) → x ≤ 1000 → y ≤ 20 → ∀ (kk k : Nat) (vs f g h : Nat → Int) (H : Heap) (locs : List Loc) (ls : Array Slot), k + kk = n.toNat → vs (53) = (x : Int) * ((mA σ ^ k : Nat) : Int) → vs (54) = (y : Int) * ((mB σ ^ k : Nat) : Int) → (∀ q, 68 ≤ q → vs (q) = vs0 q) → OA D r0 10 [.int (iI (0)), .int (iI ((mN σ : Int))), .ref (r0 + 1), .ref (r0 + 2), .ref (r0 + 3), .ref (r0 + 4), .int (iI ((mA σ : Int))), .int (iI ((mB σ : Int))), .int (iI (so)), .int (iI (rn)), .ref (r0 + 5), .ref (r0 + 6), .ref (r0 + 7), .ref (r0 + 8), .ref (r0 + 9), .ref (r0 + 10), .ref (r0 + 11), .ref (r0 + 12), .ref (r0 + 13), .int (iI (co))] H → IA E (r0 + 1) 6 (fun s => (mC σ s : Int)) H → IA E (r0 + 2) 24 gU H → IA E (r0 + 3) 24 gD H → IA E (r0 + 4) 144 gW H → IA E (r0 + 5) 6 bst H → IA E (r0 + 6) 6 ch H → IA E (r0 + 7) 6 nx H → IA E (r0 + 8) 5120 f H → IA E (r0 + 9) 80 g H → IA E (r0 + 10) 80 h H → (∀ c, c < 80 → Num f g h c (vs c)) → IA E (r0 + 11) 30 prm H → IA E (r0 + 12) 30 ow H → IA E (r0 + 13) 30 tg H → va_S (fun q => r0 ≤ q ∧ q ≤ r0 + 13) s.heap H locs → lv_has ls 10 [(0, .ref (r0)), (1, .int (iI (n))), (2, .int (iI (part))), (5, .int (iI ((k : Int))))] → W p l e ({ frames := 4, cells := 0, slots := 0, locals := 107 } : Room) s m args below meth c H locs (0) (0) (MQ below (pw_Q rvL (fun z H => RPO D E r0 σ rn H ∧ ((¬ (rdy σ ∧ 0 ≤ n ∧ n ≤ 8 ∧ -1 ≤ part) ∧ z = (if part = -1 then -2 else -1)) ∨ ((rdy σ ∧ 0 ≤ n ∧ n ≤ 8 ∧ -1 ≤ part) ∧ ∃ x y : Nat, BQ σ x y (mN σ) ∧ z = tellZ ((x : Int) * ((mA σ ^ n.toNat : Nat) : Int) * (mB σ : Int)) ((y : Int) * ((mB σ ^ n.toNat : Nat) : Int) * ((mB σ : Int) - (mA σ : Int))) part))) (fun q => r0 ≤ q ∧ q ≤ r0 + 13)) args s (0) (0) (fun q => r0 ≤ q ∧ q ≤ r0 + 13)) (F0 m 264 ls []) := by
    intro hrd hn8 x y hBQ hx1 hy1
    have hBA : 0 < (mB σ : Int) - (mA σ : Int) := by omega
    have hba : ((mB σ : Int) - (mA σ : Int)).natAbs ≤ 20 := by omega
    have hpb : ∀ k, 0 < mB σ ^ k := fun k => Nat.pow_pos (by omega)
    have tb : ∀ k, k ≤ 8 → ((x : Int) * ((mA σ ^ k : Nat) : Int)).natAbs ≤ 1000 * 25600000000 := fun k hk => mulb (by omega) (by rw [Int.natAbs_natCast]; exact pw20 (by omega) hk)
    have ub : ∀ k, k ≤ 8 → ((y : Int) * ((mB σ ^ k : Nat) : Int)).natAbs ≤ 20 * 25600000000 := fun k hk => mulb (by omega) (by rw [Int.natAbs_natCast]; exact pw20 (by omega) hk)
    intro kk
    induction kk with
    | zero =>
      intro k vs f g h H locs ls hk h53 h54 hv8 hO hC hU hDn hW hBs hCh hNx hf hg hh hN hP hOw hTg hS hl
      have ek : k = n.toNat := by omega
      subst ek
      have t1 := tb n.toNat (by omega)
      have u1 := ub n.toNat (by omega)
      have t2 : ((x : Int) * ((mA σ ^ n.toNat : Nat) : Int) * (mB σ : Int)).natAbs ≤ 1000 * 25600000000 * 20 := mulb t1 (by omega)
      have u2 : ((y : Int) * ((mB σ ^ n.toNat : Nat) : Int) * ((mB σ : Int) - (mA σ : Int))).natAbs ≤ 20 * 25600000000 * 20 := mulb u1 hba
      have u0 : 0 < (y : Int) * ((mB σ ^ n.toNat : Nat) : Int) * ((mB σ : Int) - (mA σ : Int)) := Int.mul_pos (Int.mul_pos (by have := hBQ.1; omega) (by have := hpb n.toNat; omega)) hBA
      refine lv_iload hx hb dX10_bound_264 (lv_at hl 3 rfl) ?_
      refine lv_iload_n hx hb dX10_bound_266 rfl (lv_at hl 1 rfl) ?_
      refine pw_icmp_ge (tgt := 296) hx hb dX10_bound_267 (by decide) (fun c_267 => ?_) (fun c_267 => absurd c_267 (by omega))
      refine lv_aload_n hx hb dX10_bound_296 rfl (lv_at hl 0 rfl) ?_
      refine pw_bipush hx hb dX10_bound_297 ?_
      refine lv_aload_n hx hb dX10_bound_299 rfl (lv_at hl 0 rfl) ?_
      refine pw_get (C := RX10) (T := TX10) (N := 20) hx hb hts hin10 hown hK hO rfl 7 (by decide) lk_26 rfl rfl dX10_bound_300 ?_
      refine pw_callVv (As := [.int (iI (53)), .int (iI ((mB σ : Int)))]) (rest := []) ⟨hx, hb, hml, hown, hts⟩ (r_times l D E r0 (oV 0 σ so rn co) f g h 53 ((x : Int) * ((mA σ ^ n.toNat : Nat) : Int)) (mB σ : Int) (by omega) (by omega) (by omega) (num_at (hN (53) (by omega)) h53) (by omega)) (cwV 2 hts gX10_bound_X10_times rfl rfl rfl (by decide +kernel) ⟨Nat.le_of_ble_eq_true rfl, Nat.le_of_ble_eq_true rfl⟩) hK hO rfl ⟨hO, hf, hg, hh⟩ rfl hl.1 rfl (Nat.le_of_ble_eq_true rfl) dX10_bound_303 ⟨Nat.zero_le _, Nat.zero_le _⟩ hS (fun q h => by (try dsimp only at h); (try dsimp only); omega) (fun H1 locs1 ⟨f, g, h, ⟨hf, hg, hh⟩, hn1, ho1⟩ hz1 hk1 hS => ?_)
      have hO := hO.k (hk1 _ hO.lt (by (try dsimp only); omega))
      have hC := hC.k (hk1 _ hC.lt (by (try dsimp only); omega))
      have hU := hU.k (hk1 _ hU.lt (by (try dsimp only); omega))
      have hDn := hDn.k (hk1 _ hDn.lt (by (try dsimp only); omega))
      have hW := hW.k (hk1 _ hW.lt (by (try dsimp only); omega))
      have hBs := hBs.k (hk1 _ hBs.lt (by (try dsimp only); omega))
      have hCh := hCh.k (hk1 _ hCh.lt (by (try dsimp only); omega))
      have hNx := hNx.k (hk1 _ hNx.lt (by (try dsimp only); omega))
      have hP := hP.k (hk1 _ hP.lt (by (try dsimp only); omega))
      have hOw := hOw.k (hk1 _ hOw.lt (by (try dsimp only); omega))
      have hTg := hTg.k (hk1 _ hTg.lt (by (try dsimp only); omega))
      obtain ⟨vs, hva0, hvo, hN⟩ := bn_np hN hn1 ho1
      clear hn1 ho1
      have h54 : vs (54) = (y : Int) * ((mB σ ^ n.toNat : Nat) : Int) := (hvo _ (by omega)).trans h54
      have hv8 : ∀ q, 68 ≤ q → vs (q) = vs0 q := fun q hq => (hvo _ (by omega)).trans (hv8 q hq)
      have h53 : vs (53) = (x : Int) * ((mA σ ^ n.toNat : Nat) : Int) * (mB σ : Int) := hva0
      clear hva0 hvo
      refine lv_aload_n hx hb dX10_bound_306 rfl (lv_at hl 0 rfl) ?_
      refine pw_bipush hx hb dX10_bound_307 ?_
      refine lv_aload_n hx hb dX10_bound_309 rfl (lv_at hl 0 rfl) ?_
      refine pw_get (C := RX10) (T := TX10) (N := 20) hx hb hts hin10 hown hK hO rfl 7 (by decide) lk_26 rfl rfl dX10_bound_310 ?_
      refine lv_aload_n hx hb dX10_bound_313 rfl (lv_at hl 0 rfl) ?_
      refine pw_get (C := RX10) (T := TX10) (N := 20) hx hb hts hin10 hown hK hO rfl 6 (by decide) lk_22 rfl rfl dX10_bound_314 ?_
      refine pw_isub hx hb dX10_bound_317 ?_
      refine pw_callVv (As := [.int (iI (54)), .int (iI (((mB σ : Int)) - ((mA σ : Int))))]) (rest := []) ⟨hx, hb, hml, hown, hts⟩ (r_times l D E r0 (oV 0 σ so rn co) f g h 54 ((y : Int) * ((mB σ ^ n.toNat : Nat) : Int)) ((mB σ : Int) - (mA σ : Int)) (by omega) (by omega) (by omega) (num_at (hN (54) (by omega)) h54) (by omega)) (cwV 2 hts gX10_bound_X10_times rfl rfl rfl (by decide +kernel) ⟨Nat.le_of_ble_eq_true rfl, Nat.le_of_ble_eq_true rfl⟩) hK hO rfl ⟨hO, hf, hg, hh⟩ rfl hl.1 rfl (Nat.le_of_ble_eq_true rfl) dX10_bound_318 ⟨Nat.zero_le _, Nat.zero_le _⟩ hS (fun q h => by (try dsimp only at h); (try dsimp only); omega) (fun H1 locs1 ⟨f, g, h, ⟨hf, hg, hh⟩, hn1, ho1⟩ hz1 hk1 hS => ?_)
      have hO := hO.k (hk1 _ hO.lt (by (try dsimp only); omega))
      have hC := hC.k (hk1 _ hC.lt (by (try dsimp only); omega))
      have hU := hU.k (hk1 _ hU.lt (by (try dsimp only); omega))
      have hDn := hDn.k (hk1 _ hDn.lt (by (try dsimp only); omega))
      have hW := hW.k (hk1 _ hW.lt (by (try dsimp only); omega))
      have hBs := hBs.k (hk1 _ hBs.lt (by (try dsimp only); omega))
      have hCh := hCh.k (hk1 _ hCh.lt (by (try dsimp only); omega))
      have hNx := hNx.k (hk1 _ hNx.lt (by (try dsimp only); omega))
      have hP := hP.k (hk1 _ hP.lt (by (try dsimp only); omega))
      have hOw := hOw.k (hk1 _ hOw.lt (by (try dsimp only); omega))
      have hTg := hTg.k (hk1 _ hTg.lt (by (try dsimp only); omega))
      obtain ⟨vs, hva0, hvo, hN⟩ := bn_np hN hn1 ho1
      clear hn1 ho1
      have h53 : vs (53) = (x : Int) * ((mA σ ^ n.toNat : Nat) : Int) * (mB σ : Int) := (hvo _ (by omega)).trans h53
      have hv8 : ∀ q, 68 ≤ q → vs (q) = vs0 q := fun q hq => (hvo _ (by omega)).trans (hv8 q hq)
      have h54 : vs (54) = (y : Int) * ((mB σ ^ n.toNat : Nat) : Int) * ((mB σ : Int) - (mA σ : Int)) := hva0
      clear hva0 hvo
      refine lv_aload_n hx hb dX10_bound_321 rfl (lv_at hl 0 rfl) ?_
      refine lv_iload_n hx hb dX10_bound_322 rfl (lv_at hl 2 rfl) ?_
      refine pw_callVl (As := [.int (iI (part))]) (rest := []) ⟨hx, hb, hml, hown, hts⟩ (r_tell l D E r0 (oV 0 σ so rn co) vs part part1 part2 (by rw [h54]; exact u0) (by rw [h53]; omega) (by rw [h54]; omega)) (cwV 1 hts gX10_bound_X10_tell rfl rfl rfl (by decide +kernel) ⟨Nat.le_of_ble_eq_true rfl, Nat.le_of_ble_eq_true rfl⟩) hK hO rfl ⟨hO, f, g, h, ⟨hf, hg, hh⟩, hN⟩ rfl hl.1 rfl (Nat.le_of_ble_eq_true rfl) dX10_bound_323 ⟨Nat.zero_le _, Nat.zero_le _⟩ hS (fun q h => by (try dsimp only at h); (try dsimp only); omega) (fun zt H1 locs1 ⟨hzt, vst, ⟨f, g, h, ⟨hf, hg, hh⟩, hN⟩, hvt⟩ hz1 hk1 hS => ?_)
      have hO := hO.k (hk1 _ hO.lt (by (try dsimp only); omega))
      have hC := hC.k (hk1 _ hC.lt (by (try dsimp only); omega))
      have hU := hU.k (hk1 _ hU.lt (by (try dsimp only); omega))
      have hDn := hDn.k (hk1 _ hDn.lt (by (try dsimp only); omega))
      have hW := hW.k (hk1 _ hW.lt (by (try dsimp only); omega))
      have hBs := hBs.k (hk1 _ hBs.lt (by (try dsimp only); omega))
      have hCh := hCh.k (hk1 _ hCh.lt (by (try dsimp only); omega))
      have hNx := hNx.k (hk1 _ hNx.lt (by (try dsimp only); omega))
      have hP := hP.k (hk1 _ hP.lt (by (try dsimp only); omega))
      have hOw := hOw.k (hk1 _ hOw.lt (by (try dsimp only); omega))
      have hTg := hTg.k (hk1 _ hTg.lt (by (try dsimp only); omega))
      have hR2 : RI σ rn so bst vst gU gD gW := hRI.vs (fun q hq => (hvt q (by omega)).trans (hv8 q (by omega)))
      by_cases hp : part < -1
      · exact pw_lret hx hb hr hlocks hS ⟨⟨_, _, _, _, _, _, _, _, _, _, _, _, hO, hC, hU, hDn, hW, hBs, hCh, hNx, ⟨f, g, h, ⟨hf, hg, hh⟩, hN⟩, hP, hOw, hTg, hR2⟩, Or.inl ⟨fun h => by omega, by rw [hzt, if_pos hp, if_neg (by omega)]⟩⟩ dX10_bound_326
      · exact pw_lret hx hb hr hlocks hS ⟨⟨_, _, _, _, _, _, _, _, _, _, _, _, hO, hC, hU, hDn, hW, hBs, hCh, hNx, ⟨f, g, h, ⟨hf, hg, hh⟩, hN⟩, hP, hOw, hTg, hR2⟩, Or.inr ⟨⟨hrd, hn8.1, hn8.2, by omega⟩, x, y, hBQ, by rw [hzt, if_neg hp, h53, h54]⟩⟩ dX10_bound_326
    | succ kk ih =>
      intro k vs f g h H locs ls hk h53 h54 hv8 hO hC hU hDn hW hBs hCh hNx hf hg hh hN hP hOw hTg hS hl
      have t1 := tb (k + 1) (by omega)
      have u1 := ub (k + 1) (by omega)
      have et : (x : Int) * ((mA σ ^ k : Nat) : Int) * (mA σ : Int) = (x : Int) * ((mA σ ^ (k + 1) : Nat) : Int) := by rw [Int.mul_assoc, ← Int.natCast_mul, ← Nat.pow_succ]
      have eu : (y : Int) * ((mB σ ^ k : Nat) : Int) * (mB σ : Int) = (y : Int) * ((mB σ ^ (k + 1) : Nat) : Int) := by rw [Int.mul_assoc, ← Int.natCast_mul, ← Nat.pow_succ]
      refine lv_iload hx hb dX10_bound_264 (lv_at hl 3 rfl) ?_
      refine lv_iload_n hx hb dX10_bound_266 rfl (lv_at hl 1 rfl) ?_
      refine pw_icmp_ge (tgt := 296) hx hb dX10_bound_267 (by decide) (fun c_267 => absurd c_267 (by omega)) (fun c_267 => ?_)
      refine lv_aload_n hx hb dX10_bound_270 rfl (lv_at hl 0 rfl) ?_
      refine pw_bipush hx hb dX10_bound_271 ?_
      refine lv_aload_n hx hb dX10_bound_273 rfl (lv_at hl 0 rfl) ?_
      refine pw_get (C := RX10) (T := TX10) (N := 20) hx hb hts hin10 hown hK hO rfl 6 (by decide) lk_22 rfl rfl dX10_bound_274 ?_
      refine pw_callVv (As := [.int (iI (53)), .int (iI ((mA σ : Int)))]) (rest := []) ⟨hx, hb, hml, hown, hts⟩ (r_times l D E r0 (oV 0 σ so rn co) f g h 53 ((x : Int) * ((mA σ ^ k : Nat) : Int)) (mA σ : Int) (by omega) (by omega) (by omega) (num_at (hN (53) (by omega)) h53) (by rw [et]; omega)) (cwV 2 hts gX10_bound_X10_times rfl rfl rfl (by decide +kernel) ⟨Nat.le_of_ble_eq_true rfl, Nat.le_of_ble_eq_true rfl⟩) hK hO rfl ⟨hO, hf, hg, hh⟩ rfl hl.1 rfl (Nat.le_of_ble_eq_true rfl) dX10_bound_277 ⟨Nat.zero_le _, Nat.zero_le _⟩ hS (fun q h => by (try dsimp only at h); (try dsimp only); omega) (fun H1 locs1 ⟨f, g, h, ⟨hf, hg, hh⟩, hn1, ho1⟩ hz1 hk1 hS => ?_)
      have hO := hO.k (hk1 _ hO.lt (by (try dsimp only); omega))
      have hC := hC.k (hk1 _ hC.lt (by (try dsimp only); omega))
      have hU := hU.k (hk1 _ hU.lt (by (try dsimp only); omega))
      have hDn := hDn.k (hk1 _ hDn.lt (by (try dsimp only); omega))
      have hW := hW.k (hk1 _ hW.lt (by (try dsimp only); omega))
      have hBs := hBs.k (hk1 _ hBs.lt (by (try dsimp only); omega))
      have hCh := hCh.k (hk1 _ hCh.lt (by (try dsimp only); omega))
      have hNx := hNx.k (hk1 _ hNx.lt (by (try dsimp only); omega))
      have hP := hP.k (hk1 _ hP.lt (by (try dsimp only); omega))
      have hOw := hOw.k (hk1 _ hOw.lt (by (try dsimp only); omega))
      have hTg := hTg.k (hk1 _ hTg.lt (by (try dsimp only); omega))
      obtain ⟨vs, hva0, hvo, hN⟩ := bn_np hN hn1 ho1
      clear hn1 ho1
      have h54 : vs (54) = (y : Int) * ((mB σ ^ k : Nat) : Int) := (hvo _ (by omega)).trans h54
      have hv8 : ∀ q, 68 ≤ q → vs (q) = vs0 q := fun q hq => (hvo _ (by omega)).trans (hv8 q hq)
      have h53 : vs (53) = (x : Int) * ((mA σ ^ (k + 1) : Nat) : Int) := (hva0.trans et)
      clear hva0 hvo
      refine lv_aload_n hx hb dX10_bound_280 rfl (lv_at hl 0 rfl) ?_
      refine pw_bipush hx hb dX10_bound_281 ?_
      refine lv_aload_n hx hb dX10_bound_283 rfl (lv_at hl 0 rfl) ?_
      refine pw_get (C := RX10) (T := TX10) (N := 20) hx hb hts hin10 hown hK hO rfl 7 (by decide) lk_26 rfl rfl dX10_bound_284 ?_
      refine pw_callVv (As := [.int (iI (54)), .int (iI ((mB σ : Int)))]) (rest := []) ⟨hx, hb, hml, hown, hts⟩ (r_times l D E r0 (oV 0 σ so rn co) f g h 54 ((y : Int) * ((mB σ ^ k : Nat) : Int)) (mB σ : Int) (by omega) (by omega) (by omega) (num_at (hN (54) (by omega)) h54) (by rw [eu]; omega)) (cwV 2 hts gX10_bound_X10_times rfl rfl rfl (by decide +kernel) ⟨Nat.le_of_ble_eq_true rfl, Nat.le_of_ble_eq_true rfl⟩) hK hO rfl ⟨hO, hf, hg, hh⟩ rfl hl.1 rfl (Nat.le_of_ble_eq_true rfl) dX10_bound_287 ⟨Nat.zero_le _, Nat.zero_le _⟩ hS (fun q h => by (try dsimp only at h); (try dsimp only); omega) (fun H1 locs1 ⟨f, g, h, ⟨hf, hg, hh⟩, hn1, ho1⟩ hz1 hk1 hS => ?_)
      have hO := hO.k (hk1 _ hO.lt (by (try dsimp only); omega))
      have hC := hC.k (hk1 _ hC.lt (by (try dsimp only); omega))
      have hU := hU.k (hk1 _ hU.lt (by (try dsimp only); omega))
      have hDn := hDn.k (hk1 _ hDn.lt (by (try dsimp only); omega))
      have hW := hW.k (hk1 _ hW.lt (by (try dsimp only); omega))
      have hBs := hBs.k (hk1 _ hBs.lt (by (try dsimp only); omega))
      have hCh := hCh.k (hk1 _ hCh.lt (by (try dsimp only); omega))
      have hNx := hNx.k (hk1 _ hNx.lt (by (try dsimp only); omega))
      have hP := hP.k (hk1 _ hP.lt (by (try dsimp only); omega))
      have hOw := hOw.k (hk1 _ hOw.lt (by (try dsimp only); omega))
      have hTg := hTg.k (hk1 _ hTg.lt (by (try dsimp only); omega))
      obtain ⟨vs, hva0, hvo, hN⟩ := bn_np hN hn1 ho1
      clear hn1 ho1
      have h53 : vs (53) = (x : Int) * ((mA σ ^ (k + 1) : Nat) : Int) := (hvo _ (by omega)).trans h53
      have hv8 : ∀ q, 68 ≤ q → vs (q) = vs0 q := fun q hq => (hvo _ (by omega)).trans (hv8 q hq)
      have h54 : vs (54) = (y : Int) * ((mB σ ^ (k + 1) : Nat) : Int) := (hva0.trans eu)
      clear hva0 hvo
      refine lv_iinc (v := iI (((k + 1 : Nat) : Int))) (lv' := [(5, .int (iI (((k + 1 : Nat) : Int)))), (0, .ref (r0)), (1, .int (iI (n))), (2, .int (iI (part)))]) hx hb dX10_bound_290 hl (k := 3) rfl (by show iI _ + iI _ = _; exact (iI_add _ _).trans (by first | rfl | (congr 1; omega))) (by decide) rfl (fun ls hl => ?_)
      refine lv_goto (tgt := 264) hx hb dX10_bound_293 (by decide) ?_
      exact ih (k + 1) vs f g h _ _ _ (by omega) h53 h54 hv8 hO hC hU hDn hW hBs hCh hNx hf hg hh hN hP hOw hTg hS (lv_sub hl [1, 2, 3, 0] rfl)
  have loopS : rdy σ → 0 ≤ n ∧ n ≤ 8 → ∀ (mm q x y : Nat) (f g h : Nat → Int) (H : Heap) (locs : List Loc) (ls : Array Slot), q + mm = mN σ → BQ σ x y q → x ≤ 1000 → y ≤ 20 → OA D r0 10 [.int (iI (0)), .int (iI ((mN σ : Int))), .ref (r0 + 1), .ref (r0 + 2), .ref (r0 + 3), .ref (r0 + 4), .int (iI ((mA σ : Int))), .int (iI ((mB σ : Int))), .int (iI (so)), .int (iI (rn)), .ref (r0 + 5), .ref (r0 + 6), .ref (r0 + 7), .ref (r0 + 8), .ref (r0 + 9), .ref (r0 + 10), .ref (r0 + 11), .ref (r0 + 12), .ref (r0 + 13), .int (iI (co))] H → IA E (r0 + 1) 6 (fun s => (mC σ s : Int)) H → IA E (r0 + 2) 24 gU H → IA E (r0 + 3) 24 gD H → IA E (r0 + 4) 144 gW H → IA E (r0 + 5) 6 bst H → IA E (r0 + 6) 6 ch H → IA E (r0 + 7) 6 nx H → IA E (r0 + 8) 5120 f H → IA E (r0 + 9) 80 g H → IA E (r0 + 10) 80 h H → (∀ c, c < 80 → Num f g h c (vs0 c)) → IA E (r0 + 11) 30 prm H → IA E (r0 + 12) 30 ow H → IA E (r0 + 13) 30 tg H → va_S (fun q => r0 ≤ q ∧ q ≤ r0 + 13) s.heap H locs → lv_has ls 10 [(0, .ref (r0)), (1, .int (iI (n))), (2, .int (iI (part))), (3, .int (iI ((x : Int)))), (4, .int (iI ((y : Int)))), (5, .int (iI ((q : Int))))] → W p l e ({ frames := 4, cells := 0, slots := 0, locals := 107 } : Room) s m args below meth c H locs (0) (0) (MQ below (pw_Q rvL (fun z H => RPO D E r0 σ rn H ∧ ((¬ (rdy σ ∧ 0 ≤ n ∧ n ≤ 8 ∧ -1 ≤ part) ∧ z = (if part = -1 then -2 else -1)) ∨ ((rdy σ ∧ 0 ≤ n ∧ n ≤ 8 ∧ -1 ≤ part) ∧ ∃ x y : Nat, BQ σ x y (mN σ) ∧ z = tellZ ((x : Int) * ((mA σ ^ n.toNat : Nat) : Int) * (mB σ : Int)) ((y : Int) * ((mB σ ^ n.toNat : Nat) : Int) * ((mB σ : Int) - (mA σ : Int))) part))) (fun q => r0 ≤ q ∧ q ≤ r0 + 13)) args s (0) (0) (fun q => r0 ≤ q ∧ q ≤ r0 + 13)) (F0 m 38 ls []) := by
    intro hrd hn8 mm
    induction mm with
    | zero =>
      intro q x y f g h H locs ls hq hBQ hx1 hy1 hO hC hU hDn hW hBs hCh hNx hf hg hh hN hP hOw hTg hS hl
      have eq : q = mN σ := by omega
      subst eq
      have hv8 : ∀ q, 68 ≤ q → vs0 (q) = vs0 q := fun _ _ => rfl
      refine lv_iload hx hb dX10_bound_38 (lv_at hl 5 rfl) ?_
      refine lv_aload_n hx hb dX10_bound_40 rfl (lv_at hl 0 rfl) ?_
      refine pw_get (C := RX10) (T := TX10) (N := 20) hx hb hts hin10 hown hK hO rfl 1 (by decide) lk_103 rfl rfl dX10_bound_41 ?_
      refine pw_icmp_ge (tgt := 244) hx hb dX10_bound_44 (by decide) (fun c_44 => ?_) (fun c_44 => absurd c_44 (by omega))
      refine lv_aload_n hx hb dX10_bound_244 rfl (lv_at hl 0 rfl) ?_
      refine pw_bipush hx hb dX10_bound_245 ?_
      refine lv_iload_n hx hb dX10_bound_247 rfl (lv_at hl 3 rfl) ?_
      refine pw_i2l hx hb dX10_bound_248 ?_
      refine pw_callVv (As := [.int (iI (53)), .long (lI ((x : Int)))]) (rest := []) ⟨hx, hb, hml, hown, hts⟩ (r_setSmall l D E r0 (oV 0 σ so rn co) f g h 53 (x : Int) (by omega) (by omega) (by omega)) (cwV 2 hts gX10_bound_X10_setSmall rfl rfl rfl (by decide +kernel) ⟨Nat.le_of_ble_eq_true rfl, Nat.le_of_ble_eq_true rfl⟩) hK hO rfl ⟨hO, hf, hg, hh⟩ rfl hl.1 rfl (Nat.le_of_ble_eq_true rfl) dX10_bound_249 ⟨Nat.zero_le _, Nat.zero_le _⟩ hS (fun q h => by (try dsimp only at h); (try dsimp only); omega) (fun H1 locs1 ⟨f, g, h, ⟨hf, hg, hh⟩, hn1, ho1⟩ hz1 hk1 hS => ?_)
      have hO := hO.k (hk1 _ hO.lt (by (try dsimp only); omega))
      have hC := hC.k (hk1 _ hC.lt (by (try dsimp only); omega))
      have hU := hU.k (hk1 _ hU.lt (by (try dsimp only); omega))
      have hDn := hDn.k (hk1 _ hDn.lt (by (try dsimp only); omega))
      have hW := hW.k (hk1 _ hW.lt (by (try dsimp only); omega))
      have hBs := hBs.k (hk1 _ hBs.lt (by (try dsimp only); omega))
      have hCh := hCh.k (hk1 _ hCh.lt (by (try dsimp only); omega))
      have hNx := hNx.k (hk1 _ hNx.lt (by (try dsimp only); omega))
      have hP := hP.k (hk1 _ hP.lt (by (try dsimp only); omega))
      have hOw := hOw.k (hk1 _ hOw.lt (by (try dsimp only); omega))
      have hTg := hTg.k (hk1 _ hTg.lt (by (try dsimp only); omega))
      obtain ⟨vs, hva0, hvo, hN⟩ := bn_np hN hn1 ho1
      clear hn1 ho1
      have hv8 : ∀ q, 68 ≤ q → vs (q) = vs0 q := fun q hq => (hvo _ (by omega)).trans (hv8 q hq)
      have h53 : vs (53) = (x : Int) := hva0
      clear hva0 hvo
      refine lv_aload_n hx hb dX10_bound_252 rfl (lv_at hl 0 rfl) ?_
      refine pw_bipush hx hb dX10_bound_253 ?_
      refine lv_iload hx hb dX10_bound_255 (lv_at hl 4 rfl) ?_
      refine pw_i2l hx hb dX10_bound_257 ?_
      refine pw_callVv (As := [.int (iI (54)), .long (lI ((y : Int)))]) (rest := []) ⟨hx, hb, hml, hown, hts⟩ (r_setSmall l D E r0 (oV 0 σ so rn co) f g h 54 (y : Int) (by omega) (by omega) (by omega)) (cwV 2 hts gX10_bound_X10_setSmall rfl rfl rfl (by decide +kernel) ⟨Nat.le_of_ble_eq_true rfl, Nat.le_of_ble_eq_true rfl⟩) hK hO rfl ⟨hO, hf, hg, hh⟩ rfl hl.1 rfl (Nat.le_of_ble_eq_true rfl) dX10_bound_258 ⟨Nat.zero_le _, Nat.zero_le _⟩ hS (fun q h => by (try dsimp only at h); (try dsimp only); omega) (fun H1 locs1 ⟨f, g, h, ⟨hf, hg, hh⟩, hn1, ho1⟩ hz1 hk1 hS => ?_)
      have hO := hO.k (hk1 _ hO.lt (by (try dsimp only); omega))
      have hC := hC.k (hk1 _ hC.lt (by (try dsimp only); omega))
      have hU := hU.k (hk1 _ hU.lt (by (try dsimp only); omega))
      have hDn := hDn.k (hk1 _ hDn.lt (by (try dsimp only); omega))
      have hW := hW.k (hk1 _ hW.lt (by (try dsimp only); omega))
      have hBs := hBs.k (hk1 _ hBs.lt (by (try dsimp only); omega))
      have hCh := hCh.k (hk1 _ hCh.lt (by (try dsimp only); omega))
      have hNx := hNx.k (hk1 _ hNx.lt (by (try dsimp only); omega))
      have hP := hP.k (hk1 _ hP.lt (by (try dsimp only); omega))
      have hOw := hOw.k (hk1 _ hOw.lt (by (try dsimp only); omega))
      have hTg := hTg.k (hk1 _ hTg.lt (by (try dsimp only); omega))
      obtain ⟨vs, hva0, hvo, hN⟩ := bn_np hN hn1 ho1
      clear hn1 ho1
      have hv8 : ∀ q, 68 ≤ q → vs (q) = vs0 q := fun q hq => (hvo _ (by omega)).trans (hv8 q hq)
      have h53 : vs (53) = (x : Int) := (hvo _ (by omega)).trans h53
      have h54 : vs (54) = (y : Int) := hva0
      clear hva0 hvo
      refine pw_iconst hx hb dX10_bound_261 ?_
      refine pw_asi (((0 : Nat) : Int)) rfl ?_
      refine lv_istore (lv' := [(5, .int (iI (((0 : Nat) : Int)))), (0, .ref (r0)), (1, .int (iI (n))), (2, .int (iI (part))), (3, .int (iI ((x : Int)))), (4, .int (iI ((y : Int))))]) hx hb dX10_bound_262 hl (by decide) rfl (fun ls hl => ?_)
      exact loopK hrd hn8 x y hBQ hx1 hy1 n.toNat 0 vs f g h _ _ _ (by omega) (by rw [h53]; exact (Int.mul_one _).symm) (by rw [h54]; exact (Int.mul_one _).symm) hv8 hO hC hU hDn hW hBs hCh hNx hf hg hh hN hP hOw hTg hS (lv_sub hl [1, 2, 3, 0] rfl)
    | succ mm ih =>
      intro q x y f g h H locs ls hq hBQ hx1 hy1
      have hc0 := (hrd.2 q (by omega)).1
      have hc4 := hC4 q (by omega)
      have hgl : ∀ a, a ≤ mC σ q → (gpick σ q 0 (fun _ => 0) 1 a) < mC σ q := fun a ha => gpick_lt hc0 a ha
      have loopA : ∀ (ii a : Nat) (f g h : Nat → Int) (H : Heap) (locs : List Loc) (ls : Array Slot), a + ii = mC σ q → 0 < a → OA D r0 10 [.int (iI (0)), .int (iI ((mN σ : Int))), .ref (r0 + 1), .ref (r0 + 2), .ref (r0 + 3), .ref (r0 + 4), .int (iI ((mA σ : Int))), .int (iI ((mB σ : Int))), .int (iI (so)), .int (iI (rn)), .ref (r0 + 5), .ref (r0 + 6), .ref (r0 + 7), .ref (r0 + 8), .ref (r0 + 9), .ref (r0 + 10), .ref (r0 + 11), .ref (r0 + 12), .ref (r0 + 13), .int (iI (co))] H → IA E (r0 + 1) 6 (fun s => (mC σ s : Int)) H → IA E (r0 + 2) 24 gU H → IA E (r0 + 3) 24 gD H → IA E (r0 + 4) 144 gW H → IA E (r0 + 5) 6 bst H → IA E (r0 + 6) 6 ch H → IA E (r0 + 7) 6 nx H → IA E (r0 + 8) 5120 f H → IA E (r0 + 9) 80 g H → IA E (r0 + 10) 80 h H → (∀ c, c < 80 → Num f g h c (vs0 c)) → IA E (r0 + 11) 30 prm H → IA E (r0 + 12) 30 ow H → IA E (r0 + 13) 30 tg H → va_S (fun q => r0 ≤ q ∧ q ≤ r0 + 13) s.heap H locs → lv_has ls 10 [(0, .ref (r0)), (1, .int (iI (n))), (2, .int (iI (part))), (3, .int (iI ((x : Int)))), (4, .int (iI ((y : Int)))), (5, .int (iI ((q : Int)))), (6, .int (iI (mU σ (4 * q + (gpick σ q 0 (fun _ => 0) 1 a))))), (7, .int (iI ((mD σ (4 * q + (gpick σ q 0 (fun _ => 0) 1 a)) : Int)))), (8, .int (iI ((a : Int))))] → W p l e ({ frames := 4, cells := 0, slots := 0, locals := 107 } : Room) s m args below meth c H locs (0) (0) (MQ below (pw_Q rvL (fun z H => RPO D E r0 σ rn H ∧ ((¬ (rdy σ ∧ 0 ≤ n ∧ n ≤ 8 ∧ -1 ≤ part) ∧ z = (if part = -1 then -2 else -1)) ∨ ((rdy σ ∧ 0 ≤ n ∧ n ≤ 8 ∧ -1 ≤ part) ∧ ∃ x y : Nat, BQ σ x y (mN σ) ∧ z = tellZ ((x : Int) * ((mA σ ^ n.toNat : Nat) : Int) * (mB σ : Int)) ((y : Int) * ((mB σ ^ n.toNat : Nat) : Int) * ((mB σ : Int) - (mA σ : Int))) part))) (fun q => r0 ≤ q ∧ q ≤ r0 + 13)) args s (0) (0) (fun q => r0 ≤ q ∧ q ≤ r0 + 13)) (F0 m 72 ls []) := by
        intro ii
        induction ii with
        | zero =>
          intro a f g h H locs ls ha ha0 hO hC hU hDn hW hBs hCh hNx hf hg hh hN hP hOw hTg hS hl
          have ea : a = mC σ q := by omega
          subst ea
          have hgc := hgl _ (Nat.le_refl _)
          obtain ⟨u1, u2, d1, d2, ww⟩ := hok.2.2.1 (4 * q + (gpick σ q 0 (fun _ => 0) 1 (mC σ q))) (by omega)
          have hub : (mU σ (4 * q + (gpick σ q 0 (fun _ => 0) 1 (mC σ q)))).natAbs ≤ 1000 := by omega
          have m1 : (mU σ (4 * q + (gpick σ q 0 (fun _ => 0) 1 (mC σ q)))).natAbs * y ≤ 1000 * 20 := Nat.mul_le_mul hub hy1
          have m2 : x * mD σ (4 * q + (gpick σ q 0 (fun _ => 0) 1 (mC σ q))) ≤ 1000 * 20 := Nat.mul_le_mul hx1 d2
          have n1 : ((mU σ (4 * q + (gpick σ q 0 (fun _ => 0) 1 (mC σ q)))).natAbs : Int) * (y : Int) = (((mU σ (4 * q + (gpick σ q 0 (fun _ => 0) 1 (mC σ q)))).natAbs * y : Nat) : Int) := (Int.natCast_mul _ _).symm
          have n2 : (x : Int) * (mD σ (4 * q + (gpick σ q 0 (fun _ => 0) 1 (mC σ q))) : Int) = ((x * mD σ (4 * q + (gpick σ q 0 (fun _ => 0) 1 (mC σ q))) : Nat) : Int) := (Int.natCast_mul _ _).symm
          refine lv_iload hx hb dX10_bound_72 (lv_at hl 8 rfl) ?_
          refine lv_aload_n hx hb dX10_bound_74 rfl (lv_at hl 0 rfl) ?_
          refine pw_get (C := RX10) (T := TX10) (N := 20) hx hb hts hin10 hown hK hO rfl 2 (by decide) lk_7 rfl rfl dX10_bound_75 ?_
          refine lv_iload hx hb dX10_bound_78 (lv_at hl 5 rfl) ?_
          refine pw_iald hx hb hK hC (q) rfl (by omega) (by omega) dX10_bound_80 ?_
          refine pw_asi ((mC σ (q) : Int)) rfl ?_
          refine pw_icmp_ge (tgt := 178) hx hb dX10_bound_81 (by decide) (fun c_81 => ?_) (fun c_81 => absurd c_81 (by omega))
          refine lv_iload hx hb dX10_bound_178 (lv_at hl 6 rfl) ?_
          refine pw_if_ge (tgt := 189) hx hb dX10_bound_180 (by decide) (fun c_180 => ?_) (fun c_180 => ?_)
          · refine lv_iload hx hb dX10_bound_189 (lv_at hl 6 rfl) ?_
            refine pw_asi (((mU σ (4 * q + (gpick σ q 0 (fun _ => 0) 1 (mC σ q)))).natAbs : Int)) (by omega) ?_
            refine lv_istore (lv' := [(6, .int (iI (((mU σ (4 * q + (gpick σ q 0 (fun _ => 0) 1 (mC σ q)))).natAbs : Int)))), (0, .ref (r0)), (1, .int (iI (n))), (2, .int (iI (part))), (3, .int (iI ((x : Int)))), (4, .int (iI ((y : Int)))), (5, .int (iI ((q : Int)))), (7, .int (iI ((mD σ (4 * q + (gpick σ q 0 (fun _ => 0) 1 (mC σ q))) : Int)))), (8, .int (iI ((mC σ q : Int))))]) hx hb dX10_bound_191 hl (by decide) rfl (fun ls hl => ?_)
            refine lv_iload hx hb dX10_bound_193 (lv_at hl 0 rfl) ?_
            refine lv_iload hx hb dX10_bound_195 (lv_at hl 5 rfl) ?_
            refine pw_imul hx hb dX10_bound_197 ?_
            refine pw_asi ((((mU σ (4 * q + (gpick σ q 0 (fun _ => 0) 1 (mC σ q)))).natAbs * y : Nat) : Int)) n1 ?_
            refine lv_iload_n hx hb dX10_bound_198 rfl (lv_at hl 4 rfl) ?_
            refine lv_iload hx hb dX10_bound_199 (lv_at hl 7 rfl) ?_
            refine pw_imul hx hb dX10_bound_201 ?_
            refine pw_asi (((x * mD σ (4 * q + (gpick σ q 0 (fun _ => 0) 1 (mC σ q))) : Nat) : Int)) n2 ?_
            refine pw_icmp_le (tgt := 209) hx hb dX10_bound_202 (by decide) (fun c_202 => ?_) (fun c_202 => ?_)
            · refine pw_iconst hx hb dX10_bound_209 ?_
              refine lv_istore (lv' := [(8, .int (iI (0))), (6, .int (iI (((mU σ (4 * q + (gpick σ q 0 (fun _ => 0) 1 (mC σ q)))).natAbs : Int)))), (0, .ref (r0)), (1, .int (iI (n))), (2, .int (iI (part))), (3, .int (iI ((x : Int)))), (4, .int (iI ((y : Int)))), (5, .int (iI ((q : Int)))), (7, .int (iI ((mD σ (4 * q + (gpick σ q 0 (fun _ => 0) 1 (mC σ q))) : Int))))]) hx hb dX10_bound_210 hl (by decide) rfl (fun ls hl => ?_)
              refine lv_iload hx hb dX10_bound_212 (lv_at hl 0 rfl) ?_
              refine pw_if_eq (tgt := 222) hx hb dX10_bound_214 (by decide) (fun c_214 => ?_) (fun c_214 => absurd c_214 (by omega))
              refine lv_iload_n hx hb dX10_bound_222 rfl (lv_at hl 5 rfl) ?_
              refine lv_istore_n (lv' := [(3, .int (iI ((x : Int)))), (8, .int (iI (0))), (6, .int (iI (((mU σ (4 * q + (gpick σ q 0 (fun _ => 0) 1 (mC σ q)))).natAbs : Int)))), (0, .ref (r0)), (1, .int (iI (n))), (2, .int (iI (part))), (4, .int (iI ((y : Int)))), (5, .int (iI ((q : Int)))), (7, .int (iI ((mD σ (4 * q + (gpick σ q 0 (fun _ => 0) 1 (mC σ q))) : Int))))]) hx hb dX10_bound_223 rfl hl (by decide) rfl (fun ls hl => ?_)
              refine lv_iload hx hb dX10_bound_224 (lv_at hl 1 rfl) ?_
              refine pw_if_eq (tgt := 234) hx hb dX10_bound_226 (by decide) (fun c_226 => ?_) (fun c_226 => absurd c_226 (by omega))
              refine lv_iload hx hb dX10_bound_234 (lv_at hl 6 rfl) ?_
              refine lv_istore (lv' := [(4, .int (iI ((y : Int)))), (3, .int (iI ((x : Int)))), (8, .int (iI (0))), (6, .int (iI (((mU σ (4 * q + (gpick σ q 0 (fun _ => 0) 1 (mC σ q)))).natAbs : Int)))), (0, .ref (r0)), (1, .int (iI (n))), (2, .int (iI (part))), (5, .int (iI ((q : Int)))), (7, .int (iI ((mD σ (4 * q + (gpick σ q 0 (fun _ => 0) 1 (mC σ q))) : Int))))]) hx hb dX10_bound_236 hl (by decide) rfl (fun ls hl => ?_)
              refine lv_iinc (v := iI (((q + 1 : Nat) : Int))) (lv' := [(5, .int (iI (((q + 1 : Nat) : Int)))), (4, .int (iI ((y : Int)))), (3, .int (iI ((x : Int)))), (8, .int (iI (0))), (6, .int (iI (((mU σ (4 * q + (gpick σ q 0 (fun _ => 0) 1 (mC σ q)))).natAbs : Int)))), (0, .ref (r0)), (1, .int (iI (n))), (2, .int (iI (part))), (7, .int (iI ((mD σ (4 * q + (gpick σ q 0 (fun _ => 0) 1 (mC σ q))) : Int))))]) hx hb dX10_bound_238 hl (k := 7) rfl (by show iI _ + iI _ = _; exact (iI_add _ _).trans (by first | rfl | (congr 1; omega))) (by decide) rfl (fun ls hl => ?_)
              refine lv_goto (tgt := 38) hx hb dX10_bound_241 (by decide) ?_
              exact ih (q + 1) x y f g h _ _ _ (by omega) (bq_same hBQ (by omega)) hx1 hy1 hO hC hU hDn hW hBs hCh hNx hf hg hh hN hP hOw hTg hS (lv_sub hl [5, 6, 7, 2, 1, 0] rfl)
            · refine pw_iconst hx hb dX10_bound_205 ?_
              refine lv_goto (tgt := 210) hx hb dX10_bound_206 (by decide) ?_
              refine lv_istore (lv' := [(8, .int (iI (1))), (6, .int (iI (((mU σ (4 * q + (gpick σ q 0 (fun _ => 0) 1 (mC σ q)))).natAbs : Int)))), (0, .ref (r0)), (1, .int (iI (n))), (2, .int (iI (part))), (3, .int (iI ((x : Int)))), (4, .int (iI ((y : Int)))), (5, .int (iI ((q : Int)))), (7, .int (iI ((mD σ (4 * q + (gpick σ q 0 (fun _ => 0) 1 (mC σ q))) : Int))))]) hx hb dX10_bound_210 hl (by decide) rfl (fun ls hl => ?_)
              refine lv_iload hx hb dX10_bound_212 (lv_at hl 0 rfl) ?_
              refine pw_if_eq (tgt := 222) hx hb dX10_bound_214 (by decide) (fun c_214 => absurd c_214 (by omega)) (fun c_214 => ?_)
              refine lv_iload hx hb dX10_bound_217 (lv_at hl 1 rfl) ?_
              refine lv_goto (tgt := 223) hx hb dX10_bound_219 (by decide) ?_
              refine lv_istore_n (lv' := [(3, .int (iI (((mU σ (4 * q + (gpick σ q 0 (fun _ => 0) 1 (mC σ q)))).natAbs : Int)))), (8, .int (iI (1))), (6, .int (iI (((mU σ (4 * q + (gpick σ q 0 (fun _ => 0) 1 (mC σ q)))).natAbs : Int)))), (0, .ref (r0)), (1, .int (iI (n))), (2, .int (iI (part))), (4, .int (iI ((y : Int)))), (5, .int (iI ((q : Int)))), (7, .int (iI ((mD σ (4 * q + (gpick σ q 0 (fun _ => 0) 1 (mC σ q))) : Int))))]) hx hb dX10_bound_223 rfl hl (by decide) rfl (fun ls hl => ?_)
              refine lv_iload hx hb dX10_bound_224 (lv_at hl 1 rfl) ?_
              refine pw_if_eq (tgt := 234) hx hb dX10_bound_226 (by decide) (fun c_226 => absurd c_226 (by omega)) (fun c_226 => ?_)
              refine lv_iload hx hb dX10_bound_229 (lv_at hl 8 rfl) ?_
              refine lv_goto (tgt := 236) hx hb dX10_bound_231 (by decide) ?_
              refine lv_istore (lv' := [(4, .int (iI ((mD σ (4 * q + (gpick σ q 0 (fun _ => 0) 1 (mC σ q))) : Int)))), (3, .int (iI (((mU σ (4 * q + (gpick σ q 0 (fun _ => 0) 1 (mC σ q)))).natAbs : Int)))), (8, .int (iI (1))), (6, .int (iI (((mU σ (4 * q + (gpick σ q 0 (fun _ => 0) 1 (mC σ q)))).natAbs : Int)))), (0, .ref (r0)), (1, .int (iI (n))), (2, .int (iI (part))), (5, .int (iI ((q : Int)))), (7, .int (iI ((mD σ (4 * q + (gpick σ q 0 (fun _ => 0) 1 (mC σ q))) : Int))))]) hx hb dX10_bound_236 hl (by decide) rfl (fun ls hl => ?_)
              refine lv_iinc (v := iI (((q + 1 : Nat) : Int))) (lv' := [(5, .int (iI (((q + 1 : Nat) : Int)))), (4, .int (iI ((mD σ (4 * q + (gpick σ q 0 (fun _ => 0) 1 (mC σ q))) : Int)))), (3, .int (iI (((mU σ (4 * q + (gpick σ q 0 (fun _ => 0) 1 (mC σ q)))).natAbs : Int)))), (8, .int (iI (1))), (6, .int (iI (((mU σ (4 * q + (gpick σ q 0 (fun _ => 0) 1 (mC σ q)))).natAbs : Int)))), (0, .ref (r0)), (1, .int (iI (n))), (2, .int (iI (part))), (7, .int (iI ((mD σ (4 * q + (gpick σ q 0 (fun _ => 0) 1 (mC σ q))) : Int))))]) hx hb dX10_bound_238 hl (k := 7) rfl (by show iI _ + iI _ = _; exact (iI_add _ _).trans (by first | rfl | (congr 1; omega))) (by decide) rfl (fun ls hl => ?_)
              refine lv_goto (tgt := 38) hx hb dX10_bound_241 (by decide) ?_
              exact ih (q + 1) (mU σ (4 * q + (gpick σ q 0 (fun _ => 0) 1 (mC σ q)))).natAbs (mD σ (4 * q + (gpick σ q 0 (fun _ => 0) 1 (mC σ q)))) f g h _ _ _ (by omega) (bq_up hBQ (by omega) (by omega)) hub d2 hO hC hU hDn hW hBs hCh hNx hf hg hh hN hP hOw hTg hS (lv_sub hl [5, 6, 7, 2, 1, 0] rfl)
          · refine lv_iload hx hb dX10_bound_183 (lv_at hl 6 rfl) ?_
            refine pw_ineg hx hb dX10_bound_185 ?_
            refine pw_asi (((mU σ (4 * q + (gpick σ q 0 (fun _ => 0) 1 (mC σ q)))).natAbs : Int)) (by omega) ?_
            refine lv_goto (tgt := 191) hx hb dX10_bound_186 (by decide) ?_
            refine lv_istore (lv' := [(6, .int (iI (((mU σ (4 * q + (gpick σ q 0 (fun _ => 0) 1 (mC σ q)))).natAbs : Int)))), (0, .ref (r0)), (1, .int (iI (n))), (2, .int (iI (part))), (3, .int (iI ((x : Int)))), (4, .int (iI ((y : Int)))), (5, .int (iI ((q : Int)))), (7, .int (iI ((mD σ (4 * q + (gpick σ q 0 (fun _ => 0) 1 (mC σ q))) : Int)))), (8, .int (iI ((mC σ q : Int))))]) hx hb dX10_bound_191 hl (by decide) rfl (fun ls hl => ?_)
            refine lv_iload hx hb dX10_bound_193 (lv_at hl 0 rfl) ?_
            refine lv_iload hx hb dX10_bound_195 (lv_at hl 5 rfl) ?_
            refine pw_imul hx hb dX10_bound_197 ?_
            refine pw_asi ((((mU σ (4 * q + (gpick σ q 0 (fun _ => 0) 1 (mC σ q)))).natAbs * y : Nat) : Int)) n1 ?_
            refine lv_iload_n hx hb dX10_bound_198 rfl (lv_at hl 4 rfl) ?_
            refine lv_iload hx hb dX10_bound_199 (lv_at hl 7 rfl) ?_
            refine pw_imul hx hb dX10_bound_201 ?_
            refine pw_asi (((x * mD σ (4 * q + (gpick σ q 0 (fun _ => 0) 1 (mC σ q))) : Nat) : Int)) n2 ?_
            refine pw_icmp_le (tgt := 209) hx hb dX10_bound_202 (by decide) (fun c_202 => ?_) (fun c_202 => ?_)
            · refine pw_iconst hx hb dX10_bound_209 ?_
              refine lv_istore (lv' := [(8, .int (iI (0))), (6, .int (iI (((mU σ (4 * q + (gpick σ q 0 (fun _ => 0) 1 (mC σ q)))).natAbs : Int)))), (0, .ref (r0)), (1, .int (iI (n))), (2, .int (iI (part))), (3, .int (iI ((x : Int)))), (4, .int (iI ((y : Int)))), (5, .int (iI ((q : Int)))), (7, .int (iI ((mD σ (4 * q + (gpick σ q 0 (fun _ => 0) 1 (mC σ q))) : Int))))]) hx hb dX10_bound_210 hl (by decide) rfl (fun ls hl => ?_)
              refine lv_iload hx hb dX10_bound_212 (lv_at hl 0 rfl) ?_
              refine pw_if_eq (tgt := 222) hx hb dX10_bound_214 (by decide) (fun c_214 => ?_) (fun c_214 => absurd c_214 (by omega))
              refine lv_iload_n hx hb dX10_bound_222 rfl (lv_at hl 5 rfl) ?_
              refine lv_istore_n (lv' := [(3, .int (iI ((x : Int)))), (8, .int (iI (0))), (6, .int (iI (((mU σ (4 * q + (gpick σ q 0 (fun _ => 0) 1 (mC σ q)))).natAbs : Int)))), (0, .ref (r0)), (1, .int (iI (n))), (2, .int (iI (part))), (4, .int (iI ((y : Int)))), (5, .int (iI ((q : Int)))), (7, .int (iI ((mD σ (4 * q + (gpick σ q 0 (fun _ => 0) 1 (mC σ q))) : Int))))]) hx hb dX10_bound_223 rfl hl (by decide) rfl (fun ls hl => ?_)
              refine lv_iload hx hb dX10_bound_224 (lv_at hl 1 rfl) ?_
              refine pw_if_eq (tgt := 234) hx hb dX10_bound_226 (by decide) (fun c_226 => ?_) (fun c_226 => absurd c_226 (by omega))
              refine lv_iload hx hb dX10_bound_234 (lv_at hl 6 rfl) ?_
              refine lv_istore (lv' := [(4, .int (iI ((y : Int)))), (3, .int (iI ((x : Int)))), (8, .int (iI (0))), (6, .int (iI (((mU σ (4 * q + (gpick σ q 0 (fun _ => 0) 1 (mC σ q)))).natAbs : Int)))), (0, .ref (r0)), (1, .int (iI (n))), (2, .int (iI (part))), (5, .int (iI ((q : Int)))), (7, .int (iI ((mD σ (4 * q + (gpick σ q 0 (fun _ => 0) 1 (mC σ q))) : Int))))]) hx hb dX10_bound_236 hl (by decide) rfl (fun ls hl => ?_)
              refine lv_iinc (v := iI (((q + 1 : Nat) : Int))) (lv' := [(5, .int (iI (((q + 1 : Nat) : Int)))), (4, .int (iI ((y : Int)))), (3, .int (iI ((x : Int)))), (8, .int (iI (0))), (6, .int (iI (((mU σ (4 * q + (gpick σ q 0 (fun _ => 0) 1 (mC σ q)))).natAbs : Int)))), (0, .ref (r0)), (1, .int (iI (n))), (2, .int (iI (part))), (7, .int (iI ((mD σ (4 * q + (gpick σ q 0 (fun _ => 0) 1 (mC σ q))) : Int))))]) hx hb dX10_bound_238 hl (k := 7) rfl (by show iI _ + iI _ = _; exact (iI_add _ _).trans (by first | rfl | (congr 1; omega))) (by decide) rfl (fun ls hl => ?_)
              refine lv_goto (tgt := 38) hx hb dX10_bound_241 (by decide) ?_
              exact ih (q + 1) x y f g h _ _ _ (by omega) (bq_same hBQ (by omega)) hx1 hy1 hO hC hU hDn hW hBs hCh hNx hf hg hh hN hP hOw hTg hS (lv_sub hl [5, 6, 7, 2, 1, 0] rfl)
            · refine pw_iconst hx hb dX10_bound_205 ?_
              refine lv_goto (tgt := 210) hx hb dX10_bound_206 (by decide) ?_
              refine lv_istore (lv' := [(8, .int (iI (1))), (6, .int (iI (((mU σ (4 * q + (gpick σ q 0 (fun _ => 0) 1 (mC σ q)))).natAbs : Int)))), (0, .ref (r0)), (1, .int (iI (n))), (2, .int (iI (part))), (3, .int (iI ((x : Int)))), (4, .int (iI ((y : Int)))), (5, .int (iI ((q : Int)))), (7, .int (iI ((mD σ (4 * q + (gpick σ q 0 (fun _ => 0) 1 (mC σ q))) : Int))))]) hx hb dX10_bound_210 hl (by decide) rfl (fun ls hl => ?_)
              refine lv_iload hx hb dX10_bound_212 (lv_at hl 0 rfl) ?_
              refine pw_if_eq (tgt := 222) hx hb dX10_bound_214 (by decide) (fun c_214 => absurd c_214 (by omega)) (fun c_214 => ?_)
              refine lv_iload hx hb dX10_bound_217 (lv_at hl 1 rfl) ?_
              refine lv_goto (tgt := 223) hx hb dX10_bound_219 (by decide) ?_
              refine lv_istore_n (lv' := [(3, .int (iI (((mU σ (4 * q + (gpick σ q 0 (fun _ => 0) 1 (mC σ q)))).natAbs : Int)))), (8, .int (iI (1))), (6, .int (iI (((mU σ (4 * q + (gpick σ q 0 (fun _ => 0) 1 (mC σ q)))).natAbs : Int)))), (0, .ref (r0)), (1, .int (iI (n))), (2, .int (iI (part))), (4, .int (iI ((y : Int)))), (5, .int (iI ((q : Int)))), (7, .int (iI ((mD σ (4 * q + (gpick σ q 0 (fun _ => 0) 1 (mC σ q))) : Int))))]) hx hb dX10_bound_223 rfl hl (by decide) rfl (fun ls hl => ?_)
              refine lv_iload hx hb dX10_bound_224 (lv_at hl 1 rfl) ?_
              refine pw_if_eq (tgt := 234) hx hb dX10_bound_226 (by decide) (fun c_226 => absurd c_226 (by omega)) (fun c_226 => ?_)
              refine lv_iload hx hb dX10_bound_229 (lv_at hl 8 rfl) ?_
              refine lv_goto (tgt := 236) hx hb dX10_bound_231 (by decide) ?_
              refine lv_istore (lv' := [(4, .int (iI ((mD σ (4 * q + (gpick σ q 0 (fun _ => 0) 1 (mC σ q))) : Int)))), (3, .int (iI (((mU σ (4 * q + (gpick σ q 0 (fun _ => 0) 1 (mC σ q)))).natAbs : Int)))), (8, .int (iI (1))), (6, .int (iI (((mU σ (4 * q + (gpick σ q 0 (fun _ => 0) 1 (mC σ q)))).natAbs : Int)))), (0, .ref (r0)), (1, .int (iI (n))), (2, .int (iI (part))), (5, .int (iI ((q : Int)))), (7, .int (iI ((mD σ (4 * q + (gpick σ q 0 (fun _ => 0) 1 (mC σ q))) : Int))))]) hx hb dX10_bound_236 hl (by decide) rfl (fun ls hl => ?_)
              refine lv_iinc (v := iI (((q + 1 : Nat) : Int))) (lv' := [(5, .int (iI (((q + 1 : Nat) : Int)))), (4, .int (iI ((mD σ (4 * q + (gpick σ q 0 (fun _ => 0) 1 (mC σ q))) : Int)))), (3, .int (iI (((mU σ (4 * q + (gpick σ q 0 (fun _ => 0) 1 (mC σ q)))).natAbs : Int)))), (8, .int (iI (1))), (6, .int (iI (((mU σ (4 * q + (gpick σ q 0 (fun _ => 0) 1 (mC σ q)))).natAbs : Int)))), (0, .ref (r0)), (1, .int (iI (n))), (2, .int (iI (part))), (7, .int (iI ((mD σ (4 * q + (gpick σ q 0 (fun _ => 0) 1 (mC σ q))) : Int))))]) hx hb dX10_bound_238 hl (k := 7) rfl (by show iI _ + iI _ = _; exact (iI_add _ _).trans (by first | rfl | (congr 1; omega))) (by decide) rfl (fun ls hl => ?_)
              refine lv_goto (tgt := 38) hx hb dX10_bound_241 (by decide) ?_
              exact ih (q + 1) (mU σ (4 * q + (gpick σ q 0 (fun _ => 0) 1 (mC σ q)))).natAbs (mD σ (4 * q + (gpick σ q 0 (fun _ => 0) 1 (mC σ q)))) f g h _ _ _ (by omega) (bq_up hBQ (by omega) (by omega)) hub d2 hO hC hU hDn hW hBs hCh hNx hf hg hh hN hP hOw hTg hS (lv_sub hl [5, 6, 7, 2, 1, 0] rfl)
        | succ ii ih2 =>
          intro a f g h H locs ls ha ha0 hO hC hU hDn hW hBs hCh hNx hf hg hh hN hP hOw hTg hS hl
          have hga := hgl a (by omega)
          obtain ⟨u1, u2, d1, d2, ww⟩ := hok.2.2.1 (4 * q + (gpick σ q 0 (fun _ => 0) 1 a)) (by omega)
          obtain ⟨v1, v2, e1, e2, xx⟩ := hok.2.2.1 (4 * q + a) (by omega)
          have hma := hm q a (by omega) (by omega)
          have hgm := gm0 hok hrd (show q < mN σ by omega) (show a < mC σ q by omega) hga
          have m1 : (mU σ (4 * q + a) * (mD σ (4 * q + (gpick σ q 0 (fun _ => 0) 1 a)) : Int)).natAbs ≤ 1000 * 20 := mulb (by omega) (by omega)
          have m2 : (mU σ (4 * q + (gpick σ q 0 (fun _ => 0) 1 a)) * (mD σ (4 * q + a) : Int)).natAbs ≤ 1000 * 20 := mulb (by omega) (by omega)
          refine lv_iload hx hb dX10_bound_72 (lv_at hl 8 rfl) ?_
          refine lv_aload_n hx hb dX10_bound_74 rfl (lv_at hl 0 rfl) ?_
          refine pw_get (C := RX10) (T := TX10) (N := 20) hx hb hts hin10 hown hK hO rfl 2 (by decide) lk_7 rfl rfl dX10_bound_75 ?_
          refine lv_iload hx hb dX10_bound_78 (lv_at hl 5 rfl) ?_
          refine pw_iald hx hb hK hC (q) rfl (by omega) (by omega) dX10_bound_80 ?_
          refine pw_asi ((mC σ (q) : Int)) rfl ?_
          refine pw_icmp_ge (tgt := 178) hx hb dX10_bound_81 (by decide) (fun c_81 => absurd c_81 (by omega)) (fun c_81 => ?_)
          refine lv_aload_n hx hb dX10_bound_84 rfl (lv_at hl 0 rfl) ?_
          refine pw_get (C := RX10) (T := TX10) (N := 20) hx hb hts hin10 hown hK hO rfl 3 (by decide) lk_13 rfl rfl dX10_bound_85 ?_
          refine pw_iconst hx hb dX10_bound_88 ?_
          refine lv_iload hx hb dX10_bound_89 (lv_at hl 5 rfl) ?_
          refine pw_imul hx hb dX10_bound_91 ?_
          refine lv_iload hx hb dX10_bound_92 (lv_at hl 8 rfl) ?_
          refine pw_iadd hx hb dX10_bound_94 ?_
          refine pw_iald hx hb hK hU (4 * q + a) (by omega) (by omega) (by omega) dX10_bound_95 ?_
          refine pw_asi (mU σ (4 * q + a)) hma.1 ?_
          refine lv_iload hx hb dX10_bound_96 (lv_at hl 7 rfl) ?_
          refine pw_imul hx hb dX10_bound_98 ?_
          refine lv_iload hx hb dX10_bound_99 (lv_at hl 6 rfl) ?_
          refine lv_aload_n hx hb dX10_bound_101 rfl (lv_at hl 0 rfl) ?_
          refine pw_get (C := RX10) (T := TX10) (N := 20) hx hb hts hin10 hown hK hO rfl 4 (by decide) lk_16 rfl rfl dX10_bound_102 ?_
          refine pw_iconst hx hb dX10_bound_105 ?_
          refine lv_iload hx hb dX10_bound_106 (lv_at hl 5 rfl) ?_
          refine pw_imul hx hb dX10_bound_108 ?_
          refine lv_iload hx hb dX10_bound_109 (lv_at hl 8 rfl) ?_
          refine pw_iadd hx hb dX10_bound_111 ?_
          refine pw_iald hx hb hK hDn (4 * q + a) (by omega) (by omega) (by omega) dX10_bound_112 ?_
          refine pw_asi ((mD σ (4 * q + a) : Int)) hma.2.1 ?_
          refine pw_imul hx hb dX10_bound_113 ?_
          refine pw_icmp_le (tgt := 121) hx hb dX10_bound_114 (by decide) (fun c_114 => ?_) (fun c_114 => ?_)
          · have hpk : (gpick σ q 0 (fun _ => 0) 1 (a + 1)) = (gpick σ q 0 (fun _ => 0) 1 a) := gpick_n (fun h => by have := hgm.mp h.2; omega)
            refine pw_iconst hx hb dX10_bound_121 ?_
            refine lv_istore (lv' := [(9, .int (iI (0))), (0, .ref (r0)), (1, .int (iI (n))), (2, .int (iI (part))), (3, .int (iI ((x : Int)))), (4, .int (iI ((y : Int)))), (5, .int (iI ((q : Int)))), (6, .int (iI (mU σ (4 * q + (gpick σ q 0 (fun _ => 0) 1 a))))), (7, .int (iI ((mD σ (4 * q + (gpick σ q 0 (fun _ => 0) 1 a)) : Int)))), (8, .int (iI ((a : Int))))]) hx hb dX10_bound_122 hl (by decide) rfl (fun ls hl => ?_)
            refine lv_iload hx hb dX10_bound_124 (lv_at hl 0 rfl) ?_
            refine pw_if_eq (tgt := 144) hx hb dX10_bound_126 (by decide) (fun c_126 => ?_) (fun c_126 => absurd c_126 (by omega))
            refine lv_iload hx hb dX10_bound_144 (lv_at hl 7 rfl) ?_
            refine pw_asi (mU σ (4 * q + (gpick σ q 0 (fun _ => 0) 1 (a + 1)))) (by rw [hpk]) ?_
            refine lv_istore (lv' := [(6, .int (iI (mU σ (4 * q + (gpick σ q 0 (fun _ => 0) 1 (a + 1)))))), (9, .int (iI (0))), (0, .ref (r0)), (1, .int (iI (n))), (2, .int (iI (part))), (3, .int (iI ((x : Int)))), (4, .int (iI ((y : Int)))), (5, .int (iI ((q : Int)))), (7, .int (iI ((mD σ (4 * q + (gpick σ q 0 (fun _ => 0) 1 a)) : Int)))), (8, .int (iI ((a : Int))))]) hx hb dX10_bound_146 hl (by decide) rfl (fun ls hl => ?_)
            refine lv_iload hx hb dX10_bound_148 (lv_at hl 1 rfl) ?_
            refine pw_if_eq (tgt := 168) hx hb dX10_bound_150 (by decide) (fun c_150 => ?_) (fun c_150 => absurd c_150 (by omega))
            refine lv_iload hx hb dX10_bound_168 (lv_at hl 8 rfl) ?_
            refine pw_asi ((mD σ (4 * q + (gpick σ q 0 (fun _ => 0) 1 (a + 1))) : Int)) (by rw [hpk]) ?_
            refine lv_istore (lv' := [(7, .int (iI ((mD σ (4 * q + (gpick σ q 0 (fun _ => 0) 1 (a + 1))) : Int)))), (6, .int (iI (mU σ (4 * q + (gpick σ q 0 (fun _ => 0) 1 (a + 1)))))), (9, .int (iI (0))), (0, .ref (r0)), (1, .int (iI (n))), (2, .int (iI (part))), (3, .int (iI ((x : Int)))), (4, .int (iI ((y : Int)))), (5, .int (iI ((q : Int)))), (8, .int (iI ((a : Int))))]) hx hb dX10_bound_170 hl (by decide) rfl (fun ls hl => ?_)
            refine lv_iinc (v := iI (((a + 1 : Nat) : Int))) (lv' := [(8, .int (iI (((a + 1 : Nat) : Int)))), (7, .int (iI ((mD σ (4 * q + (gpick σ q 0 (fun _ => 0) 1 (a + 1))) : Int)))), (6, .int (iI (mU σ (4 * q + (gpick σ q 0 (fun _ => 0) 1 (a + 1)))))), (9, .int (iI (0))), (0, .ref (r0)), (1, .int (iI (n))), (2, .int (iI (part))), (3, .int (iI ((x : Int)))), (4, .int (iI ((y : Int)))), (5, .int (iI ((q : Int))))]) hx hb dX10_bound_172 hl (k := 9) rfl (by show iI _ + iI _ = _; exact (iI_add _ _).trans (by first | rfl | (congr 1; omega))) (by decide) rfl (fun ls hl => ?_)
            refine lv_goto (tgt := 72) hx hb dX10_bound_175 (by decide) ?_
            exact ih2 (a + 1) f g h _ _ _ (by omega) (by omega) hO hC hU hDn hW hBs hCh hNx hf hg hh hN hP hOw hTg hS (lv_sub hl [4, 5, 6, 7, 8, 9, 2, 1, 0] rfl)
          · have hpk : (gpick σ q 0 (fun _ => 0) 1 (a + 1)) = a := gpick_y ⟨by omega, hgm.mpr (by omega)⟩
            refine pw_iconst hx hb dX10_bound_117 ?_
            refine lv_goto (tgt := 122) hx hb dX10_bound_118 (by decide) ?_
            refine lv_istore (lv' := [(9, .int (iI (1))), (0, .ref (r0)), (1, .int (iI (n))), (2, .int (iI (part))), (3, .int (iI ((x : Int)))), (4, .int (iI ((y : Int)))), (5, .int (iI ((q : Int)))), (6, .int (iI (mU σ (4 * q + (gpick σ q 0 (fun _ => 0) 1 a))))), (7, .int (iI ((mD σ (4 * q + (gpick σ q 0 (fun _ => 0) 1 a)) : Int)))), (8, .int (iI ((a : Int))))]) hx hb dX10_bound_122 hl (by decide) rfl (fun ls hl => ?_)
            refine lv_iload hx hb dX10_bound_124 (lv_at hl 0 rfl) ?_
            refine pw_if_eq (tgt := 144) hx hb dX10_bound_126 (by decide) (fun c_126 => absurd c_126 (by omega)) (fun c_126 => ?_)
            refine lv_aload_n hx hb dX10_bound_129 rfl (lv_at hl 1 rfl) ?_
            refine pw_get (C := RX10) (T := TX10) (N := 20) hx hb hts hin10 hown hK hO rfl 3 (by decide) lk_13 rfl rfl dX10_bound_130 ?_
            refine pw_iconst hx hb dX10_bound_133 ?_
            refine lv_iload hx hb dX10_bound_134 (lv_at hl 6 rfl) ?_
            refine pw_imul hx hb dX10_bound_136 ?_
            refine lv_iload hx hb dX10_bound_137 (lv_at hl 9 rfl) ?_
            refine pw_iadd hx hb dX10_bound_139 ?_
            refine pw_iald hx hb hK hU (4 * q + a) (by omega) (by omega) (by omega) dX10_bound_140 ?_
            refine pw_asi (mU σ (4 * q + (gpick σ q 0 (fun _ => 0) 1 (a + 1)))) (by rw [hpk]; exact hma.1) ?_
            refine lv_goto (tgt := 146) hx hb dX10_bound_141 (by decide) ?_
            refine lv_istore (lv' := [(6, .int (iI (mU σ (4 * q + (gpick σ q 0 (fun _ => 0) 1 (a + 1)))))), (9, .int (iI (1))), (0, .ref (r0)), (1, .int (iI (n))), (2, .int (iI (part))), (3, .int (iI ((x : Int)))), (4, .int (iI ((y : Int)))), (5, .int (iI ((q : Int)))), (7, .int (iI ((mD σ (4 * q + (gpick σ q 0 (fun _ => 0) 1 a)) : Int)))), (8, .int (iI ((a : Int))))]) hx hb dX10_bound_146 hl (by decide) rfl (fun ls hl => ?_)
            refine lv_iload hx hb dX10_bound_148 (lv_at hl 1 rfl) ?_
            refine pw_if_eq (tgt := 168) hx hb dX10_bound_150 (by decide) (fun c_150 => absurd c_150 (by omega)) (fun c_150 => ?_)
            refine lv_aload_n hx hb dX10_bound_153 rfl (lv_at hl 2 rfl) ?_
            refine pw_get (C := RX10) (T := TX10) (N := 20) hx hb hts hin10 hown hK hO rfl 4 (by decide) lk_16 rfl rfl dX10_bound_154 ?_
            refine pw_iconst hx hb dX10_bound_157 ?_
            refine lv_iload hx hb dX10_bound_158 (lv_at hl 7 rfl) ?_
            refine pw_imul hx hb dX10_bound_160 ?_
            refine lv_iload hx hb dX10_bound_161 (lv_at hl 9 rfl) ?_
            refine pw_iadd hx hb dX10_bound_163 ?_
            refine pw_iald hx hb hK hDn (4 * q + a) (by omega) (by omega) (by omega) dX10_bound_164 ?_
            refine pw_asi ((mD σ (4 * q + (gpick σ q 0 (fun _ => 0) 1 (a + 1))) : Int)) (by rw [hpk]; exact hma.2.1) ?_
            refine lv_goto (tgt := 170) hx hb dX10_bound_165 (by decide) ?_
            refine lv_istore (lv' := [(7, .int (iI ((mD σ (4 * q + (gpick σ q 0 (fun _ => 0) 1 (a + 1))) : Int)))), (6, .int (iI (mU σ (4 * q + (gpick σ q 0 (fun _ => 0) 1 (a + 1)))))), (9, .int (iI (1))), (0, .ref (r0)), (1, .int (iI (n))), (2, .int (iI (part))), (3, .int (iI ((x : Int)))), (4, .int (iI ((y : Int)))), (5, .int (iI ((q : Int)))), (8, .int (iI ((a : Int))))]) hx hb dX10_bound_170 hl (by decide) rfl (fun ls hl => ?_)
            refine lv_iinc (v := iI (((a + 1 : Nat) : Int))) (lv' := [(8, .int (iI (((a + 1 : Nat) : Int)))), (7, .int (iI ((mD σ (4 * q + (gpick σ q 0 (fun _ => 0) 1 (a + 1))) : Int)))), (6, .int (iI (mU σ (4 * q + (gpick σ q 0 (fun _ => 0) 1 (a + 1)))))), (9, .int (iI (1))), (0, .ref (r0)), (1, .int (iI (n))), (2, .int (iI (part))), (3, .int (iI ((x : Int)))), (4, .int (iI ((y : Int)))), (5, .int (iI ((q : Int))))]) hx hb dX10_bound_172 hl (k := 9) rfl (by show iI _ + iI _ = _; exact (iI_add _ _).trans (by first | rfl | (congr 1; omega))) (by decide) rfl (fun ls hl => ?_)
            refine lv_goto (tgt := 72) hx hb dX10_bound_175 (by decide) ?_
            exact ih2 (a + 1) f g h _ _ _ (by omega) (by omega) hO hC hU hDn hW hBs hCh hNx hf hg hh hN hP hOw hTg hS (lv_sub hl [4, 5, 6, 7, 8, 9, 2, 1, 0] rfl)
      intro hO hC hU hDn hW hBs hCh hNx hf hg hh hN hP hOw hTg hS hl
      have hma := hm q 0 (by omega) hc0
      refine lv_iload hx hb dX10_bound_38 (lv_at hl 5 rfl) ?_
      refine lv_aload_n hx hb dX10_bound_40 rfl (lv_at hl 0 rfl) ?_
      refine pw_get (C := RX10) (T := TX10) (N := 20) hx hb hts hin10 hown hK hO rfl 1 (by decide) lk_103 rfl rfl dX10_bound_41 ?_
      refine pw_icmp_ge (tgt := 244) hx hb dX10_bound_44 (by decide) (fun c_44 => absurd c_44 (by omega)) (fun c_44 => ?_)
      refine lv_aload_n hx hb dX10_bound_47 rfl (lv_at hl 0 rfl) ?_
      refine pw_get (C := RX10) (T := TX10) (N := 20) hx hb hts hin10 hown hK hO rfl 3 (by decide) lk_13 rfl rfl dX10_bound_48 ?_
      refine pw_iconst hx hb dX10_bound_51 ?_
      refine lv_iload hx hb dX10_bound_52 (lv_at hl 5 rfl) ?_
      refine pw_imul hx hb dX10_bound_54 ?_
      refine pw_iald hx hb hK hU (4 * q) (by omega) (by omega) (by omega) dX10_bound_55 ?_
      refine pw_asi (mU σ (4 * q + (gpick σ q 0 (fun _ => 0) 1 1))) hma.1 ?_
      refine lv_istore (lv' := [(6, .int (iI (mU σ (4 * q + (gpick σ q 0 (fun _ => 0) 1 1))))), (0, .ref (r0)), (1, .int (iI (n))), (2, .int (iI (part))), (3, .int (iI ((x : Int)))), (4, .int (iI ((y : Int)))), (5, .int (iI ((q : Int))))]) hx hb dX10_bound_56 hl (by decide) rfl (fun ls hl => ?_)
      refine lv_aload_n hx hb dX10_bound_58 rfl (lv_at hl 1 rfl) ?_
      refine pw_get (C := RX10) (T := TX10) (N := 20) hx hb hts hin10 hown hK hO rfl 4 (by decide) lk_16 rfl rfl dX10_bound_59 ?_
      refine pw_iconst hx hb dX10_bound_62 ?_
      refine lv_iload hx hb dX10_bound_63 (lv_at hl 6 rfl) ?_
      refine pw_imul hx hb dX10_bound_65 ?_
      refine pw_iald hx hb hK hDn (4 * q) (by omega) (by omega) (by omega) dX10_bound_66 ?_
      refine pw_asi ((mD σ (4 * q + (gpick σ q 0 (fun _ => 0) 1 1)) : Int)) hma.2.1 ?_
      refine lv_istore (lv' := [(7, .int (iI ((mD σ (4 * q + (gpick σ q 0 (fun _ => 0) 1 1)) : Int)))), (6, .int (iI (mU σ (4 * q + (gpick σ q 0 (fun _ => 0) 1 1))))), (0, .ref (r0)), (1, .int (iI (n))), (2, .int (iI (part))), (3, .int (iI ((x : Int)))), (4, .int (iI ((y : Int)))), (5, .int (iI ((q : Int))))]) hx hb dX10_bound_67 hl (by decide) rfl (fun ls hl => ?_)
      refine pw_iconst hx hb dX10_bound_69 ?_
      refine pw_asi (((1 : Nat) : Int)) rfl ?_
      refine lv_istore (lv' := [(8, .int (iI (((1 : Nat) : Int)))), (7, .int (iI ((mD σ (4 * q + (gpick σ q 0 (fun _ => 0) 1 1)) : Int)))), (6, .int (iI (mU σ (4 * q + (gpick σ q 0 (fun _ => 0) 1 1))))), (0, .ref (r0)), (1, .int (iI (n))), (2, .int (iI (part))), (3, .int (iI ((x : Int)))), (4, .int (iI ((y : Int)))), (5, .int (iI ((q : Int))))]) hx hb dX10_bound_70 hl (by decide) rfl (fun ls hl => ?_)
      exact loopA (mC σ q - 1) 1 f g h _ _ _ (by omega) (by omega) hO hC hU hDn hW hBs hCh hNx hf hg hh hN hP hOw hTg hS (lv_sub hl [3, 4, 5, 6, 7, 8, 2, 1, 0] rfl)
  refine lv_aload_n hx hb dX10_bound_0 rfl (lv_at hl 0 rfl) ?_
  refine pw_iconst hx hb dX10_bound_1 ?_
  refine pw_put (C := RX10) (T := TX10) (N := 20) hx hb hts hin10 tyX10 tyX10_ok nmX10 hown hK hO hS (by (try dsimp only); omega) rfl 0 (by decide) lk_56 rfl rfl rfl rfl (by show _ < 20; decide) dX10_bound_2 (fun H1 locs1 hnew hz1 oq hS => ?_)
  have hC := hC.k (oq _ (by omega))
  have hU := hU.k (oq _ (by omega))
  have hDn := hDn.k (oq _ (by omega))
  have hW := hW.k (oq _ (by omega))
  have hBs := hBs.k (oq _ (by omega))
  have hCh := hCh.k (oq _ (by omega))
  have hNx := hNx.k (oq _ (by omega))
  have hP := hP.k (oq _ (by omega))
  have hOw := hOw.k (oq _ (by omega))
  have hTg := hTg.k (oq _ (by omega))
  have hf := hf.k (oq _ (by omega))
  have hg := hg.k (oq _ (by omega))
  have hh := hh.k (oq _ (by omega))
  have hO : OA D (r0) 10 [.int (iI (0)), .int (iI ((mN σ : Int))), .ref (r0 + 1), .ref (r0 + 2), .ref (r0 + 3), .ref (r0 + 4), .int (iI ((mA σ : Int))), .int (iI ((mB σ : Int))), .int (iI (so)), .int (iI (rn)), .ref (r0 + 5), .ref (r0 + 6), .ref (r0 + 7), .ref (r0 + 8), .ref (r0 + 9), .ref (r0 + 10), .ref (r0 + 11), .ref (r0 + 12), .ref (r0 + 13), .int (iI (co))] H1 := hnew
  clear hnew oq hz1
  refine lv_aload_n hx hb dX10_bound_5 rfl (lv_at hl 0 rfl) ?_
  refine pw_callVi (As := []) (rest := []) ⟨hx, hb, hml, hown, hts⟩ (r_isReady l D E r0 σ 0 so rn co gU gD gW hok hm) (cwV 0 hts gX10_bound_X10_isReady rfl rfl rfl (by decide +kernel) ⟨Nat.le_of_ble_eq_true rfl, Nat.le_of_ble_eq_true rfl⟩) hK hO rfl ⟨hO, hC, hW⟩ rfl hl.1 rfl (Nat.le_of_ble_eq_true rfl) dX10_bound_6 ⟨Nat.zero_le _, Nat.zero_le _⟩ hS (fun q h => h.elim) (fun zy H1 locs1 ⟨hy01, hyr⟩ hz1 hk1 hS => ?_)
  have hO := hO.k (hk1 _ hO.lt (fun h => h))
  have hC := hC.k (hk1 _ hC.lt (fun h => h))
  have hU := hU.k (hk1 _ hU.lt (fun h => h))
  have hDn := hDn.k (hk1 _ hDn.lt (fun h => h))
  have hW := hW.k (hk1 _ hW.lt (fun h => h))
  have hBs := hBs.k (hk1 _ hBs.lt (fun h => h))
  have hCh := hCh.k (hk1 _ hCh.lt (fun h => h))
  have hNx := hNx.k (hk1 _ hNx.lt (fun h => h))
  have hP := hP.k (hk1 _ hP.lt (fun h => h))
  have hOw := hOw.k (hk1 _ hOw.lt (fun h => h))
  have hTg := hTg.k (hk1 _ hTg.lt (fun h => h))
  have hf := hf.k (hk1 _ hf.lt (fun h => h))
  have hg := hg.k (hk1 _ hg.lt (fun h => h))
  have hh := hh.k (hk1 _ hh.lt (fun h => h))
  refine pw_if_eq (tgt := 24) hx hb dX10_bound_9 (by decide) (fun c_9 => ?_) (fun c_9 => ?_)
  · refine lv_iload_n hx hb dX10_bound_24 rfl (lv_at hl 2 rfl) ?_
    refine pw_callSi (As := [.int (iI (part))]) (rest := []) ⟨hx, hb, hml, hown, hts⟩ (r_none l D E part part1 part2) (va_cwS 1 hts gX10_bound_X10_none rfl rfl rfl (by decide +kernel) ⟨Nat.le_of_ble_eq_true rfl, Nat.le_of_ble_eq_true rfl⟩) hK trivial rfl hl.1 rfl (Nat.le_of_ble_eq_true rfl) dX10_bound_25 ⟨Nat.zero_le _, Nat.zero_le _⟩ hS (fun q h => h.elim) (fun zn H1 locs1 hzn hz1 hk1 hS => ?_)
    have hO := hO.k (hk1 _ hO.lt (fun h => h))
    have hC := hC.k (hk1 _ hC.lt (fun h => h))
    have hU := hU.k (hk1 _ hU.lt (fun h => h))
    have hDn := hDn.k (hk1 _ hDn.lt (fun h => h))
    have hW := hW.k (hk1 _ hW.lt (fun h => h))
    have hBs := hBs.k (hk1 _ hBs.lt (fun h => h))
    have hCh := hCh.k (hk1 _ hCh.lt (fun h => h))
    have hNx := hNx.k (hk1 _ hNx.lt (fun h => h))
    have hP := hP.k (hk1 _ hP.lt (fun h => h))
    have hOw := hOw.k (hk1 _ hOw.lt (fun h => h))
    have hTg := hTg.k (hk1 _ hTg.lt (fun h => h))
    have hf := hf.k (hk1 _ hf.lt (fun h => h))
    have hg := hg.k (hk1 _ hg.lt (fun h => h))
    have hh := hh.k (hk1 _ hh.lt (fun h => h))
    subst hzn
    refine pw_i2l hx hb dX10_bound_28 ?_
    exact pw_lret hx hb hr hlocks hS ⟨⟨_, _, _, _, _, _, _, _, _, _, _, _, hO, hC, hU, hDn, hW, hBs, hCh, hNx, ⟨f, g, h, ⟨hf, hg, hh⟩, hN⟩, hP, hOw, hTg, hRI⟩, Or.inl ⟨fun h => absurd (hyr.mpr h.1) (by omega), rfl⟩⟩ dX10_bound_29
  · refine lv_iload_n hx hb dX10_bound_12 rfl (lv_at hl 1 rfl) ?_
    refine pw_i2l hx hb dX10_bound_13 ?_
    refine pw_lconst (z := 0) hx hb dX10_bound_14 ?_
    refine pw_ldc2 (z := 8) hx hb hown kc_202 (by decide +kernel) dX10_bound_15 ?_
    refine pw_callSi (As := [.long (lI (n)), .long (lI (0)), .long (lI (8))]) (rest := []) ⟨hx, hb, hml, hown, hts⟩ (r_in l D E n 0 8 (by omega) (by omega) (by omega) (by omega) (by omega) (by omega)) (va_cwS 3 hts gX10_bound_X10_in rfl rfl rfl (by decide +kernel) ⟨Nat.le_of_ble_eq_true rfl, Nat.le_of_ble_eq_true rfl⟩) hK trivial rfl hl.1 rfl (Nat.le_of_ble_eq_true rfl) dX10_bound_18 ⟨Nat.zero_le _, Nat.zero_le _⟩ hS (fun q h => h.elim) (fun zi H1 locs1 hi3 hz1 hk1 hS => ?_)
    have hO := hO.k (hk1 _ hO.lt (fun h => h))
    have hC := hC.k (hk1 _ hC.lt (fun h => h))
    have hU := hU.k (hk1 _ hU.lt (fun h => h))
    have hDn := hDn.k (hk1 _ hDn.lt (fun h => h))
    have hW := hW.k (hk1 _ hW.lt (fun h => h))
    have hBs := hBs.k (hk1 _ hBs.lt (fun h => h))
    have hCh := hCh.k (hk1 _ hCh.lt (fun h => h))
    have hNx := hNx.k (hk1 _ hNx.lt (fun h => h))
    have hP := hP.k (hk1 _ hP.lt (fun h => h))
    have hOw := hOw.k (hk1 _ hOw.lt (fun h => h))
    have hTg := hTg.k (hk1 _ hTg.lt (fun h => h))
    have hf := hf.k (hk1 _ hf.lt (fun h => h))
    have hg := hg.k (hk1 _ hg.lt (fun h => h))
    have hh := hh.k (hk1 _ hh.lt (fun h => h))
    have hi01 : 0 ≤ zi ∧ zi ≤ 1 := by rw [hi3]; split <;> omega
    refine pw_if_ne (tgt := 30) hx hb dX10_bound_21 (by decide) (fun c_21 => ?_) (fun c_21 => ?_)
    · have hk3 : 0 ≤ n ∧ n ≤ 8 := by
        by_cases h : 0 ≤ n ∧ n ≤ 8
        · exact h
        · rw [if_neg h] at hi3; omega
      refine pw_iconst hx hb dX10_bound_30 ?_
      refine pw_asi (((0 : Nat) : Int)) rfl ?_
      refine lv_istore_n (lv' := [(3, .int (iI (((0 : Nat) : Int)))), (0, .ref (r0)), (1, .int (iI (n))), (2, .int (iI (part)))]) hx hb dX10_bound_31 rfl hl (by decide) rfl (fun ls hl => ?_)
      refine pw_iconst hx hb dX10_bound_32 ?_
      refine pw_asi (((1 : Nat) : Int)) rfl ?_
      refine lv_istore (lv' := [(4, .int (iI (((1 : Nat) : Int)))), (3, .int (iI (((0 : Nat) : Int)))), (0, .ref (r0)), (1, .int (iI (n))), (2, .int (iI (part)))]) hx hb dX10_bound_33 hl (by decide) rfl (fun ls hl => ?_)
      refine pw_iconst hx hb dX10_bound_35 ?_
      refine pw_asi (((0 : Nat) : Int)) rfl ?_
      refine lv_istore (lv' := [(5, .int (iI (((0 : Nat) : Int)))), (4, .int (iI (((1 : Nat) : Int)))), (3, .int (iI (((0 : Nat) : Int)))), (0, .ref (r0)), (1, .int (iI (n))), (2, .int (iI (part)))]) hx hb dX10_bound_36 hl (by decide) rfl (fun ls hl => ?_)
      exact loopS (hyr.mp (by omega)) hk3 (mN σ) 0 0 1 f g h _ _ _ (by omega) ⟨by omega, fun s hs => by omega, fun h => by omega, fun _ => ⟨rfl, rfl⟩⟩ (by omega) (by omega) hO hC hU hDn hW hBs hCh hNx hf hg hh hN hP hOw hTg hS (lv_sub hl [3, 4, 5, 2, 1, 0] rfl)
    · refine lv_iload_n hx hb dX10_bound_24 rfl (lv_at hl 2 rfl) ?_
      refine pw_callSi (As := [.int (iI (part))]) (rest := []) ⟨hx, hb, hml, hown, hts⟩ (r_none l D E part part1 part2) (va_cwS 1 hts gX10_bound_X10_none rfl rfl rfl (by decide +kernel) ⟨Nat.le_of_ble_eq_true rfl, Nat.le_of_ble_eq_true rfl⟩) hK trivial rfl hl.1 rfl (Nat.le_of_ble_eq_true rfl) dX10_bound_25 ⟨Nat.zero_le _, Nat.zero_le _⟩ hS (fun q h => h.elim) (fun zn H1 locs1 hzn hz1 hk1 hS => ?_)
      have hO := hO.k (hk1 _ hO.lt (fun h => h))
      have hC := hC.k (hk1 _ hC.lt (fun h => h))
      have hU := hU.k (hk1 _ hU.lt (fun h => h))
      have hDn := hDn.k (hk1 _ hDn.lt (fun h => h))
      have hW := hW.k (hk1 _ hW.lt (fun h => h))
      have hBs := hBs.k (hk1 _ hBs.lt (fun h => h))
      have hCh := hCh.k (hk1 _ hCh.lt (fun h => h))
      have hNx := hNx.k (hk1 _ hNx.lt (fun h => h))
      have hP := hP.k (hk1 _ hP.lt (fun h => h))
      have hOw := hOw.k (hk1 _ hOw.lt (fun h => h))
      have hTg := hTg.k (hk1 _ hTg.lt (fun h => h))
      have hf := hf.k (hk1 _ hf.lt (fun h => h))
      have hg := hg.k (hk1 _ hg.lt (fun h => h))
      have hh := hh.k (hk1 _ hh.lt (fun h => h))
      subst hzn
      refine pw_i2l hx hb dX10_bound_28 ?_
      exact pw_lret hx hb hr hlocks hS ⟨⟨_, _, _, _, _, _, _, _, _, _, _, _, hO, hC, hU, hDn, hW, hBs, hCh, hNx, ⟨f, g, h, ⟨hf, hg, hh⟩, hN⟩, hP, hOw, hTg, hRI⟩, Or.inl ⟨fun h => by rw [if_pos ⟨h.2.1, h.2.2.1⟩] at hi3; omega, rfl⟩⟩ dX10_bound_29
