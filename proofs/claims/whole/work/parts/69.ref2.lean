/-! the reference: state, action, reward, move, discount -/
theorem mR_S {σ : MS} {gU gD gW : Nat → Int} (h : mR σ gU gD gW) : mR (sS σ) gU gD gW := h
theorem mR_G {σ : MS} {gU gD gW : Nat → Int} {x y : Nat} (h : mR σ gU gD gW) : mR (sG σ x y) gU gD gW := h
theorem mR_A {σ : MS} {gU gD gW gW' : Nat → Int} {s : Nat} (hok : mOK σ) (h : mR σ gU gD gW) (hs : s < 6) (hc : mC σ s < 4) (hw0 : ∀ t, t < 6 → gW' (6 * (4 * s + mC σ s) + t) = 0) (hwn : ∀ q, q < 6 * (4 * s + mC σ s) ∨ 6 * (4 * s + mC σ s) + 6 ≤ q → gW' q = gW q) : mR (sAc σ s) (ud gU (4 * s + mC σ s) 0) (ud gD (4 * s + mC σ s) 1) gW' := fun q k hq hk => by
  have hk : k < un (mC σ) s (mC σ s + 1) q := hk
  have hcq := hok.2.1 q hq
  by_cases e : q = s ∧ k = mC σ s
  · obtain ⟨e1, e2⟩ := e
    subst e1
    subst e2
    obtain ⟨a1, a2, a3⟩ := hok.2.2.2.2.2.2.1 q (mC σ q) hq (Nat.le_refl _) hc
    refine ⟨?_, ?_, fun t ht => ?_⟩
    · rw [ud_s]; exact a1.symm
    · rw [ud_s]; show (1 : Int) = ((mD σ (4 * q + mC σ q) : Nat) : Int); rw [a2]; rfl
    · rw [hw0 t ht]; show (0 : Int) = ((mW σ (4 * q + mC σ q) t : Nat) : Int); rw [a3 t ht]; rfl
  · have hk2 : k < mC σ q := by
      by_cases e1 : q = s
      · rw [e1, un_s] at hk; rw [e1]
        have : k ≠ mC σ s := fun e2 => e ⟨e1, e2⟩
        omega
      · rw [un_n _ _ e1] at hk; exact hk
    have hne : 4 * q + k ≠ 4 * s + mC σ s := fun he => by
      have e1 : q = s := by omega
      subst e1
      omega
    obtain ⟨a1, a2, a3⟩ := h q k hq hk2
    refine ⟨?_, ?_, fun t ht => ?_⟩
    · rw [ud_n _ _ hne]; exact a1
    · rw [ud_n _ _ hne]; exact a2
    · rw [hwn _ (by omega)]; exact a3 t ht
theorem mR_R {σ : MS} {gU gD gW : Nat → Int} {s k : Nat} {u : Int} {d : Nat} (h : mR σ gU gD gW) : mR (sRw σ (4 * s + k) u d) (ud gU (4 * s + k) u) (ud gD (4 * s + k) (d : Int)) gW := fun q j hq hj => by
  obtain ⟨a1, a2, a3⟩ := h q j hq hj
  refine ⟨?_, ?_, a3⟩
  · show ud gU (4 * s + k) u (4 * q + j) = ud (mU σ) (4 * s + k) u (4 * q + j)
    by_cases e : 4 * q + j = 4 * s + k
    · rw [e, ud_s, ud_s]
    · rw [ud_n _ _ e, ud_n _ _ e]; exact a1
  · show ud gD (4 * s + k) (d : Int) (4 * q + j) = ((un (mD σ) (4 * s + k) d (4 * q + j) : Nat) : Int)
    by_cases e : 4 * q + j = 4 * s + k
    · rw [e, ud_s, un_s]
    · rw [ud_n _ _ e, un_n _ _ e]; exact a2
theorem mR_M {σ : MS} {gU gD gW : Nat → Int} {i t w : Nat} (ht : t < 6) (h : mR σ gU gD gW) : mR (sMv σ i t w) gU gD (ud gW (6 * i + t) (w : Int)) := fun q j hq hj => by
  obtain ⟨a1, a2, a3⟩ := h q j hq hj
  refine ⟨a1, a2, fun r hr => ?_⟩
  show ud gW (6 * i + t) (w : Int) (6 * (4 * q + j) + r) = (((if 4 * q + j = i then un (mW σ i) t w else mW σ (4 * q + j)) r : Nat) : Int)
  by_cases e : 4 * q + j = i
  · rw [if_pos e]
    by_cases e2 : r = t
    · rw [e, e2, ud_s, un_s]
    · rw [ud_n _ _ (by omega), un_n _ _ e2, ← e]; exact a3 r hr
  · rw [if_neg e, ud_n _ _ (by omega)]; exact a3 r hr
set_option maxHeartbeats 4000000 in
set_option maxRecDepth 100000 in
/-- change() -/
theorem r_change (l : Launch) (D : va_G) (E : Nat → ClassId) (r0 : Nat) (σ : MS) (th so rn co : Int) : pw_M rvV l D E yX10_change wsX10_change ({ frames := 0, cells := 0, slots := 0, locals := 0 } : Room) [.ref (r0)] (fun H => OA D r0 10 [.int (iI (th)), .int (iI ((mN σ : Int))), .ref (r0 + 1), .ref (r0 + 2), .ref (r0 + 3), .ref (r0 + 4), .int (iI ((mA σ : Int))), .int (iI ((mB σ : Int))), .int (iI (so)), .int (iI (rn)), .ref (r0 + 5), .ref (r0 + 6), .ref (r0 + 7), .ref (r0 + 8), .ref (r0 + 9), .ref (r0 + 10), .ref (r0 + 11), .ref (r0 + 12), .ref (r0 + 13), .int (iI (co))] H) (fun _ H => OA D r0 10 [.int (iI (th)), .int (iI ((mN σ : Int))), .ref (r0 + 1), .ref (r0 + 2), .ref (r0 + 3), .ref (r0 + 4), .int (iI ((mA σ : Int))), .int (iI ((mB σ : Int))), .int (iI (0)), .int (iI (0)), .ref (r0 + 5), .ref (r0 + 6), .ref (r0 + 7), .ref (r0 + 8), .ref (r0 + 9), .ref (r0 + 10), .ref (r0 + 11), .ref (r0 + 12), .ref (r0 + 13), .int (iI (co))] H) (fun q => q = r0) (0) (0) := by
  refine pw_of (cc := cX10_change) (maxL := 1) (ret := none) (by decide +kernel) rfl (Nat.le_of_ble_eq_true rfl) ?_
  intro p e s m args below meth c hx hb hr hml hts hown hlocks hini hK hO ls hl
  have hown : s.vm.findClass RX10 = some m.cls := hown
  have hl : lv_has ls 1 [(0, .ref (r0))] := hl
  have hS : va_S (fun q => q = r0) s.heap s.heap [] := va_S.rf
  have lk_96 := hts (.fieldLink RX10 96 "PolicyWorksModel" "solved" "Z") (by decide +kernel)
  have lk_100 := hts (.fieldLink RX10 100 "PolicyWorksModel" "rounds" "I") (by decide +kernel)
  have hin10 : ∀ w ∈ wsX100, w ∈ wsX10_change := by decide +kernel
  refine lv_aload_n hx hb dX10_change_0 rfl (lv_at hl 0 rfl) ?_
  refine pw_iconst hx hb dX10_change_1 ?_
  refine pw_put (C := RX10) (T := TX10) (N := 20) hx hb hts hin10 tyX10 tyX10_ok nmX10 hown hK hO hS rfl rfl 8 (by decide) lk_96 rfl rfl rfl rfl (by show _ < 20; decide) dX10_change_2 (fun H1 locs1 hnew hz1 oq hS => ?_)
  have hO : OA D (r0) 10 [.int (iI (th)), .int (iI ((mN σ : Int))), .ref (r0 + 1), .ref (r0 + 2), .ref (r0 + 3), .ref (r0 + 4), .int (iI ((mA σ : Int))), .int (iI ((mB σ : Int))), .int (iI (0)), .int (iI (rn)), .ref (r0 + 5), .ref (r0 + 6), .ref (r0 + 7), .ref (r0 + 8), .ref (r0 + 9), .ref (r0 + 10), .ref (r0 + 11), .ref (r0 + 12), .ref (r0 + 13), .int (iI (co))] H1 := hnew
  clear hnew oq hz1
  refine lv_aload_n hx hb dX10_change_5 rfl (lv_at hl 0 rfl) ?_
  refine pw_iconst hx hb dX10_change_6 ?_
  refine pw_put (C := RX10) (T := TX10) (N := 20) hx hb hts hin10 tyX10 tyX10_ok nmX10 hown hK hO hS rfl rfl 9 (by decide) lk_100 rfl rfl rfl rfl (by show _ < 20; decide) dX10_change_7 (fun H1 locs1 hnew hz1 oq hS => ?_)
  have hO : OA D (r0) 10 [.int (iI (th)), .int (iI ((mN σ : Int))), .ref (r0 + 1), .ref (r0 + 2), .ref (r0 + 3), .ref (r0 + 4), .int (iI ((mA σ : Int))), .int (iI ((mB σ : Int))), .int (iI (0)), .int (iI (0)), .ref (r0 + 5), .ref (r0 + 6), .ref (r0 + 7), .ref (r0 + 8), .ref (r0 + 9), .ref (r0 + 10), .ref (r0 + 11), .ref (r0 + 12), .ref (r0 + 13), .int (iI (co))] H1 := hnew
  clear hnew oq hz1
  exact pw_vret hx hb hr hlocks hS hO dX10_change_10
set_option maxHeartbeats 4000000 in
set_option maxRecDepth 100000 in
/-- state() -/
theorem r_state (l : Launch) (D : va_G) (E : Nat → ClassId) (r0 : Nat) (σ : MS) (rn : Int) : pw_M rvI l D E yX10_state wsX10_state ({ frames := 1, cells := 0, slots := 0, locals := 20 } : Room) [.ref (r0)] (fun H => RPO D E r0 σ rn H) (fun z H => (mN σ = 6 ∧ z = -1 ∧ RPO D E r0 σ rn H) ∨ (mN σ < 6 ∧ z = (mN σ : Int) ∧ RPO D E r0 (sS σ) 0 H)) (fun q => r0 ≤ q ∧ q ≤ r0 + 13) (0) (0) := by
  refine pw_of (cc := cX10_state) (maxL := 1) (ret := (some .int)) (by decide +kernel) rfl (Nat.le_of_ble_eq_true rfl) ?_
  intro p e s m args below meth c hx hb hr hml hts hown hlocks hini hK ⟨th, so, co, bst, ch, nx, vs, ow, tg, gU, gD, gW, hO, hC, hU, hDn, hW, hBs, hCh, hNx, hB, hP, hOw, hTg, hRI⟩ ls hl
  have hown : s.vm.findClass RX10 = some m.cls := hown
  have hl : lv_has ls 1 [(0, .ref (r0))] := hl
  have hS : va_S (fun q => r0 ≤ q ∧ q ≤ r0 + 13) s.heap s.heap [] := va_S.rf
  have lk_7 := hts (.fieldLink RX10 7 "PolicyWorksModel" "actionCounts" "[I") (by decide +kernel)
  have lk_56 := hts (.fieldLink RX10 56 "PolicyWorksModel" "thrown" "I") (by decide +kernel)
  have lk_103 := hts (.fieldLink RX10 103 "PolicyWorksModel" "states" "I") (by decide +kernel)
  have hin10 : ∀ w ∈ wsX100, w ∈ wsX10_state := by decide +kernel
  have hok := hRI.1
  have hmR := hRI.2.1
  have hN6 := hok.1
  have hC4 := hok.2.1
  refine lv_aload_n hx hb dX10_state_0 rfl (lv_at hl 0 rfl) ?_
  refine pw_iconst hx hb dX10_state_1 ?_
  refine pw_put (C := RX10) (T := TX10) (N := 20) hx hb hts hin10 tyX10 tyX10_ok nmX10 hown hK hO hS (by (try dsimp only); omega) rfl 0 (by decide) lk_56 rfl rfl rfl rfl (by show _ < 20; decide) dX10_state_2 (fun H1 locs1 hnew hz1 oq hS => ?_)
  have hC := hC.k (oq _ (by omega))
  have hU := hU.k (oq _ (by omega))
  have hDn := hDn.k (oq _ (by omega))
  have hW := hW.k (oq _ (by omega))
  have hBs := hBs.k (oq _ (by omega))
  have hCh := hCh.k (oq _ (by omega))
  have hNx := hNx.k (oq _ (by omega))
  have hB := hB.k (fun q h1 h2 h3 => (oq _ (by omega)))
  have hP := hP.k (oq _ (by omega))
  have hOw := hOw.k (oq _ (by omega))
  have hTg := hTg.k (oq _ (by omega))
  have hO : OA D (r0) 10 [.int (iI (0)), .int (iI ((mN σ : Int))), .ref (r0 + 1), .ref (r0 + 2), .ref (r0 + 3), .ref (r0 + 4), .int (iI ((mA σ : Int))), .int (iI ((mB σ : Int))), .int (iI (so)), .int (iI (rn)), .ref (r0 + 5), .ref (r0 + 6), .ref (r0 + 7), .ref (r0 + 8), .ref (r0 + 9), .ref (r0 + 10), .ref (r0 + 11), .ref (r0 + 12), .ref (r0 + 13), .int (iI (co))] H1 := hnew
  clear hnew oq hz1
  refine lv_aload_n hx hb dX10_state_5 rfl (lv_at hl 0 rfl) ?_
  refine pw_get (C := RX10) (T := TX10) (N := 20) hx hb hts hin10 hown hK hO rfl 1 (by decide) lk_103 rfl rfl dX10_state_6 ?_
  refine pw_bipush hx hb dX10_state_9 ?_
  refine pw_icmp_ne (tgt := 16) hx hb dX10_state_11 (by decide) (fun c_11 => ?_) (fun c_11 => ?_)
  · refine lv_aload_n hx hb dX10_state_16 rfl (lv_at hl 0 rfl) ?_
    refine pw_get (C := RX10) (T := TX10) (N := 20) hx hb hts hin10 hown hK hO rfl 2 (by decide) lk_7 rfl rfl dX10_state_17 ?_
    refine lv_aload_n hx hb dX10_state_20 rfl (lv_at hl 0 rfl) ?_
    refine pw_get (C := RX10) (T := TX10) (N := 20) hx hb hts hin10 hown hK hO rfl 1 (by decide) lk_103 rfl rfl dX10_state_21 ?_
    refine pw_iconst hx hb dX10_state_24 ?_
    refine pw_iast hx hb hK hC hS (by (try dsimp only); omega) (mN σ) rfl (by omega) (by omega) dX10_state_25 (fun H1 locs1 hnew hz1 oq hS => ?_)
    have hO := hO.k (oq _ (by omega))
    have hU := hU.k (oq _ (by omega))
    have hDn := hDn.k (oq _ (by omega))
    have hW := hW.k (oq _ (by omega))
    have hBs := hBs.k (oq _ (by omega))
    have hCh := hCh.k (oq _ (by omega))
    have hNx := hNx.k (oq _ (by omega))
    have hB := hB.k (fun q h1 h2 h3 => (oq _ (by omega)))
    have hP := hP.k (oq _ (by omega))
    have hOw := hOw.k (oq _ (by omega))
    have hTg := hTg.k (oq _ (by omega))
    have hC := hnew
    clear hnew oq hz1
    have hC2 : IA E (r0 + 1) 6 (fun s => (mC σ s : Int)) _ := hC.to (fun q => by
      by_cases e : q = mN σ
      · rw [e, ud_s, hok.2.2.2.2.2.1 (mN σ) (Nat.le_refl _) (by omega)]; rfl
      · rw [ud_n _ _ e])
    clear hC
    have hC := hC2
    clear hC2
    refine lv_aload_n hx hb dX10_state_26 rfl (lv_at hl 0 rfl) ?_
    refine lv_dup hx hb dX10_state_27 rfl ?_
    refine pw_get (C := RX10) (T := TX10) (N := 20) hx hb hts hin10 hown hK hO rfl 1 (by decide) lk_103 rfl rfl dX10_state_28 ?_
    refine pw_iconst hx hb dX10_state_31 ?_
    refine pw_iadd hx hb dX10_state_32 ?_
    refine pw_asi (((mN σ + 1 : Nat) : Int)) (by omega) ?_
    refine pw_put (C := RX10) (T := TX10) (N := 20) hx hb hts hin10 tyX10 tyX10_ok nmX10 hown hK hO hS (by (try dsimp only); omega) rfl 1 (by decide) lk_103 rfl rfl rfl rfl (by show _ < 20; decide) dX10_state_33 (fun H1 locs1 hnew hz1 oq hS => ?_)
    have hC := hC.k (oq _ (by omega))
    have hU := hU.k (oq _ (by omega))
    have hDn := hDn.k (oq _ (by omega))
    have hW := hW.k (oq _ (by omega))
    have hBs := hBs.k (oq _ (by omega))
    have hCh := hCh.k (oq _ (by omega))
    have hNx := hNx.k (oq _ (by omega))
    have hB := hB.k (fun q h1 h2 h3 => (oq _ (by omega)))
    have hP := hP.k (oq _ (by omega))
    have hOw := hOw.k (oq _ (by omega))
    have hTg := hTg.k (oq _ (by omega))
    have hO : OA D (r0) 10 [.int (iI (0)), .int (iI (((mN σ + 1 : Nat) : Int))), .ref (r0 + 1), .ref (r0 + 2), .ref (r0 + 3), .ref (r0 + 4), .int (iI ((mA σ : Int))), .int (iI ((mB σ : Int))), .int (iI (so)), .int (iI (rn)), .ref (r0 + 5), .ref (r0 + 6), .ref (r0 + 7), .ref (r0 + 8), .ref (r0 + 9), .ref (r0 + 10), .ref (r0 + 11), .ref (r0 + 12), .ref (r0 + 13), .int (iI (co))] H1 := hnew
    clear hnew oq hz1
    refine lv_aload_n hx hb dX10_state_36 rfl (lv_at hl 0 rfl) ?_
    refine pw_callVv (As := []) (rest := []) ⟨hx, hb, hml, hown, hts⟩ (r_change l D E r0 (sS σ) 0 so rn co) (cwV 0 hts gX10_state_X10_change rfl rfl rfl (by decide +kernel) ⟨Nat.le_of_ble_eq_true rfl, Nat.le_of_ble_eq_true rfl⟩) hK hO rfl hO rfl hl.1 rfl (Nat.le_of_ble_eq_true rfl) dX10_state_37 ⟨Nat.zero_le _, Nat.zero_le _⟩ hS (fun q h => by (try dsimp only at h); (try dsimp only); omega) (fun H1 locs1 hO hz1 hk1 hS => ?_)
    have hC := hC.k (hk1 _ hC.lt (by (try dsimp only); omega))
    have hU := hU.k (hk1 _ hU.lt (by (try dsimp only); omega))
    have hDn := hDn.k (hk1 _ hDn.lt (by (try dsimp only); omega))
    have hW := hW.k (hk1 _ hW.lt (by (try dsimp only); omega))
    have hBs := hBs.k (hk1 _ hBs.lt (by (try dsimp only); omega))
    have hCh := hCh.k (hk1 _ hCh.lt (by (try dsimp only); omega))
    have hNx := hNx.k (hk1 _ hNx.lt (by (try dsimp only); omega))
    have hB := hB.k (fun q h1 h2 h3 => (hk1 _ h3 (by (try dsimp only); omega)))
    have hP := hP.k (hk1 _ hP.lt (by (try dsimp only); omega))
    have hOw := hOw.k (hk1 _ hOw.lt (by (try dsimp only); omega))
    have hTg := hTg.k (hk1 _ hTg.lt (by (try dsimp only); omega))
    refine lv_aload_n hx hb dX10_state_40 rfl (lv_at hl 0 rfl) ?_
    refine pw_get (C := RX10) (T := TX10) (N := 20) hx hb hts hin10 hown hK hO rfl 1 (by decide) lk_103 rfl rfl dX10_state_41 ?_
    refine pw_iconst hx hb dX10_state_44 ?_
    refine pw_isub hx hb dX10_state_45 ?_
    refine pw_asi ((mN σ : Int)) (by show ((mN σ + 1 : Nat) : Int) - 1 = _; omega) ?_
    exact pw_iret hx hb hr hlocks hS (Or.inr ⟨by omega, rfl, ⟨_, _, _, _, _, _, _, _, _, _, _, _, hO, hC, hU, hDn, hW, hBs, hCh, hNx, hB, hP, hOw, hTg, RI0 (sS_ok hok (by omega)) (mR_S hmR)⟩⟩) dX10_state_46
  · refine pw_iconst hx hb dX10_state_14 ?_
    exact pw_iret hx hb hr hlocks hS (Or.inl ⟨by omega, rfl, ⟨_, _, _, _, _, _, _, _, _, _, _, _, hO, hC, hU, hDn, hW, hBs, hCh, hNx, hB, hP, hOw, hTg, hRI⟩⟩) dX10_state_15
set_option maxHeartbeats 4000000 in
set_option maxRecDepth 100000 in
/-- discount(x, y) -/
theorem r_discount (l : Launch) (D : va_G) (E : Nat → ClassId) (r0 : Nat) (σ : MS) (rn x y : Int) (x1 : -2147483648 ≤ x) (x2 : x ≤ 2147483647) (y1 : -2147483648 ≤ y) (y2 : y ≤ 2147483647) : pw_M rvI l D E yX10_discount wsX10_discount ({ frames := 1, cells := 0, slots := 0, locals := 20 } : Room) [.ref (r0), .int (iI (x)), .int (iI (y))] (fun H => RPO D E r0 σ rn H) (fun z H => (¬ (0 ≤ x ∧ x < y ∧ y ≤ 20) ∧ z = 0 ∧ RPO D E r0 σ rn H) ∨ (0 ≤ x ∧ x < y ∧ y ≤ 20 ∧ z = 1 ∧ RPO D E r0 (sG σ x.toNat y.toNat) 0 H)) (fun q => r0 ≤ q ∧ q ≤ r0 + 13) (0) (0) := by
  refine pw_of (cc := cX10_discount) (maxL := 3) (ret := (some .boolean)) (by decide +kernel) rfl (Nat.le_of_ble_eq_true rfl) ?_
  intro p e s m args below meth c hx hb hr hml hts hown hlocks hini hK ⟨th, so, co, bst, ch, nx, vs, ow, tg, gU, gD, gW, hO, hC, hU, hDn, hW, hBs, hCh, hNx, hB, hP, hOw, hTg, hRI⟩ ls hl
  have hown : s.vm.findClass RX10 = some m.cls := hown
  have hl : lv_has ls 3 [(0, .ref (r0)), (1, .int (iI (x))), (2, .int (iI (y)))] := hl
  have hS : va_S (fun q => r0 ≤ q ∧ q ≤ r0 + 13) s.heap s.heap [] := va_S.rf
  have lk_22 := hts (.fieldLink RX10 22 "PolicyWorksModel" "discountUp" "I") (by decide +kernel)
  have lk_26 := hts (.fieldLink RX10 26 "PolicyWorksModel" "discountDown" "I") (by decide +kernel)
  have lk_56 := hts (.fieldLink RX10 56 "PolicyWorksModel" "thrown" "I") (by decide +kernel)
  have hin10 : ∀ w ∈ wsX100, w ∈ wsX10_discount := by decide +kernel
  have hok := hRI.1
  have hmR := hRI.2.1
  have hN6 := hok.1
  have hC4 := hok.2.1
  refine lv_aload_n hx hb dX10_discount_0 rfl (lv_at hl 0 rfl) ?_
  refine pw_iconst hx hb dX10_discount_1 ?_
  refine pw_put (C := RX10) (T := TX10) (N := 20) hx hb hts hin10 tyX10 tyX10_ok nmX10 hown hK hO hS (by (try dsimp only); omega) rfl 0 (by decide) lk_56 rfl rfl rfl rfl (by show _ < 20; decide) dX10_discount_2 (fun H1 locs1 hnew hz1 oq hS => ?_)
  have hC := hC.k (oq _ (by omega))
  have hU := hU.k (oq _ (by omega))
  have hDn := hDn.k (oq _ (by omega))
  have hW := hW.k (oq _ (by omega))
  have hBs := hBs.k (oq _ (by omega))
  have hCh := hCh.k (oq _ (by omega))
  have hNx := hNx.k (oq _ (by omega))
  have hB := hB.k (fun q h1 h2 h3 => (oq _ (by omega)))
  have hP := hP.k (oq _ (by omega))
  have hOw := hOw.k (oq _ (by omega))
  have hTg := hTg.k (oq _ (by omega))
  have hO : OA D (r0) 10 [.int (iI (0)), .int (iI ((mN σ : Int))), .ref (r0 + 1), .ref (r0 + 2), .ref (r0 + 3), .ref (r0 + 4), .int (iI ((mA σ : Int))), .int (iI ((mB σ : Int))), .int (iI (so)), .int (iI (rn)), .ref (r0 + 5), .ref (r0 + 6), .ref (r0 + 7), .ref (r0 + 8), .ref (r0 + 9), .ref (r0 + 10), .ref (r0 + 11), .ref (r0 + 12), .ref (r0 + 13), .int (iI (co))] H1 := hnew
  clear hnew oq hz1
  refine lv_iload_n hx hb dX10_discount_5 rfl (lv_at hl 1 rfl) ?_
  refine pw_if_lt (tgt := 20) hx hb dX10_discount_6 (by decide) (fun c_6 => ?_) (fun c_6 => ?_)
  · refine pw_iconst hx hb dX10_discount_20 ?_
    exact pw_zret hx hb hr hlocks hS (by omega) (Or.inl ⟨by omega, rfl, ⟨_, _, _, _, _, _, _, _, _, _, _, _, hO, hC, hU, hDn, hW, hBs, hCh, hNx, hB, hP, hOw, hTg, hRI⟩⟩) dX10_discount_21
  · refine lv_iload_n hx hb dX10_discount_9 rfl (lv_at hl 1 rfl) ?_
    refine lv_iload_n hx hb dX10_discount_10 rfl (lv_at hl 2 rfl) ?_
    refine pw_icmp_ge (tgt := 20) hx hb dX10_discount_11 (by decide) (fun c_11 => ?_) (fun c_11 => ?_)
    · refine pw_iconst hx hb dX10_discount_20 ?_
      exact pw_zret hx hb hr hlocks hS (by omega) (Or.inl ⟨by omega, rfl, ⟨_, _, _, _, _, _, _, _, _, _, _, _, hO, hC, hU, hDn, hW, hBs, hCh, hNx, hB, hP, hOw, hTg, hRI⟩⟩) dX10_discount_21
    · refine lv_iload_n hx hb dX10_discount_14 rfl (lv_at hl 2 rfl) ?_
      refine pw_bipush hx hb dX10_discount_15 ?_
      refine pw_icmp_le (tgt := 22) hx hb dX10_discount_17 (by decide) (fun c_17 => ?_) (fun c_17 => ?_)
      · refine lv_aload_n hx hb dX10_discount_22 rfl (lv_at hl 0 rfl) ?_
        refine lv_iload_n hx hb dX10_discount_23 rfl (lv_at hl 1 rfl) ?_
        refine pw_asi ((x.toNat : Int)) (by omega) ?_
        refine pw_put (C := RX10) (T := TX10) (N := 20) hx hb hts hin10 tyX10 tyX10_ok nmX10 hown hK hO hS (by (try dsimp only); omega) rfl 6 (by decide) lk_22 rfl rfl rfl rfl (by show _ < 20; decide) dX10_discount_24 (fun H1 locs1 hnew hz1 oq hS => ?_)
        have hC := hC.k (oq _ (by omega))
        have hU := hU.k (oq _ (by omega))
        have hDn := hDn.k (oq _ (by omega))
        have hW := hW.k (oq _ (by omega))
        have hBs := hBs.k (oq _ (by omega))
        have hCh := hCh.k (oq _ (by omega))
        have hNx := hNx.k (oq _ (by omega))
        have hB := hB.k (fun q h1 h2 h3 => (oq _ (by omega)))
        have hP := hP.k (oq _ (by omega))
        have hOw := hOw.k (oq _ (by omega))
        have hTg := hTg.k (oq _ (by omega))
        have hO : OA D (r0) 10 [.int (iI (0)), .int (iI ((mN σ : Int))), .ref (r0 + 1), .ref (r0 + 2), .ref (r0 + 3), .ref (r0 + 4), .int (iI ((x.toNat : Int))), .int (iI ((mB σ : Int))), .int (iI (so)), .int (iI (rn)), .ref (r0 + 5), .ref (r0 + 6), .ref (r0 + 7), .ref (r0 + 8), .ref (r0 + 9), .ref (r0 + 10), .ref (r0 + 11), .ref (r0 + 12), .ref (r0 + 13), .int (iI (co))] H1 := hnew
        clear hnew oq hz1
        refine lv_aload_n hx hb dX10_discount_27 rfl (lv_at hl 0 rfl) ?_
        refine lv_iload_n hx hb dX10_discount_28 rfl (lv_at hl 2 rfl) ?_
        refine pw_asi ((y.toNat : Int)) (by omega) ?_
        refine pw_put (C := RX10) (T := TX10) (N := 20) hx hb hts hin10 tyX10 tyX10_ok nmX10 hown hK hO hS (by (try dsimp only); omega) rfl 7 (by decide) lk_26 rfl rfl rfl rfl (by show _ < 20; decide) dX10_discount_29 (fun H1 locs1 hnew hz1 oq hS => ?_)
        have hC := hC.k (oq _ (by omega))
        have hU := hU.k (oq _ (by omega))
        have hDn := hDn.k (oq _ (by omega))
        have hW := hW.k (oq _ (by omega))
        have hBs := hBs.k (oq _ (by omega))
        have hCh := hCh.k (oq _ (by omega))
        have hNx := hNx.k (oq _ (by omega))
        have hB := hB.k (fun q h1 h2 h3 => (oq _ (by omega)))
        have hP := hP.k (oq _ (by omega))
        have hOw := hOw.k (oq _ (by omega))
        have hTg := hTg.k (oq _ (by omega))
        have hO : OA D (r0) 10 [.int (iI (0)), .int (iI ((mN σ : Int))), .ref (r0 + 1), .ref (r0 + 2), .ref (r0 + 3), .ref (r0 + 4), .int (iI ((x.toNat : Int))), .int (iI ((y.toNat : Int))), .int (iI (so)), .int (iI (rn)), .ref (r0 + 5), .ref (r0 + 6), .ref (r0 + 7), .ref (r0 + 8), .ref (r0 + 9), .ref (r0 + 10), .ref (r0 + 11), .ref (r0 + 12), .ref (r0 + 13), .int (iI (co))] H1 := hnew
        clear hnew oq hz1
        refine lv_aload_n hx hb dX10_discount_32 rfl (lv_at hl 0 rfl) ?_
        refine pw_callVv (As := []) (rest := []) ⟨hx, hb, hml, hown, hts⟩ (r_change l D E r0 (sG σ x.toNat y.toNat) 0 so rn co) (cwV 0 hts gX10_discount_X10_change rfl rfl rfl (by decide +kernel) ⟨Nat.le_of_ble_eq_true rfl, Nat.le_of_ble_eq_true rfl⟩) hK hO rfl hO rfl hl.1 rfl (Nat.le_of_ble_eq_true rfl) dX10_discount_33 ⟨Nat.zero_le _, Nat.zero_le _⟩ hS (fun q h => by (try dsimp only at h); (try dsimp only); omega) (fun H1 locs1 hO hz1 hk1 hS => ?_)
        have hC := hC.k (hk1 _ hC.lt (by (try dsimp only); omega))
        have hU := hU.k (hk1 _ hU.lt (by (try dsimp only); omega))
        have hDn := hDn.k (hk1 _ hDn.lt (by (try dsimp only); omega))
        have hW := hW.k (hk1 _ hW.lt (by (try dsimp only); omega))
        have hBs := hBs.k (hk1 _ hBs.lt (by (try dsimp only); omega))
        have hCh := hCh.k (hk1 _ hCh.lt (by (try dsimp only); omega))
        have hNx := hNx.k (hk1 _ hNx.lt (by (try dsimp only); omega))
        have hB := hB.k (fun q h1 h2 h3 => (hk1 _ h3 (by (try dsimp only); omega)))
        have hP := hP.k (hk1 _ hP.lt (by (try dsimp only); omega))
        have hOw := hOw.k (hk1 _ hOw.lt (by (try dsimp only); omega))
        have hTg := hTg.k (hk1 _ hTg.lt (by (try dsimp only); omega))
        refine pw_iconst hx hb dX10_discount_36 ?_
        exact pw_zret hx hb hr hlocks hS (by omega) (Or.inr ⟨by omega, by omega, by omega, rfl, ⟨_, _, _, _, _, _, _, _, _, _, _, _, hO, hC, hU, hDn, hW, hBs, hCh, hNx, hB, hP, hOw, hTg, RI0 (sG_ok hok (by omega) (by omega)) (mR_G hmR)⟩⟩) dX10_discount_37
      · refine pw_iconst hx hb dX10_discount_20 ?_
        exact pw_zret hx hb hr hlocks hS (by omega) (Or.inl ⟨by omega, rfl, ⟨_, _, _, _, _, _, _, _, _, _, _, _, hO, hC, hU, hDn, hW, hBs, hCh, hNx, hB, hP, hOw, hTg, hRI⟩⟩) dX10_discount_21
set_option maxHeartbeats 4000000 in
set_option maxRecDepth 100000 in
/-- action(k) -/
theorem r_action (l : Launch) (D : va_G) (E : Nat → ClassId) (r0 : Nat) (σ : MS) (rn k : Int) (k1 : -2147483648 ≤ k) (k2 : k ≤ 2147483647) : pw_M rvI l D E yX10_action wsX10_action ({ frames := 1, cells := 0, slots := 0, locals := 21 } : Room) [.ref (r0), .int (iI (k))] (fun H => RPO D E r0 σ rn H) (fun z H => (¬ ((0 ≤ k ∧ k < (mN σ : Int)) ∧ mC σ k.toNat < 4) ∧ z = -1 ∧ RPO D E r0 σ rn H) ∨ ((0 ≤ k ∧ k < (mN σ : Int)) ∧ mC σ k.toNat < 4 ∧ z = (mC σ k.toNat : Int) ∧ RPO D E r0 (sAc σ k.toNat) 0 H)) (fun q => r0 ≤ q ∧ q ≤ r0 + 13) (0) (0) := by
  refine pw_of (cc := cX10_action) (maxL := 4) (ret := (some .int)) (by decide +kernel) rfl (Nat.le_of_ble_eq_true rfl) ?_
  intro p e s m args below meth c hx hb hr hml hts hown hlocks hini hK ⟨th, so, co, bst, ch, nx, vs, ow, tg, gU, gD, gW, hO, hC, hU, hDn, hW, hBs, hCh, hNx, hB, hP, hOw, hTg, hRI⟩ ls hl
  have hown : s.vm.findClass RX10 = some m.cls := hown
  have hl : lv_has ls 4 [(0, .ref (r0)), (1, .int (iI (k)))] := hl
  have hS : va_S (fun q => r0 ≤ q ∧ q ≤ r0 + 13) s.heap s.heap [] := va_S.rf
  have lk_7 := hts (.fieldLink RX10 7 "PolicyWorksModel" "actionCounts" "[I") (by decide +kernel)
  have lk_13 := hts (.fieldLink RX10 13 "PolicyWorksModel" "ups" "[I") (by decide +kernel)
  have lk_16 := hts (.fieldLink RX10 16 "PolicyWorksModel" "downs" "[I") (by decide +kernel)
  have lk_19 := hts (.fieldLink RX10 19 "PolicyWorksModel" "weights" "[I") (by decide +kernel)
  have lk_56 := hts (.fieldLink RX10 56 "PolicyWorksModel" "thrown" "I") (by decide +kernel)
  have hin10 : ∀ w ∈ wsX100, w ∈ wsX10_action := by decide +kernel
  have hok := hRI.1
  have hmR := hRI.2.1
  have hN6 := hok.1
  have hC4 := hok.2.1
  have loop : (0 ≤ k ∧ k < (mN σ : Int)) → mC σ k.toNat < 4 → ∀ (kk t : Nat) (gX : Nat → Int) (H : Heap) (locs : List Loc) (ls : Array Slot), t + kk = 6 → (∀ r, r < t → gX (6 * (4 * k.toNat + mC σ k.toNat) + r) = 0) → (∀ q, q < 6 * (4 * k.toNat + mC σ k.toNat) ∨ 6 * (4 * k.toNat + mC σ k.toNat) + 6 ≤ q → gX q = gW q) → OA D r0 10 [.int (iI (0)), .int (iI ((mN σ : Int))), .ref (r0 + 1), .ref (r0 + 2), .ref (r0 + 3), .ref (r0 + 4), .int (iI ((mA σ : Int))), .int (iI ((mB σ : Int))), .int (iI (so)), .int (iI (rn)), .ref (r0 + 5), .ref (r0 + 6), .ref (r0 + 7), .ref (r0 + 8), .ref (r0 + 9), .ref (r0 + 10), .ref (r0 + 11), .ref (r0 + 12), .ref (r0 + 13), .int (iI (co))] H → IA E (r0 + 1) 6 (fun s => (mC σ s : Int)) H → IA E (r0 + 2) 24 (ud gU (4 * k.toNat + mC σ k.toNat) 0) H → IA E (r0 + 3) 24 (ud gD (4 * k.toNat + mC σ k.toNat) 1) H → IA E (r0 + 4) 144 gX H → IA E (r0 + 5) 6 bst H → IA E (r0 + 6) 6 ch H → IA E (r0 + 7) 6 nx H → BN E r0 vs H → IA E (r0 + 11) 30 prm H → IA E (r0 + 12) 30 ow H → IA E (r0 + 13) 30 tg H → va_S (fun q => r0 ≤ q ∧ q ≤ r0 + 13) s.heap H locs → lv_has ls 4 [(0, .ref (r0)), (1, .int (iI (k))), (2, .int (iI (((4 * k.toNat + mC σ k.toNat) : Int)))), (3, .int (iI ((t : Int))))] → W p l e ({ frames := 1, cells := 0, slots := 0, locals := 21 } : Room) s m args below meth c H locs (0) (0) (MQ below (pw_Q rvI (fun z H => (¬ ((0 ≤ k ∧ k < (mN σ : Int)) ∧ mC σ k.toNat < 4) ∧ z = -1 ∧ RPO D E r0 σ rn H) ∨ ((0 ≤ k ∧ k < (mN σ : Int)) ∧ mC σ k.toNat < 4 ∧ z = (mC σ k.toNat : Int) ∧ RPO D E r0 (sAc σ k.toNat) 0 H)) (fun q => r0 ≤ q ∧ q ≤ r0 + 13)) args s (0) (0) (fun q => r0 ≤ q ∧ q ≤ r0 + 13)) (F0 m 52 ls []) := by
    intro hkin hc4 kk
    induction kk with
    | zero =>
      intro t gX H locs ls ht h0 h1 hO hC hU hDn hW hBs hCh hNx hB hP hOw hTg hS hl
      refine lv_iload_n hx hb dX10_action_52 rfl (lv_at hl 3 rfl) ?_
      refine pw_bipush hx hb dX10_action_53 ?_
      refine pw_icmp_ge (tgt := 76) hx hb dX10_action_55 (by decide) (fun c_55 => ?_) (fun c_55 => absurd c_55 (by omega))
      refine lv_aload_n hx hb dX10_action_76 rfl (lv_at hl 0 rfl) ?_
      refine pw_get (C := RX10) (T := TX10) (N := 20) hx hb hts hin10 hown hK hO rfl 2 (by decide) lk_7 rfl rfl dX10_action_77 ?_
      refine lv_iload_n hx hb dX10_action_80 rfl (lv_at hl 1 rfl) ?_
      refine lv_dup2_11 hx hb dX10_action_81 rfl rfl ?_
      refine pw_iald hx hb hK hC (k.toNat) (by omega) (by omega) (by omega) dX10_action_82 ?_
      refine pw_asi ((mC σ (k.toNat) : Int)) rfl ?_
      refine pw_iconst hx hb dX10_action_83 ?_
      refine pw_iadd hx hb dX10_action_84 ?_
      refine pw_iast hx hb hK hC hS (by (try dsimp only); omega) (k.toNat) (by omega) (by omega) (by omega) dX10_action_85 (fun H1 locs1 hnew hz1 oq hS => ?_)
      have hO := hO.k (oq _ (by omega))
      have hU := hU.k (oq _ (by omega))
      have hDn := hDn.k (oq _ (by omega))
      have hW := hW.k (oq _ (by omega))
      have hBs := hBs.k (oq _ (by omega))
      have hCh := hCh.k (oq _ (by omega))
      have hNx := hNx.k (oq _ (by omega))
      have hB := hB.k (fun q h1 h2 h3 => (oq _ (by omega)))
      have hP := hP.k (oq _ (by omega))
      have hOw := hOw.k (oq _ (by omega))
      have hTg := hTg.k (oq _ (by omega))
      have hC := hnew
      clear hnew oq hz1
      refine lv_aload_n hx hb dX10_action_86 rfl (lv_at hl 0 rfl) ?_
      refine pw_callVv (As := []) (rest := []) ⟨hx, hb, hml, hown, hts⟩ (r_change l D E r0 (σ) 0 so rn co) (cwV 0 hts gX10_action_X10_change rfl rfl rfl (by decide +kernel) ⟨Nat.le_of_ble_eq_true rfl, Nat.le_of_ble_eq_true rfl⟩) hK hO rfl hO rfl hl.1 rfl (Nat.le_of_ble_eq_true rfl) dX10_action_87 ⟨Nat.zero_le _, Nat.zero_le _⟩ hS (fun q h => by (try dsimp only at h); (try dsimp only); omega) (fun H1 locs1 hO hz1 hk1 hS => ?_)
      have hC := hC.k (hk1 _ hC.lt (by (try dsimp only); omega))
      have hU := hU.k (hk1 _ hU.lt (by (try dsimp only); omega))
      have hDn := hDn.k (hk1 _ hDn.lt (by (try dsimp only); omega))
      have hW := hW.k (hk1 _ hW.lt (by (try dsimp only); omega))
      have hBs := hBs.k (hk1 _ hBs.lt (by (try dsimp only); omega))
      have hCh := hCh.k (hk1 _ hCh.lt (by (try dsimp only); omega))
      have hNx := hNx.k (hk1 _ hNx.lt (by (try dsimp only); omega))
      have hB := hB.k (fun q h1 h2 h3 => (hk1 _ h3 (by (try dsimp only); omega)))
      have hP := hP.k (hk1 _ hP.lt (by (try dsimp only); omega))
      have hOw := hOw.k (hk1 _ hOw.lt (by (try dsimp only); omega))
      have hTg := hTg.k (hk1 _ hTg.lt (by (try dsimp only); omega))
      refine lv_aload_n hx hb dX10_action_90 rfl (lv_at hl 0 rfl) ?_
      refine pw_get (C := RX10) (T := TX10) (N := 20) hx hb hts hin10 hown hK hO rfl 2 (by decide) lk_7 rfl rfl dX10_action_91 ?_
      refine lv_iload_n hx hb dX10_action_94 rfl (lv_at hl 1 rfl) ?_
      refine pw_iald hx hb hK hC (k.toNat) (by omega) (by omega) (by omega) dX10_action_95 ?_
      refine pw_asi ((mC σ k.toNat : Int) + 1) (ud_s _ _ _) ?_
      refine pw_iconst hx hb dX10_action_96 ?_
      refine pw_isub hx hb dX10_action_97 ?_
      refine pw_asi ((mC σ k.toNat : Int)) (by omega) ?_
      have hC2 : IA E (r0 + 1) 6 (fun s => (mC (sAc σ k.toNat) s : Int)) _ := hC.to (fun q => by
        show _ = ((un (mC σ) k.toNat (mC σ k.toNat + 1) q : Nat) : Int)
        by_cases e : q = k.toNat
        · rw [e, ud_s, un_s]; omega
        · rw [ud_n _ _ e, un_n _ _ e])
      exact pw_iret hx hb hr hlocks hS (Or.inr ⟨hkin, hc4, rfl, ⟨_, _, _, _, _, _, _, _, _, _, _, _, hO, hC2, hU, hDn, hW, hBs, hCh, hNx, hB, hP, hOw, hTg, RI0 (sAc_ok hok (by omega) hc4) (mR_A hok hmR (by omega) hc4 (fun t h => h0 t (by omega)) h1)⟩⟩) dX10_action_98
    | succ kk ih =>
      intro t gX H locs ls ht h0 h1 hO hC hU hDn hW hBs hCh hNx hB hP hOw hTg hS hl
      refine lv_iload_n hx hb dX10_action_52 rfl (lv_at hl 3 rfl) ?_
      refine pw_bipush hx hb dX10_action_53 ?_
      refine pw_icmp_ge (tgt := 76) hx hb dX10_action_55 (by decide) (fun c_55 => absurd c_55 (by omega)) (fun c_55 => ?_)
      refine lv_aload_n hx hb dX10_action_58 rfl (lv_at hl 0 rfl) ?_
      refine pw_get (C := RX10) (T := TX10) (N := 20) hx hb hts hin10 hown hK hO rfl 5 (by decide) lk_19 rfl rfl dX10_action_59 ?_
      refine pw_bipush hx hb dX10_action_62 ?_
      refine lv_iload_n hx hb dX10_action_64 rfl (lv_at hl 2 rfl) ?_
      refine pw_imul hx hb dX10_action_65 ?_
      refine lv_iload_n hx hb dX10_action_66 rfl (lv_at hl 3 rfl) ?_
      refine pw_iadd hx hb dX10_action_67 ?_
      refine pw_iconst hx hb dX10_action_68 ?_
      refine pw_iast hx hb hK hW hS (by (try dsimp only); omega) (6 * (4 * k.toNat + mC σ k.toNat) + t) (by omega) (by omega) (by omega) dX10_action_69 (fun H1 locs1 hnew hz1 oq hS => ?_)
      have hO := hO.k (oq _ (by omega))
      have hC := hC.k (oq _ (by omega))
      have hU := hU.k (oq _ (by omega))
      have hDn := hDn.k (oq _ (by omega))
      have hBs := hBs.k (oq _ (by omega))
      have hCh := hCh.k (oq _ (by omega))
      have hNx := hNx.k (oq _ (by omega))
      have hB := hB.k (fun q h1 h2 h3 => (oq _ (by omega)))
      have hP := hP.k (oq _ (by omega))
      have hOw := hOw.k (oq _ (by omega))
      have hTg := hTg.k (oq _ (by omega))
      have hW := hnew
      clear hnew oq hz1
      refine lv_iinc (v := iI (((t + 1 : Nat) : Int))) (lv' := [(3, .int (iI (((t + 1 : Nat) : Int)))), (0, .ref (r0)), (1, .int (iI (k))), (2, .int (iI (((4 * k.toNat + mC σ k.toNat) : Int))))]) hx hb dX10_action_70 hl (k := 3) rfl (by show iI _ + iI _ = _; exact (iI_add _ _).trans (by first | rfl | (congr 1; omega))) (by decide) rfl (fun ls hl => ?_)
      refine lv_goto (tgt := 52) hx hb dX10_action_73 (by decide) ?_
      exact ih (t + 1) _ _ _ _ (by omega) (fun r hr => by
        by_cases e : r = t
        · rw [e, ud_s]
        · rw [ud_n _ _ (by omega)]; exact h0 r (by omega)) (fun q hq => by rw [ud_n _ _ (by omega)]; exact h1 q hq) hO hC hU hDn hW hBs hCh hNx hB hP hOw hTg hS (lv_sub hl [1, 2, 3, 0] rfl)
  refine lv_aload_n hx hb dX10_action_0 rfl (lv_at hl 0 rfl) ?_
  refine pw_iconst hx hb dX10_action_1 ?_
  refine pw_put (C := RX10) (T := TX10) (N := 20) hx hb hts hin10 tyX10 tyX10_ok nmX10 hown hK hO hS (by (try dsimp only); omega) rfl 0 (by decide) lk_56 rfl rfl rfl rfl (by show _ < 20; decide) dX10_action_2 (fun H1 locs1 hnew hz1 oq hS => ?_)
  have hC := hC.k (oq _ (by omega))
  have hU := hU.k (oq _ (by omega))
  have hDn := hDn.k (oq _ (by omega))
  have hW := hW.k (oq _ (by omega))
  have hBs := hBs.k (oq _ (by omega))
  have hCh := hCh.k (oq _ (by omega))
  have hNx := hNx.k (oq _ (by omega))
  have hB := hB.k (fun q h1 h2 h3 => (oq _ (by omega)))
  have hP := hP.k (oq _ (by omega))
  have hOw := hOw.k (oq _ (by omega))
  have hTg := hTg.k (oq _ (by omega))
  have hO : OA D (r0) 10 [.int (iI (0)), .int (iI ((mN σ : Int))), .ref (r0 + 1), .ref (r0 + 2), .ref (r0 + 3), .ref (r0 + 4), .int (iI ((mA σ : Int))), .int (iI ((mB σ : Int))), .int (iI (so)), .int (iI (rn)), .ref (r0 + 5), .ref (r0 + 6), .ref (r0 + 7), .ref (r0 + 8), .ref (r0 + 9), .ref (r0 + 10), .ref (r0 + 11), .ref (r0 + 12), .ref (r0 + 13), .int (iI (co))] H1 := hnew
  clear hnew oq hz1
  refine lv_aload_n hx hb dX10_action_5 rfl (lv_at hl 0 rfl) ?_
  refine lv_iload_n hx hb dX10_action_6 rfl (lv_at hl 1 rfl) ?_
  refine pw_callVi (As := [.int (iI (k))]) (rest := []) ⟨hx, hb, hml, hown, hts⟩ (r_isState l D E r0 σ 0 so rn co hok k k1 k2) (cwV 1 hts gX10_action_X10_isState rfl rfl rfl (by decide +kernel) ⟨Nat.le_of_ble_eq_true rfl, Nat.le_of_ble_eq_true rfl⟩) hK hO rfl hO rfl hl.1 rfl (Nat.le_of_ble_eq_true rfl) dX10_action_7 ⟨Nat.zero_le _, Nat.zero_le _⟩ hS (fun q h => h.elim) (fun z H1 locs1 hz hz1 hk1 hS => ?_)
  have hO := hO.k (hk1 _ hO.lt (fun h => h))
  have hC := hC.k (hk1 _ hC.lt (fun h => h))
  have hU := hU.k (hk1 _ hU.lt (fun h => h))
  have hDn := hDn.k (hk1 _ hDn.lt (fun h => h))
  have hW := hW.k (hk1 _ hW.lt (fun h => h))
  have hBs := hBs.k (hk1 _ hBs.lt (fun h => h))
  have hCh := hCh.k (hk1 _ hCh.lt (fun h => h))
  have hNx := hNx.k (hk1 _ hNx.lt (fun h => h))
  have hB := hB.k (fun q h1 h2 h3 => (hk1 _ h3 (fun h => h)))
  have hP := hP.k (hk1 _ hP.lt (fun h => h))
  have hOw := hOw.k (hk1 _ hOw.lt (fun h => h))
  have hTg := hTg.k (hk1 _ hTg.lt (fun h => h))
  have hz01 : 0 ≤ z ∧ z ≤ 1 := by rw [hz]; split <;> omega
  refine pw_if_eq (tgt := 23) hx hb dX10_action_10 (by decide) (fun c_10 => ?_) (fun c_10 => ?_)
  · refine pw_iconst hx hb dX10_action_23 ?_
    exact pw_iret hx hb hr hlocks hS (Or.inl ⟨(fun h => by rw [if_pos h.1] at hz; omega), rfl, ⟨_, _, _, _, _, _, _, _, _, _, _, _, hO, hC, hU, hDn, hW, hBs, hCh, hNx, hB, hP, hOw, hTg, hRI⟩⟩) dX10_action_24
  · have hkin : 0 ≤ k ∧ k < (mN σ : Int) := by
      by_cases h : 0 ≤ k ∧ k < (mN σ : Int)
      · exact h
      · rw [if_neg h] at hz; omega
    have hc4k := hC4 k.toNat (by omega)
    refine lv_aload_n hx hb dX10_action_13 rfl (lv_at hl 0 rfl) ?_
    refine pw_get (C := RX10) (T := TX10) (N := 20) hx hb hts hin10 hown hK hO rfl 2 (by decide) lk_7 rfl rfl dX10_action_14 ?_
    refine lv_iload_n hx hb dX10_action_17 rfl (lv_at hl 1 rfl) ?_
    refine pw_iald hx hb hK hC (k.toNat) (by omega) (by omega) (by omega) dX10_action_18 ?_
    refine pw_asi ((mC σ (k.toNat) : Int)) rfl ?_
    refine pw_iconst hx hb dX10_action_19 ?_
    refine pw_icmp_ne (tgt := 25) hx hb dX10_action_20 (by decide) (fun c_20 => ?_) (fun c_20 => ?_)
    · refine pw_iconst hx hb dX10_action_25 ?_
      refine lv_iload_n hx hb dX10_action_26 rfl (lv_at hl 1 rfl) ?_
      refine pw_imul hx hb dX10_action_27 ?_
      refine lv_aload_n hx hb dX10_action_28 rfl (lv_at hl 0 rfl) ?_
      refine pw_get (C := RX10) (T := TX10) (N := 20) hx hb hts hin10 hown hK hO rfl 2 (by decide) lk_7 rfl rfl dX10_action_29 ?_
      refine lv_iload_n hx hb dX10_action_32 rfl (lv_at hl 1 rfl) ?_
      refine pw_iald hx hb hK hC (k.toNat) (by omega) (by omega) (by omega) dX10_action_33 ?_
      refine pw_asi ((mC σ (k.toNat) : Int)) rfl ?_
      refine pw_iadd hx hb dX10_action_34 ?_
      refine pw_asi (((4 * k.toNat + mC σ k.toNat) : Int)) (by omega) ?_
      refine lv_istore_n (lv' := [(2, .int (iI (((4 * k.toNat + mC σ k.toNat) : Int)))), (0, .ref (r0)), (1, .int (iI (k)))]) hx hb dX10_action_35 rfl hl (by decide) rfl (fun ls hl => ?_)
      refine lv_aload_n hx hb dX10_action_36 rfl (lv_at hl 1 rfl) ?_
      refine pw_get (C := RX10) (T := TX10) (N := 20) hx hb hts hin10 hown hK hO rfl 3 (by decide) lk_13 rfl rfl dX10_action_37 ?_
      refine lv_iload_n hx hb dX10_action_40 rfl (lv_at hl 0 rfl) ?_
      refine pw_iconst hx hb dX10_action_41 ?_
      refine pw_iast hx hb hK hU hS (by (try dsimp only); omega) ((4 * k.toNat + mC σ k.toNat)) (by omega) (by omega) (by omega) dX10_action_42 (fun H1 locs1 hnew hz1 oq hS => ?_)
      have hO := hO.k (oq _ (by omega))
      have hC := hC.k (oq _ (by omega))
      have hDn := hDn.k (oq _ (by omega))
      have hW := hW.k (oq _ (by omega))
      have hBs := hBs.k (oq _ (by omega))
      have hCh := hCh.k (oq _ (by omega))
      have hNx := hNx.k (oq _ (by omega))
      have hB := hB.k (fun q h1 h2 h3 => (oq _ (by omega)))
      have hP := hP.k (oq _ (by omega))
      have hOw := hOw.k (oq _ (by omega))
      have hTg := hTg.k (oq _ (by omega))
      have hU := hnew
      clear hnew oq hz1
      refine lv_aload_n hx hb dX10_action_43 rfl (lv_at hl 1 rfl) ?_
      refine pw_get (C := RX10) (T := TX10) (N := 20) hx hb hts hin10 hown hK hO rfl 4 (by decide) lk_16 rfl rfl dX10_action_44 ?_
      refine lv_iload_n hx hb dX10_action_47 rfl (lv_at hl 0 rfl) ?_
      refine pw_iconst hx hb dX10_action_48 ?_
      refine pw_iast hx hb hK hDn hS (by (try dsimp only); omega) ((4 * k.toNat + mC σ k.toNat)) (by omega) (by omega) (by omega) dX10_action_49 (fun H1 locs1 hnew hz1 oq hS => ?_)
      have hO := hO.k (oq _ (by omega))
      have hC := hC.k (oq _ (by omega))
      have hU := hU.k (oq _ (by omega))
      have hW := hW.k (oq _ (by omega))
      have hBs := hBs.k (oq _ (by omega))
      have hCh := hCh.k (oq _ (by omega))
      have hNx := hNx.k (oq _ (by omega))
      have hB := hB.k (fun q h1 h2 h3 => (oq _ (by omega)))
      have hP := hP.k (oq _ (by omega))
      have hOw := hOw.k (oq _ (by omega))
      have hTg := hTg.k (oq _ (by omega))
      have hDn := hnew
      clear hnew oq hz1
      refine pw_iconst hx hb dX10_action_50 ?_
      refine lv_istore_n (lv' := [(3, .int (iI (0))), (2, .int (iI (((4 * k.toNat + mC σ k.toNat) : Int)))), (0, .ref (r0)), (1, .int (iI (k)))]) hx hb dX10_action_51 rfl hl (by decide) rfl (fun ls hl => ?_)
      exact loop hkin (by omega) 6 0 gW _ _ _ (by omega) (fun r hr => by omega) (fun _ _ => rfl) hO hC hU hDn hW hBs hCh hNx hB hP hOw hTg hS (lv_sub hl [2, 3, 1, 0] rfl)
    · refine pw_iconst hx hb dX10_action_23 ?_
      exact pw_iret hx hb hr hlocks hS (Or.inl ⟨(fun h => by have := h.2; omega), rfl, ⟨_, _, _, _, _, _, _, _, _, _, _, _, hO, hC, hU, hDn, hW, hBs, hCh, hNx, hB, hP, hOw, hTg, hRI⟩⟩) dX10_action_24
set_option maxHeartbeats 4000000 in
set_option maxRecDepth 100000 in
/-- reward(k, j, u, d) -/
theorem r_reward (l : Launch) (D : va_G) (E : Nat → ClassId) (r0 : Nat) (σ : MS) (rn k j u d : Int) (k1 : -2147483648 ≤ k) (k2 : k ≤ 2147483647) (j1 : -2147483648 ≤ j) (j2 : j ≤ 2147483647) (u1 : -2147483648 ≤ u) (u2 : u ≤ 2147483647) (d1 : -2147483648 ≤ d) (d2 : d ≤ 2147483647) : pw_M rvI l D E yX10_reward wsX10_reward ({ frames := 2, cells := 0, slots := 0, locals := 43 } : Room) [.ref (r0), .int (iI (k)), .int (iI (j)), .int (iI (u)), .int (iI (d))] (fun H => RPO D E r0 σ rn H) (fun z H => (¬ ((0 ≤ k ∧ k < (mN σ : Int) ∧ 0 ≤ j ∧ j < (mC σ k.toNat : Int)) ∧ (-1000 ≤ u ∧ u ≤ 1000 ∧ 1 ≤ d ∧ d ≤ 20)) ∧ z = 0 ∧ RPO D E r0 σ rn H) ∨ ((0 ≤ k ∧ k < (mN σ : Int) ∧ 0 ≤ j ∧ j < (mC σ k.toNat : Int)) ∧ (-1000 ≤ u ∧ u ≤ 1000 ∧ 1 ≤ d ∧ d ≤ 20) ∧ z = 1 ∧ RPO D E r0 (sRw σ (4 * k.toNat + j.toNat) u d.toNat) 0 H)) (fun q => r0 ≤ q ∧ q ≤ r0 + 13) (0) (0) := by
  refine pw_of (cc := cX10_reward) (maxL := 5) (ret := (some .boolean)) (by decide +kernel) rfl (Nat.le_of_ble_eq_true rfl) ?_
  intro p e s m args below meth c hx hb hr hml hts hown hlocks hini hK ⟨th, so, co, bst, ch, nx, vs, ow, tg, gU, gD, gW, hO, hC, hU, hDn, hW, hBs, hCh, hNx, hB, hP, hOw, hTg, hRI⟩ ls hl
  have hown : s.vm.findClass RX10 = some m.cls := hown
  have hl : lv_has ls 5 [(0, .ref (r0)), (1, .int (iI (k))), (2, .int (iI (j))), (3, .int (iI (u))), (4, .int (iI (d)))] := hl
  have hS : va_S (fun q => r0 ≤ q ∧ q ≤ r0 + 13) s.heap s.heap [] := va_S.rf
  have lk_13 := hts (.fieldLink RX10 13 "PolicyWorksModel" "ups" "[I") (by decide +kernel)
  have lk_16 := hts (.fieldLink RX10 16 "PolicyWorksModel" "downs" "[I") (by decide +kernel)
  have lk_56 := hts (.fieldLink RX10 56 "PolicyWorksModel" "thrown" "I") (by decide +kernel)
  have kc_117 := hts (.constantLong RX10 117 (-1000)) (by decide +kernel)
  have kc_119 := hts (.constantLong RX10 119 (1000)) (by decide +kernel)
  have kc_125 := hts (.constantLong RX10 125 (20)) (by decide +kernel)
  have hin10 : ∀ w ∈ wsX100, w ∈ wsX10_reward := by decide +kernel
  have hok := hRI.1
  have hmR := hRI.2.1
  have hN6 := hok.1
  have hC4 := hok.2.1
  refine lv_aload_n hx hb dX10_reward_0 rfl (lv_at hl 0 rfl) ?_
  refine pw_iconst hx hb dX10_reward_1 ?_
  refine pw_put (C := RX10) (T := TX10) (N := 20) hx hb hts hin10 tyX10 tyX10_ok nmX10 hown hK hO hS (by (try dsimp only); omega) rfl 0 (by decide) lk_56 rfl rfl rfl rfl (by show _ < 20; decide) dX10_reward_2 (fun H1 locs1 hnew hz1 oq hS => ?_)
  have hC := hC.k (oq _ (by omega))
  have hU := hU.k (oq _ (by omega))
  have hDn := hDn.k (oq _ (by omega))
  have hW := hW.k (oq _ (by omega))
  have hBs := hBs.k (oq _ (by omega))
  have hCh := hCh.k (oq _ (by omega))
  have hNx := hNx.k (oq _ (by omega))
  have hB := hB.k (fun q h1 h2 h3 => (oq _ (by omega)))
  have hP := hP.k (oq _ (by omega))
  have hOw := hOw.k (oq _ (by omega))
  have hTg := hTg.k (oq _ (by omega))
  have hO : OA D (r0) 10 [.int (iI (0)), .int (iI ((mN σ : Int))), .ref (r0 + 1), .ref (r0 + 2), .ref (r0 + 3), .ref (r0 + 4), .int (iI ((mA σ : Int))), .int (iI ((mB σ : Int))), .int (iI (so)), .int (iI (rn)), .ref (r0 + 5), .ref (r0 + 6), .ref (r0 + 7), .ref (r0 + 8), .ref (r0 + 9), .ref (r0 + 10), .ref (r0 + 11), .ref (r0 + 12), .ref (r0 + 13), .int (iI (co))] H1 := hnew
  clear hnew oq hz1
  refine lv_aload_n hx hb dX10_reward_5 rfl (lv_at hl 0 rfl) ?_
  refine lv_iload_n hx hb dX10_reward_6 rfl (lv_at hl 1 rfl) ?_
  refine lv_iload_n hx hb dX10_reward_7 rfl (lv_at hl 2 rfl) ?_
  refine pw_callVi (As := [.int (iI (k)), .int (iI (j))]) (rest := []) ⟨hx, hb, hml, hown, hts⟩ (r_isAction l D E r0 σ 0 so rn co hok k j k1 k2 j1 j2) (cwV 2 hts gX10_reward_X10_isAction rfl rfl rfl (by decide +kernel) ⟨Nat.le_of_ble_eq_true rfl, Nat.le_of_ble_eq_true rfl⟩) hK hO rfl ⟨hO, hC⟩ rfl hl.1 rfl (Nat.le_of_ble_eq_true rfl) dX10_reward_8 ⟨Nat.zero_le _, Nat.zero_le _⟩ hS (fun q h => h.elim) (fun z H1 locs1 ⟨hz01, hzi⟩ hz1 hk1 hS => ?_)
  have hO := hO.k (hk1 _ hO.lt (fun h => h))
  have hC := hC.k (hk1 _ hC.lt (fun h => h))
  have hU := hU.k (hk1 _ hU.lt (fun h => h))
  have hDn := hDn.k (hk1 _ hDn.lt (fun h => h))
  have hW := hW.k (hk1 _ hW.lt (fun h => h))
  have hBs := hBs.k (hk1 _ hBs.lt (fun h => h))
  have hCh := hCh.k (hk1 _ hCh.lt (fun h => h))
  have hNx := hNx.k (hk1 _ hNx.lt (fun h => h))
  have hB := hB.k (fun q h1 h2 h3 => (hk1 _ h3 (fun h => h)))
  have hP := hP.k (hk1 _ hP.lt (fun h => h))
  have hOw := hOw.k (hk1 _ hOw.lt (fun h => h))
  have hTg := hTg.k (hk1 _ hTg.lt (fun h => h))
  refine pw_if_eq (tgt := 41) hx hb dX10_reward_11 (by decide) (fun c_11 => ?_) (fun c_11 => ?_)
  · refine pw_iconst hx hb dX10_reward_41 ?_
    exact pw_zret hx hb hr hlocks hS (by omega) (Or.inl ⟨(fun h => by have := hzi.mpr h.1; omega), rfl, ⟨_, _, _, _, _, _, _, _, _, _, _, _, hO, hC, hU, hDn, hW, hBs, hCh, hNx, hB, hP, hOw, hTg, hRI⟩⟩) dX10_reward_42
  · have hin := hzi.mp (by omega)
    have hc4k := hC4 k.toNat (by omega)
    refine lv_iload_n hx hb dX10_reward_14 rfl (lv_at hl 3 rfl) ?_
    refine pw_i2l hx hb dX10_reward_15 ?_
    refine pw_ldc2 (z := -1000) hx hb hown kc_117 (by decide +kernel) dX10_reward_16 ?_
    refine pw_ldc2 (z := 1000) hx hb hown kc_119 (by decide +kernel) dX10_reward_19 ?_
    refine pw_callSi (As := [.long (lI (u)), .long (lI (-1000)), .long (lI (1000))]) (rest := []) ⟨hx, hb, hml, hown, hts⟩ (r_in l D E u (-1000) (1000) (by omega) (by omega) (by omega) (by omega) (by omega) (by omega)) (va_cwS 3 hts gX10_reward_X10_in rfl rfl rfl (by decide +kernel) ⟨Nat.le_of_ble_eq_true rfl, Nat.le_of_ble_eq_true rfl⟩) hK trivial rfl hl.1 rfl (Nat.le_of_ble_eq_true rfl) dX10_reward_22 ⟨Nat.zero_le _, Nat.zero_le _⟩ hS (fun q h => h.elim) (fun z1 H1 locs1 hr1 hz1 hk1 hS => ?_)
    have hO := hO.k (hk1 _ hO.lt (fun h => h))
    have hC := hC.k (hk1 _ hC.lt (fun h => h))
    have hU := hU.k (hk1 _ hU.lt (fun h => h))
    have hDn := hDn.k (hk1 _ hDn.lt (fun h => h))
    have hW := hW.k (hk1 _ hW.lt (fun h => h))
    have hBs := hBs.k (hk1 _ hBs.lt (fun h => h))
    have hCh := hCh.k (hk1 _ hCh.lt (fun h => h))
    have hNx := hNx.k (hk1 _ hNx.lt (fun h => h))
    have hB := hB.k (fun q h1 h2 h3 => (hk1 _ h3 (fun h => h)))
    have hP := hP.k (hk1 _ hP.lt (fun h => h))
    have hOw := hOw.k (hk1 _ hOw.lt (fun h => h))
    have hTg := hTg.k (hk1 _ hTg.lt (fun h => h))
    have hb1 : 0 ≤ z1 ∧ z1 ≤ 1 := by rw [hr1]; split <;> omega
    have hi1 : z1 = 1 ↔ (-1000) ≤ u ∧ u ≤ 1000 := by rw [hr1]; split <;> omega
    refine pw_if_eq (tgt := 41) hx hb dX10_reward_25 (by decide) (fun c_25 => ?_) (fun c_25 => ?_)
    · refine pw_iconst hx hb dX10_reward_41 ?_
      exact pw_zret hx hb hr hlocks hS (by omega) (Or.inl ⟨(fun h => by have := hi1.mpr ⟨h.2.1, h.2.2.1⟩; omega), rfl, ⟨_, _, _, _, _, _, _, _, _, _, _, _, hO, hC, hU, hDn, hW, hBs, hCh, hNx, hB, hP, hOw, hTg, hRI⟩⟩) dX10_reward_42
    · have hu1 := hi1.mp (by omega)
      refine lv_iload hx hb dX10_reward_28 (lv_at hl 4 rfl) ?_
      refine pw_i2l hx hb dX10_reward_30 ?_
      refine pw_lconst (z := 1) hx hb dX10_reward_31 ?_
      refine pw_ldc2 (z := 20) hx hb hown kc_125 (by decide +kernel) dX10_reward_32 ?_
      refine pw_callSi (As := [.long (lI (d)), .long (lI (1)), .long (lI (20))]) (rest := []) ⟨hx, hb, hml, hown, hts⟩ (r_in l D E d (1) (20) (by omega) (by omega) (by omega) (by omega) (by omega) (by omega)) (va_cwS 3 hts gX10_reward_X10_in rfl rfl rfl (by decide +kernel) ⟨Nat.le_of_ble_eq_true rfl, Nat.le_of_ble_eq_true rfl⟩) hK trivial rfl hl.1 rfl (Nat.le_of_ble_eq_true rfl) dX10_reward_35 ⟨Nat.zero_le _, Nat.zero_le _⟩ hS (fun q h => h.elim) (fun z2 H1 locs1 hr2 hz1 hk1 hS => ?_)
      have hO := hO.k (hk1 _ hO.lt (fun h => h))
      have hC := hC.k (hk1 _ hC.lt (fun h => h))
      have hU := hU.k (hk1 _ hU.lt (fun h => h))
      have hDn := hDn.k (hk1 _ hDn.lt (fun h => h))
      have hW := hW.k (hk1 _ hW.lt (fun h => h))
      have hBs := hBs.k (hk1 _ hBs.lt (fun h => h))
      have hCh := hCh.k (hk1 _ hCh.lt (fun h => h))
      have hNx := hNx.k (hk1 _ hNx.lt (fun h => h))
      have hB := hB.k (fun q h1 h2 h3 => (hk1 _ h3 (fun h => h)))
      have hP := hP.k (hk1 _ hP.lt (fun h => h))
      have hOw := hOw.k (hk1 _ hOw.lt (fun h => h))
      have hTg := hTg.k (hk1 _ hTg.lt (fun h => h))
      have hb2 : 0 ≤ z2 ∧ z2 ≤ 1 := by rw [hr2]; split <;> omega
      have hi2 : z2 = 1 ↔ (1) ≤ d ∧ d ≤ 20 := by rw [hr2]; split <;> omega
      refine pw_if_ne (tgt := 43) hx hb dX10_reward_38 (by decide) (fun c_38 => ?_) (fun c_38 => ?_)
      · have hd1 := hi2.mp (by omega)
        refine lv_aload_n hx hb dX10_reward_43 rfl (lv_at hl 0 rfl) ?_
        refine pw_get (C := RX10) (T := TX10) (N := 20) hx hb hts hin10 hown hK hO rfl 3 (by decide) lk_13 rfl rfl dX10_reward_44 ?_
        refine pw_iconst hx hb dX10_reward_47 ?_
        refine lv_iload_n hx hb dX10_reward_48 rfl (lv_at hl 1 rfl) ?_
        refine pw_imul hx hb dX10_reward_49 ?_
        refine lv_iload_n hx hb dX10_reward_50 rfl (lv_at hl 2 rfl) ?_
        refine pw_iadd hx hb dX10_reward_51 ?_
        refine lv_iload_n hx hb dX10_reward_52 rfl (lv_at hl 3 rfl) ?_
        refine pw_iast hx hb hK hU hS (by (try dsimp only); omega) ((4 * k.toNat + j.toNat)) (by omega) (by omega) (by omega) dX10_reward_53 (fun H1 locs1 hnew hz1 oq hS => ?_)
        have hO := hO.k (oq _ (by omega))
        have hC := hC.k (oq _ (by omega))
        have hDn := hDn.k (oq _ (by omega))
        have hW := hW.k (oq _ (by omega))
        have hBs := hBs.k (oq _ (by omega))
        have hCh := hCh.k (oq _ (by omega))
        have hNx := hNx.k (oq _ (by omega))
        have hB := hB.k (fun q h1 h2 h3 => (oq _ (by omega)))
        have hP := hP.k (oq _ (by omega))
        have hOw := hOw.k (oq _ (by omega))
        have hTg := hTg.k (oq _ (by omega))
        have hU := hnew
        clear hnew oq hz1
        refine lv_aload_n hx hb dX10_reward_54 rfl (lv_at hl 0 rfl) ?_
        refine pw_get (C := RX10) (T := TX10) (N := 20) hx hb hts hin10 hown hK hO rfl 4 (by decide) lk_16 rfl rfl dX10_reward_55 ?_
        refine pw_iconst hx hb dX10_reward_58 ?_
        refine lv_iload_n hx hb dX10_reward_59 rfl (lv_at hl 1 rfl) ?_
        refine pw_imul hx hb dX10_reward_60 ?_
        refine lv_iload_n hx hb dX10_reward_61 rfl (lv_at hl 2 rfl) ?_
        refine pw_iadd hx hb dX10_reward_62 ?_
        refine lv_iload hx hb dX10_reward_63 (lv_at hl 4 rfl) ?_
        refine pw_asi ((d.toNat : Int)) (by omega) ?_
        refine pw_iast hx hb hK hDn hS (by (try dsimp only); omega) ((4 * k.toNat + j.toNat)) (by omega) (by omega) (by omega) dX10_reward_65 (fun H1 locs1 hnew hz1 oq hS => ?_)
        have hO := hO.k (oq _ (by omega))
        have hC := hC.k (oq _ (by omega))
        have hU := hU.k (oq _ (by omega))
        have hW := hW.k (oq _ (by omega))
        have hBs := hBs.k (oq _ (by omega))
        have hCh := hCh.k (oq _ (by omega))
        have hNx := hNx.k (oq _ (by omega))
        have hB := hB.k (fun q h1 h2 h3 => (oq _ (by omega)))
        have hP := hP.k (oq _ (by omega))
        have hOw := hOw.k (oq _ (by omega))
        have hTg := hTg.k (oq _ (by omega))
        have hDn := hnew
        clear hnew oq hz1
        refine lv_aload_n hx hb dX10_reward_66 rfl (lv_at hl 0 rfl) ?_
        refine pw_callVv (As := []) (rest := []) ⟨hx, hb, hml, hown, hts⟩ (r_change l D E r0 (σ) 0 so rn co) (cwV 0 hts gX10_reward_X10_change rfl rfl rfl (by decide +kernel) ⟨Nat.le_of_ble_eq_true rfl, Nat.le_of_ble_eq_true rfl⟩) hK hO rfl hO rfl hl.1 rfl (Nat.le_of_ble_eq_true rfl) dX10_reward_67 ⟨Nat.zero_le _, Nat.zero_le _⟩ hS (fun q h => by (try dsimp only at h); (try dsimp only); omega) (fun H1 locs1 hO hz1 hk1 hS => ?_)
        have hC := hC.k (hk1 _ hC.lt (by (try dsimp only); omega))
        have hU := hU.k (hk1 _ hU.lt (by (try dsimp only); omega))
        have hDn := hDn.k (hk1 _ hDn.lt (by (try dsimp only); omega))
        have hW := hW.k (hk1 _ hW.lt (by (try dsimp only); omega))
        have hBs := hBs.k (hk1 _ hBs.lt (by (try dsimp only); omega))
        have hCh := hCh.k (hk1 _ hCh.lt (by (try dsimp only); omega))
        have hNx := hNx.k (hk1 _ hNx.lt (by (try dsimp only); omega))
        have hB := hB.k (fun q h1 h2 h3 => (hk1 _ h3 (by (try dsimp only); omega)))
        have hP := hP.k (hk1 _ hP.lt (by (try dsimp only); omega))
        have hOw := hOw.k (hk1 _ hOw.lt (by (try dsimp only); omega))
        have hTg := hTg.k (hk1 _ hTg.lt (by (try dsimp only); omega))
        refine pw_iconst hx hb dX10_reward_70 ?_
        exact pw_zret hx hb hr hlocks hS (by omega) (Or.inr ⟨hin, ⟨hu1.1, hu1.2, hd1.1, hd1.2⟩, rfl, ⟨_, _, _, _, _, _, _, _, _, _, _, _, hO, hC, hU, hDn, hW, hBs, hCh, hNx, hB, hP, hOw, hTg, RI0 (sRw_ok hok (by omega) (by omega) (by omega) (by omega) (by omega) (by omega)) (mR_R hmR)⟩⟩) dX10_reward_71
      · refine pw_iconst hx hb dX10_reward_41 ?_
        exact pw_zret hx hb hr hlocks hS (by omega) (Or.inl ⟨(fun h => by have := hi2.mpr ⟨h.2.2.2.1, h.2.2.2.2⟩; omega), rfl, ⟨_, _, _, _, _, _, _, _, _, _, _, _, hO, hC, hU, hDn, hW, hBs, hCh, hNx, hB, hP, hOw, hTg, hRI⟩⟩) dX10_reward_42
set_option maxHeartbeats 4000000 in
set_option maxRecDepth 100000 in
/-- move(k, j, t, x) -/
theorem r_move (l : Launch) (D : va_G) (E : Nat → ClassId) (r0 : Nat) (σ : MS) (rn k j t x : Int) (k1 : -2147483648 ≤ k) (k2 : k ≤ 2147483647) (j1 : -2147483648 ≤ j) (j2 : j ≤ 2147483647) (t1 : -2147483648 ≤ t) (t2 : t ≤ 2147483647) (x1 : -2147483648 ≤ x) (x2 : x ≤ 2147483647) : pw_M rvI l D E yX10_move wsX10_move ({ frames := 2, cells := 0, slots := 0, locals := 43 } : Room) [.ref (r0), .int (iI (k)), .int (iI (j)), .int (iI (t)), .int (iI (x))] (fun H => RPO D E r0 σ rn H) (fun z H => (¬ ((0 ≤ k ∧ k < (mN σ : Int) ∧ 0 ≤ j ∧ j < (mC σ k.toNat : Int)) ∧ (0 ≤ t ∧ t < (mN σ : Int)) ∧ 0 ≤ x ∧ x ≤ 20) ∧ z = 0 ∧ RPO D E r0 σ rn H) ∨ ((0 ≤ k ∧ k < (mN σ : Int) ∧ 0 ≤ j ∧ j < (mC σ k.toNat : Int)) ∧ (0 ≤ t ∧ t < (mN σ : Int)) ∧ (0 ≤ x ∧ x ≤ 20) ∧ z = 1 ∧ RPO D E r0 (sMv σ (4 * k.toNat + j.toNat) t.toNat x.toNat) 0 H)) (fun q => r0 ≤ q ∧ q ≤ r0 + 13) (0) (0) := by
  refine pw_of (cc := cX10_move) (maxL := 5) (ret := (some .boolean)) (by decide +kernel) rfl (Nat.le_of_ble_eq_true rfl) ?_
  intro p e s m args below meth c hx hb hr hml hts hown hlocks hini hK ⟨th, so, co, bst, ch, nx, vs, ow, tg, gU, gD, gW, hO, hC, hU, hDn, hW, hBs, hCh, hNx, hB, hP, hOw, hTg, hRI⟩ ls hl
  have hown : s.vm.findClass RX10 = some m.cls := hown
  have hl : lv_has ls 5 [(0, .ref (r0)), (1, .int (iI (k))), (2, .int (iI (j))), (3, .int (iI (t))), (4, .int (iI (x)))] := hl
  have hS : va_S (fun q => r0 ≤ q ∧ q ≤ r0 + 13) s.heap s.heap [] := va_S.rf
  have lk_19 := hts (.fieldLink RX10 19 "PolicyWorksModel" "weights" "[I") (by decide +kernel)
  have lk_56 := hts (.fieldLink RX10 56 "PolicyWorksModel" "thrown" "I") (by decide +kernel)
  have kc_125 := hts (.constantLong RX10 125 (20)) (by decide +kernel)
  have hin10 : ∀ w ∈ wsX100, w ∈ wsX10_move := by decide +kernel
  have hok := hRI.1
  have hmR := hRI.2.1
  have hN6 := hok.1
  have hC4 := hok.2.1
  refine lv_aload_n hx hb dX10_move_0 rfl (lv_at hl 0 rfl) ?_
  refine pw_iconst hx hb dX10_move_1 ?_
  refine pw_put (C := RX10) (T := TX10) (N := 20) hx hb hts hin10 tyX10 tyX10_ok nmX10 hown hK hO hS (by (try dsimp only); omega) rfl 0 (by decide) lk_56 rfl rfl rfl rfl (by show _ < 20; decide) dX10_move_2 (fun H1 locs1 hnew hz1 oq hS => ?_)
  have hC := hC.k (oq _ (by omega))
  have hU := hU.k (oq _ (by omega))
  have hDn := hDn.k (oq _ (by omega))
  have hW := hW.k (oq _ (by omega))
  have hBs := hBs.k (oq _ (by omega))
  have hCh := hCh.k (oq _ (by omega))
  have hNx := hNx.k (oq _ (by omega))
  have hB := hB.k (fun q h1 h2 h3 => (oq _ (by omega)))
  have hP := hP.k (oq _ (by omega))
  have hOw := hOw.k (oq _ (by omega))
  have hTg := hTg.k (oq _ (by omega))
  have hO : OA D (r0) 10 [.int (iI (0)), .int (iI ((mN σ : Int))), .ref (r0 + 1), .ref (r0 + 2), .ref (r0 + 3), .ref (r0 + 4), .int (iI ((mA σ : Int))), .int (iI ((mB σ : Int))), .int (iI (so)), .int (iI (rn)), .ref (r0 + 5), .ref (r0 + 6), .ref (r0 + 7), .ref (r0 + 8), .ref (r0 + 9), .ref (r0 + 10), .ref (r0 + 11), .ref (r0 + 12), .ref (r0 + 13), .int (iI (co))] H1 := hnew
  clear hnew oq hz1
  refine lv_aload_n hx hb dX10_move_5 rfl (lv_at hl 0 rfl) ?_
  refine lv_iload_n hx hb dX10_move_6 rfl (lv_at hl 1 rfl) ?_
  refine lv_iload_n hx hb dX10_move_7 rfl (lv_at hl 2 rfl) ?_
  refine pw_callVi (As := [.int (iI (k)), .int (iI (j))]) (rest := []) ⟨hx, hb, hml, hown, hts⟩ (r_isAction l D E r0 σ 0 so rn co hok k j k1 k2 j1 j2) (cwV 2 hts gX10_move_X10_isAction rfl rfl rfl (by decide +kernel) ⟨Nat.le_of_ble_eq_true rfl, Nat.le_of_ble_eq_true rfl⟩) hK hO rfl ⟨hO, hC⟩ rfl hl.1 rfl (Nat.le_of_ble_eq_true rfl) dX10_move_8 ⟨Nat.zero_le _, Nat.zero_le _⟩ hS (fun q h => h.elim) (fun z H1 locs1 ⟨hz01, hzi⟩ hz1 hk1 hS => ?_)
  have hO := hO.k (hk1 _ hO.lt (fun h => h))
  have hC := hC.k (hk1 _ hC.lt (fun h => h))
  have hU := hU.k (hk1 _ hU.lt (fun h => h))
  have hDn := hDn.k (hk1 _ hDn.lt (fun h => h))
  have hW := hW.k (hk1 _ hW.lt (fun h => h))
  have hBs := hBs.k (hk1 _ hBs.lt (fun h => h))
  have hCh := hCh.k (hk1 _ hCh.lt (fun h => h))
  have hNx := hNx.k (hk1 _ hNx.lt (fun h => h))
  have hB := hB.k (fun q h1 h2 h3 => (hk1 _ h3 (fun h => h)))
  have hP := hP.k (hk1 _ hP.lt (fun h => h))
  have hOw := hOw.k (hk1 _ hOw.lt (fun h => h))
  have hTg := hTg.k (hk1 _ hTg.lt (fun h => h))
  refine pw_if_eq (tgt := 35) hx hb dX10_move_11 (by decide) (fun c_11 => ?_) (fun c_11 => ?_)
  · refine pw_iconst hx hb dX10_move_35 ?_
    exact pw_zret hx hb hr hlocks hS (by omega) (Or.inl ⟨(fun h => by have := hzi.mpr h.1; omega), rfl, ⟨_, _, _, _, _, _, _, _, _, _, _, _, hO, hC, hU, hDn, hW, hBs, hCh, hNx, hB, hP, hOw, hTg, hRI⟩⟩) dX10_move_36
  · have hin := hzi.mp (by omega)
    have hc4k := hC4 k.toNat (by omega)
    refine lv_aload_n hx hb dX10_move_14 rfl (lv_at hl 0 rfl) ?_
    refine lv_iload_n hx hb dX10_move_15 rfl (lv_at hl 3 rfl) ?_
    refine pw_callVi (As := [.int (iI (t))]) (rest := []) ⟨hx, hb, hml, hown, hts⟩ (r_isState l D E r0 σ 0 so rn co hok t t1 t2) (cwV 1 hts gX10_move_X10_isState rfl rfl rfl (by decide +kernel) ⟨Nat.le_of_ble_eq_true rfl, Nat.le_of_ble_eq_true rfl⟩) hK hO rfl hO rfl hl.1 rfl (Nat.le_of_ble_eq_true rfl) dX10_move_16 ⟨Nat.zero_le _, Nat.zero_le _⟩ hS (fun q h => h.elim) (fun z H1 locs1 hz hz1 hk1 hS => ?_)
    have hO := hO.k (hk1 _ hO.lt (fun h => h))
    have hC := hC.k (hk1 _ hC.lt (fun h => h))
    have hU := hU.k (hk1 _ hU.lt (fun h => h))
    have hDn := hDn.k (hk1 _ hDn.lt (fun h => h))
    have hW := hW.k (hk1 _ hW.lt (fun h => h))
    have hBs := hBs.k (hk1 _ hBs.lt (fun h => h))
    have hCh := hCh.k (hk1 _ hCh.lt (fun h => h))
    have hNx := hNx.k (hk1 _ hNx.lt (fun h => h))
    have hB := hB.k (fun q h1 h2 h3 => (hk1 _ h3 (fun h => h)))
    have hP := hP.k (hk1 _ hP.lt (fun h => h))
    have hOw := hOw.k (hk1 _ hOw.lt (fun h => h))
    have hTg := hTg.k (hk1 _ hTg.lt (fun h => h))
    have hz01 : 0 ≤ z ∧ z ≤ 1 := by rw [hz]; split <;> omega
    refine pw_if_eq (tgt := 35) hx hb dX10_move_19 (by decide) (fun c_19 => ?_) (fun c_19 => ?_)
    · refine pw_iconst hx hb dX10_move_35 ?_
      exact pw_zret hx hb hr hlocks hS (by omega) (Or.inl ⟨(fun h => by rw [if_pos h.2.1] at hz; omega), rfl, ⟨_, _, _, _, _, _, _, _, _, _, _, _, hO, hC, hU, hDn, hW, hBs, hCh, hNx, hB, hP, hOw, hTg, hRI⟩⟩) dX10_move_36
    · have htin : 0 ≤ t ∧ t < (mN σ : Int) := by
        by_cases h : 0 ≤ t ∧ t < (mN σ : Int)
        · exact h
        · rw [if_neg h] at hz; omega
      refine lv_iload hx hb dX10_move_22 (lv_at hl 4 rfl) ?_
      refine pw_i2l hx hb dX10_move_24 ?_
      refine pw_lconst (z := 0) hx hb dX10_move_25 ?_
      refine pw_ldc2 (z := 20) hx hb hown kc_125 (by decide +kernel) dX10_move_26 ?_
      refine pw_callSi (As := [.long (lI (x)), .long (lI (0)), .long (lI (20))]) (rest := []) ⟨hx, hb, hml, hown, hts⟩ (r_in l D E x (0) (20) (by omega) (by omega) (by omega) (by omega) (by omega) (by omega)) (va_cwS 3 hts gX10_move_X10_in rfl rfl rfl (by decide +kernel) ⟨Nat.le_of_ble_eq_true rfl, Nat.le_of_ble_eq_true rfl⟩) hK trivial rfl hl.1 rfl (Nat.le_of_ble_eq_true rfl) dX10_move_29 ⟨Nat.zero_le _, Nat.zero_le _⟩ hS (fun q h => h.elim) (fun z2 H1 locs1 hr2 hz1 hk1 hS => ?_)
      have hO := hO.k (hk1 _ hO.lt (fun h => h))
      have hC := hC.k (hk1 _ hC.lt (fun h => h))
      have hU := hU.k (hk1 _ hU.lt (fun h => h))
      have hDn := hDn.k (hk1 _ hDn.lt (fun h => h))
      have hW := hW.k (hk1 _ hW.lt (fun h => h))
      have hBs := hBs.k (hk1 _ hBs.lt (fun h => h))
      have hCh := hCh.k (hk1 _ hCh.lt (fun h => h))
      have hNx := hNx.k (hk1 _ hNx.lt (fun h => h))
      have hB := hB.k (fun q h1 h2 h3 => (hk1 _ h3 (fun h => h)))
      have hP := hP.k (hk1 _ hP.lt (fun h => h))
      have hOw := hOw.k (hk1 _ hOw.lt (fun h => h))
      have hTg := hTg.k (hk1 _ hTg.lt (fun h => h))
      have hb2 : 0 ≤ z2 ∧ z2 ≤ 1 := by rw [hr2]; split <;> omega
      have hi2 : z2 = 1 ↔ (0) ≤ x ∧ x ≤ 20 := by rw [hr2]; split <;> omega
      refine pw_if_ne (tgt := 37) hx hb dX10_move_32 (by decide) (fun c_32 => ?_) (fun c_32 => ?_)
      · have hd1 := hi2.mp (by omega)
        refine lv_aload_n hx hb dX10_move_37 rfl (lv_at hl 0 rfl) ?_
        refine pw_get (C := RX10) (T := TX10) (N := 20) hx hb hts hin10 hown hK hO rfl 5 (by decide) lk_19 rfl rfl dX10_move_38 ?_
        refine pw_bipush hx hb dX10_move_41 ?_
        refine pw_iconst hx hb dX10_move_43 ?_
        refine lv_iload_n hx hb dX10_move_44 rfl (lv_at hl 1 rfl) ?_
        refine pw_imul hx hb dX10_move_45 ?_
        refine lv_iload_n hx hb dX10_move_46 rfl (lv_at hl 2 rfl) ?_
        refine pw_iadd hx hb dX10_move_47 ?_
        refine pw_imul hx hb dX10_move_48 ?_
        refine lv_iload_n hx hb dX10_move_49 rfl (lv_at hl 3 rfl) ?_
        refine pw_iadd hx hb dX10_move_50 ?_
        refine lv_iload hx hb dX10_move_51 (lv_at hl 4 rfl) ?_
        refine pw_asi ((x.toNat : Int)) (by omega) ?_
        refine pw_iast hx hb hK hW hS (by (try dsimp only); omega) (6 * (4 * k.toNat + j.toNat) + t.toNat) (by omega) (by omega) (by omega) dX10_move_53 (fun H1 locs1 hnew hz1 oq hS => ?_)
        have hO := hO.k (oq _ (by omega))
        have hC := hC.k (oq _ (by omega))
        have hU := hU.k (oq _ (by omega))
        have hDn := hDn.k (oq _ (by omega))
        have hBs := hBs.k (oq _ (by omega))
        have hCh := hCh.k (oq _ (by omega))
        have hNx := hNx.k (oq _ (by omega))
        have hB := hB.k (fun q h1 h2 h3 => (oq _ (by omega)))
        have hP := hP.k (oq _ (by omega))
        have hOw := hOw.k (oq _ (by omega))
        have hTg := hTg.k (oq _ (by omega))
        have hW := hnew
        clear hnew oq hz1
        refine lv_aload_n hx hb dX10_move_54 rfl (lv_at hl 0 rfl) ?_
        refine pw_callVv (As := []) (rest := []) ⟨hx, hb, hml, hown, hts⟩ (r_change l D E r0 (σ) 0 so rn co) (cwV 0 hts gX10_move_X10_change rfl rfl rfl (by decide +kernel) ⟨Nat.le_of_ble_eq_true rfl, Nat.le_of_ble_eq_true rfl⟩) hK hO rfl hO rfl hl.1 rfl (Nat.le_of_ble_eq_true rfl) dX10_move_55 ⟨Nat.zero_le _, Nat.zero_le _⟩ hS (fun q h => by (try dsimp only at h); (try dsimp only); omega) (fun H1 locs1 hO hz1 hk1 hS => ?_)
        have hC := hC.k (hk1 _ hC.lt (by (try dsimp only); omega))
        have hU := hU.k (hk1 _ hU.lt (by (try dsimp only); omega))
        have hDn := hDn.k (hk1 _ hDn.lt (by (try dsimp only); omega))
        have hW := hW.k (hk1 _ hW.lt (by (try dsimp only); omega))
        have hBs := hBs.k (hk1 _ hBs.lt (by (try dsimp only); omega))
        have hCh := hCh.k (hk1 _ hCh.lt (by (try dsimp only); omega))
        have hNx := hNx.k (hk1 _ hNx.lt (by (try dsimp only); omega))
        have hB := hB.k (fun q h1 h2 h3 => (hk1 _ h3 (by (try dsimp only); omega)))
        have hP := hP.k (hk1 _ hP.lt (by (try dsimp only); omega))
        have hOw := hOw.k (hk1 _ hOw.lt (by (try dsimp only); omega))
        have hTg := hTg.k (hk1 _ hTg.lt (by (try dsimp only); omega))
        refine pw_iconst hx hb dX10_move_58 ?_
        exact pw_zret hx hb hr hlocks hS (by omega) (Or.inr ⟨hin, htin, hd1, rfl, ⟨_, _, _, _, _, _, _, _, _, _, _, _, hO, hC, hU, hDn, hW, hBs, hCh, hNx, hB, hP, hOw, hTg, RI0 (sMv_ok hok (by omega) (by omega) (by omega) (by omega)) (mR_M (by omega) hmR)⟩⟩) dX10_move_59
      · refine pw_iconst hx hb dX10_move_35 ?_
        exact pw_zret hx hb hr hlocks hS (by omega) (Or.inl ⟨(fun h => by have := hi2.mpr h.2.2; omega), rfl, ⟨_, _, _, _, _, _, _, _, _, _, _, _, hO, hC, hU, hDn, hW, hBs, hCh, hNx, hB, hP, hOw, hTg, hRI⟩⟩) dX10_move_36
