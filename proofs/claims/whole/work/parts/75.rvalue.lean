/-! the reference: value, gain, worth -/
theorem RI.vs {σ : MS} {rn so : Int} {bst vs vs' gU gD gW : Nat → Int} (h : RI σ rn so bst vs gU gD gW) (hv : ∀ q, 68 ≤ q ∧ q ≤ 74 → vs' q = vs q) : RI σ rn so bst vs' gU gD gW := by
  obtain ⟨h1, h2, h3, h4⟩ := h
  refine ⟨h1, h2, h3, ?_⟩
  rcases h4 with h4 | ⟨a1, a2, a3, bv, bd, a4, a5, a6, a7⟩
  · exact Or.inl h4
  · have h6 := h1.1
    refine Or.inr ⟨a1, a2, a3, bv, bd, a4, ?_, ?_, fun s hs => ?_⟩
    · rw [hv 74 (by omega)]; exact a5
    · rw [hv 74 (by omega)]; exact a6
    · rw [hv 74 (by omega), hv (68 + s) (by omega)]; exact a7 s hs
theorem SOL.bd {σ : MS} {r : Nat} {bp bv : Nat → Int} {bd : Int} (h : SOL σ r bp bv bd) : 0 < bd := by
  obtain ⟨sq, _, _, _, _, _, h6⟩ := h
  exact h6.1
set_option maxHeartbeats 4000000 in
set_option maxRecDepth 100000 in
/-- value(k, part) -/
theorem r_value (l : Launch) (D : va_G) (E : Nat → ClassId) (r0 : Nat) (σ : MS) (rn k part : Int) (k1 : -2147483648 ≤ k) (k2 : k ≤ 2147483647) (part1 : -2147483648 ≤ part) (part2 : part ≤ 2147483647) : pw_M rvL l D E yX10_value wsX10_value ({ frames := 4, cells := 0, slots := 0, locals := 107 } : Room) [.ref (r0), .int (iI (k)), .int (iI (part))] (fun H => RPO D E r0 σ rn H) (fun z H => RPO D E r0 σ rn H ∧ ((¬ (0 < rn ∧ 0 ≤ k ∧ k < (mN σ : Int) ∧ -1 ≤ part) ∧ z = (if part = -1 then -2 else -1)) ∨ ((0 < rn ∧ 0 ≤ k ∧ k < (mN σ : Int) ∧ -1 ≤ part) ∧ ∃ bp bv bd, SOL σ rn.toNat bp bv bd ∧ z = tellZ (bv k.toNat) bd part))) (fun q => r0 ≤ q ∧ q ≤ r0 + 13) (0) (0) := by
  refine pw_of (cc := cX10_value) (maxL := 3) (ret := (some .long)) (by decide +kernel) rfl (Nat.le_of_ble_eq_true rfl) ?_
  intro p e s m args below meth c hx hb hr hml hts hown hlocks hini hK ⟨th, so, co, bst, ch, nx, vs0, ow, tg, gU, gD, gW, hO, hC, hU, hDn, hW, hBs, hCh, hNx, hB, hP, hOw, hTg, hRI⟩ ls hl
  have hown : s.vm.findClass RX10 = some m.cls := hown
  have hl : lv_has ls 3 [(0, .ref (r0)), (1, .int (iI (k))), (2, .int (iI (part)))] := hl
  have hS : va_S (fun q => r0 ≤ q ∧ q ≤ r0 + 13) s.heap s.heap [] := va_S.rf
  have lk_56 := hts (.fieldLink RX10 56 "PolicyWorksModel" "thrown" "I") (by decide +kernel)
  have lk_96 := hts (.fieldLink RX10 96 "PolicyWorksModel" "solved" "Z") (by decide +kernel)
  have hin10 : ∀ w ∈ wsX100, w ∈ wsX10_value := by decide +kernel
  have hok := hRI.1
  have hm := hRI.2.1
  have hN6 := hok.1
  have hC4 := hok.2.1
  have hso := hRI.2.2.2
  have hrs : (so = 0 ∧ rn = 0) ∨ (so = 1 ∧ 0 < rn) := hso.elim (fun h => Or.inl ⟨h.2, h.1⟩) (fun h => Or.inr ⟨h.2.1, h.1⟩)
  obtain ⟨f, g, h, ⟨hf, hg, hh⟩, hN⟩ := hB
  have b16 : 268435456 ^ 14 < 268435456 ^ 16 ∧ 268435456 ^ 16 * 8000000000 < 268435456 ^ 62 := by decide +kernel
  have hv8 : ∀ q, 68 ≤ q ∧ q ≤ 74 → vs0 (q) = vs0 q := fun _ _ => rfl
  refine lv_aload_n hx hb dX10_value_0 rfl (lv_at hl 0 rfl) ?_
  refine pw_iconst hx hb dX10_value_1 ?_
  refine pw_put (C := RX10) (T := TX10) (N := 20) hx hb hts hin10 tyX10 tyX10_ok nmX10 hown hK hO hS (by (try dsimp only); omega) rfl 0 (by decide) lk_56 rfl rfl rfl rfl (by show _ < 20; decide) dX10_value_2 (fun H1 locs1 hnew hz1 oq hS => ?_)
  have hC := hC.k (oq _ (by omega))
  have hU := hU.k (oq _ (by omega))
  have hDn := hDn.k (oq _ (by omega))
  have hW := hW.k (oq _ (by omega))
  have hBs := hBs.k (oq _ (by omega))
  have hCh := hCh.k (oq _ (by omega))
  have hNx := hNx.k (oq _ (by omega))
  have hP := hP.k (oq _ (by omega))
  have hOw := hOw.k (oq _ (by omega))
  have hTg := hTg.k (oq _ (by omega))
  have hf := hf.k (oq _ (by omega))
  have hg := hg.k (oq _ (by omega))
  have hh := hh.k (oq _ (by omega))
  have hO : OA D (r0) 10 [.int (iI (0)), .int (iI ((mN σ : Int))), .ref (r0 + 1), .ref (r0 + 2), .ref (r0 + 3), .ref (r0 + 4), .int (iI ((mA σ : Int))), .int (iI ((mB σ : Int))), .int (iI (so)), .int (iI (rn)), .ref (r0 + 5), .ref (r0 + 6), .ref (r0 + 7), .ref (r0 + 8), .ref (r0 + 9), .ref (r0 + 10), .ref (r0 + 11), .ref (r0 + 12), .ref (r0 + 13), .int (iI (co))] H1 := hnew
  clear hnew oq hz1
  refine lv_aload_n hx hb dX10_value_5 rfl (lv_at hl 0 rfl) ?_
  refine pw_get (C := RX10) (T := TX10) (N := 20) hx hb hts hin10 hown hK hO rfl 8 (by decide) lk_96 rfl rfl dX10_value_6 ?_
  refine pw_if_eq (tgt := 20) hx hb dX10_value_9 (by decide) (fun c_9 => ?_) (fun c_9 => ?_)
  · refine lv_iload_n hx hb dX10_value_20 rfl (lv_at hl 2 rfl) ?_
    refine pw_callSi (As := [.int (iI (part))]) (rest := []) ⟨hx, hb, hml, hown, hts⟩ (r_none l D E part part1 part2) (va_cwS 1 hts gX10_value_X10_none rfl rfl rfl (by decide +kernel) ⟨Nat.le_of_ble_eq_true rfl, Nat.le_of_ble_eq_true rfl⟩) hK trivial rfl hl.1 rfl (Nat.le_of_ble_eq_true rfl) dX10_value_21 ⟨Nat.zero_le _, Nat.zero_le _⟩ hS (fun q h => h.elim) (fun zn H1 locs1 hzn hz1 hk1 hS => ?_)
    have hO := hO.k (hk1 _ hO.lt (fun h => h))
    have hC := hC.k (hk1 _ hC.lt (fun h => h))
    have hU := hU.k (hk1 _ hU.lt (fun h => h))
    have hDn := hDn.k (hk1 _ hDn.lt (fun h => h))
    have hW := hW.k (hk1 _ hW.lt (fun h => h))
    have hBs := hBs.k (hk1 _ hBs.lt (fun h => h))
    have hCh := hCh.k (hk1 _ hCh.lt (fun h => h))
    have hNx := hNx.k (hk1 _ hNx.lt (fun h => h))
    have hP := hP.k (hk1 _ hP.lt (fun h => h))
    have hOw := hOw.k (hk1 _ hOw.lt (fun h => h))
    have hTg := hTg.k (hk1 _ hTg.lt (fun h => h))
    have hf := hf.k (hk1 _ hf.lt (fun h => h))
    have hg := hg.k (hk1 _ hg.lt (fun h => h))
    have hh := hh.k (hk1 _ hh.lt (fun h => h))
    subst hzn
    refine pw_i2l hx hb dX10_value_24 ?_
    exact pw_lret hx hb hr hlocks hS ⟨⟨_, _, _, _, _, _, _, _, _, _, _, _, hO, hC, hU, hDn, hW, hBs, hCh, hNx, ⟨f, g, h, ⟨hf, hg, hh⟩, hN⟩, hP, hOw, hTg, hRI⟩, Or.inl ⟨(fun h => by omega), rfl⟩⟩ dX10_value_25
  · have hsol := hso.resolve_left (fun h => by omega)
    obtain ⟨a1, a2, a3, bv, bd, a4, a5, a6, a7⟩ := hsol
    refine lv_aload_n hx hb dX10_value_12 rfl (lv_at hl 0 rfl) ?_
    refine lv_iload_n hx hb dX10_value_13 rfl (lv_at hl 1 rfl) ?_
    refine pw_callVi (As := [.int (iI (k))]) (rest := []) ⟨hx, hb, hml, hown, hts⟩ (r_isState l D E r0 σ 0 so rn co hok k k1 k2) (cwV 1 hts gX10_value_X10_isState rfl rfl rfl (by decide +kernel) ⟨Nat.le_of_ble_eq_true rfl, Nat.le_of_ble_eq_true rfl⟩) hK hO rfl hO rfl hl.1 rfl (Nat.le_of_ble_eq_true rfl) dX10_value_14 ⟨Nat.zero_le _, Nat.zero_le _⟩ hS (fun q h => h.elim) (fun z H1 locs1 hz hz1 hk1 hS => ?_)
    have hO := hO.k (hk1 _ hO.lt (fun h => h))
    have hC := hC.k (hk1 _ hC.lt (fun h => h))
    have hU := hU.k (hk1 _ hU.lt (fun h => h))
    have hDn := hDn.k (hk1 _ hDn.lt (fun h => h))
    have hW := hW.k (hk1 _ hW.lt (fun h => h))
    have hBs := hBs.k (hk1 _ hBs.lt (fun h => h))
    have hCh := hCh.k (hk1 _ hCh.lt (fun h => h))
    have hNx := hNx.k (hk1 _ hNx.lt (fun h => h))
    have hP := hP.k (hk1 _ hP.lt (fun h => h))
    have hOw := hOw.k (hk1 _ hOw.lt (fun h => h))
    have hTg := hTg.k (hk1 _ hTg.lt (fun h => h))
    have hf := hf.k (hk1 _ hf.lt (fun h => h))
    have hg := hg.k (hk1 _ hg.lt (fun h => h))
    have hh := hh.k (hk1 _ hh.lt (fun h => h))
    have hz01 : 0 ≤ z ∧ z ≤ 1 := by rw [hz]; split <;> omega
    refine pw_if_ne (tgt := 26) hx hb dX10_value_17 (by decide) (fun c_17 => ?_) (fun c_17 => ?_)
    · have hkin : 0 ≤ k ∧ k < (mN σ : Int) := by
        by_cases h : 0 ≤ k ∧ k < (mN σ : Int)
        · exact h
        · rw [if_neg h] at hz; omega
      refine lv_aload_n hx hb dX10_value_26 rfl (lv_at hl 0 rfl) ?_
      refine pw_bipush hx hb dX10_value_27 ?_
      refine lv_iload_n hx hb dX10_value_29 rfl (lv_at hl 1 rfl) ?_
      refine pw_iadd hx hb dX10_value_30 ?_
      refine pw_asi (((68 + k.toNat : Nat) : Int)) (by omega) ?_
      have h68 := hv8 (68 + k.toNat) (by omega)
      refine pw_bipush hx hb dX10_value_31 ?_
      refine pw_callVv (As := [.int (iI (((68 + k.toNat : Nat) : Int))), .int (iI (53))]) (rest := []) ⟨hx, hb, hml, hown, hts⟩ (r_copy l D E r0 (oV 0 σ so rn co) f g h (68 + k.toNat) 53 (vs0 (68 + k.toNat)) (by omega) (by omega) (by omega) (num_at (hN (68 + k.toNat) (by omega)) h68)) (cwV 2 hts gX10_value_X10_copy rfl rfl rfl (by decide +kernel) ⟨Nat.le_of_ble_eq_true rfl, Nat.le_of_ble_eq_true rfl⟩) hK hO rfl ⟨hO, hf, hg, hh⟩ rfl hl.1 rfl (Nat.le_of_ble_eq_true rfl) dX10_value_33 ⟨Nat.zero_le _, Nat.zero_le _⟩ hS (fun q h => by (try dsimp only at h); (try dsimp only); omega) (fun H1 locs1 ⟨f, g, h, ⟨hf, hg, hh⟩, hn1, ho1⟩ hz1 hk1 hS => ?_)
      have hO := hO.k (hk1 _ hO.lt (by (try dsimp only); omega))
      have hC := hC.k (hk1 _ hC.lt (by (try dsimp only); omega))
      have hU := hU.k (hk1 _ hU.lt (by (try dsimp only); omega))
      have hDn := hDn.k (hk1 _ hDn.lt (by (try dsimp only); omega))
      have hW := hW.k (hk1 _ hW.lt (by (try dsimp only); omega))
      have hBs := hBs.k (hk1 _ hBs.lt (by (try dsimp only); omega))
      have hCh := hCh.k (hk1 _ hCh.lt (by (try dsimp only); omega))
      have hNx := hNx.k (hk1 _ hNx.lt (by (try dsimp only); omega))
      have hP := hP.k (hk1 _ hP.lt (by (try dsimp only); omega))
      have hOw := hOw.k (hk1 _ hOw.lt (by (try dsimp only); omega))
      have hTg := hTg.k (hk1 _ hTg.lt (by (try dsimp only); omega))
      obtain ⟨vs, hva0, hvo, hN⟩ := bn_np hN hn1 ho1
      clear hn1 ho1
      have hv8 : ∀ q, 68 ≤ q ∧ q ≤ 74 → vs (q) = vs0 q := fun q hq => (hvo _ (by omega)).trans (hv8 q hq)
      have h53 : vs (53) = vs0 (68 + k.toNat) := hva0
      clear hva0 hvo
      refine lv_aload_n hx hb dX10_value_36 rfl (lv_at hl 0 rfl) ?_
      refine pw_bipush hx hb dX10_value_37 ?_
      refine pw_bipush hx hb dX10_value_39 ?_
      refine pw_callVv (As := [.int (iI (74)), .int (iI (54))]) (rest := []) ⟨hx, hb, hml, hown, hts⟩ (r_copy l D E r0 (oV 0 σ so rn co) f g h 74 54 (vs0 74) (by omega) (by omega) (by omega) (num_at (hN (74) (by omega)) (hv8 74 (by omega)))) (cwV 2 hts gX10_value_X10_copy rfl rfl rfl (by decide +kernel) ⟨Nat.le_of_ble_eq_true rfl, Nat.le_of_ble_eq_true rfl⟩) hK hO rfl ⟨hO, hf, hg, hh⟩ rfl hl.1 rfl (Nat.le_of_ble_eq_true rfl) dX10_value_41 ⟨Nat.zero_le _, Nat.zero_le _⟩ hS (fun q h => by (try dsimp only at h); (try dsimp only); omega) (fun H1 locs1 ⟨f, g, h, ⟨hf, hg, hh⟩, hn1, ho1⟩ hz1 hk1 hS => ?_)
      have hO := hO.k (hk1 _ hO.lt (by (try dsimp only); omega))
      have hC := hC.k (hk1 _ hC.lt (by (try dsimp only); omega))
      have hU := hU.k (hk1 _ hU.lt (by (try dsimp only); omega))
      have hDn := hDn.k (hk1 _ hDn.lt (by (try dsimp only); omega))
      have hW := hW.k (hk1 _ hW.lt (by (try dsimp only); omega))
      have hBs := hBs.k (hk1 _ hBs.lt (by (try dsimp only); omega))
      have hCh := hCh.k (hk1 _ hCh.lt (by (try dsimp only); omega))
      have hNx := hNx.k (hk1 _ hNx.lt (by (try dsimp only); omega))
      have hP := hP.k (hk1 _ hP.lt (by (try dsimp only); omega))
      have hOw := hOw.k (hk1 _ hOw.lt (by (try dsimp only); omega))
      have hTg := hTg.k (hk1 _ hTg.lt (by (try dsimp only); omega))
      obtain ⟨vs, hva0, hvo, hN⟩ := bn_np hN hn1 ho1
      clear hn1 ho1
      have hv8 : ∀ q, 68 ≤ q ∧ q ≤ 74 → vs (q) = vs0 q := fun q hq => (hvo _ (by omega)).trans (hv8 q hq)
      have h53 : vs (53) = vs0 (68 + k.toNat) := (hvo _ (by omega)).trans h53
      have h54 : vs (54) = vs0 74 := hva0
      clear hva0 hvo
      refine lv_aload_n hx hb dX10_value_44 rfl (lv_at hl 0 rfl) ?_
      refine lv_iload_n hx hb dX10_value_45 rfl (lv_at hl 2 rfl) ?_
      refine pw_callVl (As := [.int (iI (part))]) (rest := []) ⟨hx, hb, hml, hown, hts⟩ (r_tell l D E r0 (oV 0 σ so rn co) vs part part1 part2 (by rw [h54]; exact a5) (by rw [h53]; have := (a7 k.toNat (by omega)).2; omega) (by rw [h54]; omega)) (cwV 1 hts gX10_value_X10_tell rfl rfl rfl (by decide +kernel) ⟨Nat.le_of_ble_eq_true rfl, Nat.le_of_ble_eq_true rfl⟩) hK hO rfl ⟨hO, f, g, h, ⟨hf, hg, hh⟩, hN⟩ rfl hl.1 rfl (Nat.le_of_ble_eq_true rfl) dX10_value_46 ⟨Nat.zero_le _, Nat.zero_le _⟩ hS (fun q h => by (try dsimp only at h); (try dsimp only); omega) (fun zt H1 locs1 ⟨hzt, vst, ⟨f, g, h, ⟨hf, hg, hh⟩, hN⟩, hvt⟩ hz1 hk1 hS => ?_)
      have hO := hO.k (hk1 _ hO.lt (by (try dsimp only); omega))
      have hC := hC.k (hk1 _ hC.lt (by (try dsimp only); omega))
      have hU := hU.k (hk1 _ hU.lt (by (try dsimp only); omega))
      have hDn := hDn.k (hk1 _ hDn.lt (by (try dsimp only); omega))
      have hW := hW.k (hk1 _ hW.lt (by (try dsimp only); omega))
      have hBs := hBs.k (hk1 _ hBs.lt (by (try dsimp only); omega))
      have hCh := hCh.k (hk1 _ hCh.lt (by (try dsimp only); omega))
      have hNx := hNx.k (hk1 _ hNx.lt (by (try dsimp only); omega))
      have hP := hP.k (hk1 _ hP.lt (by (try dsimp only); omega))
      have hOw := hOw.k (hk1 _ hOw.lt (by (try dsimp only); omega))
      have hTg := hTg.k (hk1 _ hTg.lt (by (try dsimp only); omega))
      have hR2 : RI σ rn so bst vst gU gD gW := hRI.vs (fun q hq => (hvt q (by omega)).trans (hv8 q hq))
      by_cases hp : part < -1
      · exact pw_lret hx hb hr hlocks hS ⟨⟨_, _, _, _, _, _, _, _, _, _, _, _, hO, hC, hU, hDn, hW, hBs, hCh, hNx, ⟨f, g, h, ⟨hf, hg, hh⟩, hN⟩, hP, hOw, hTg, hR2⟩, Or.inl ⟨fun h => by omega, by rw [hzt, if_pos hp, if_neg (by omega)]⟩⟩ dX10_value_49
      · exact pw_lret hx hb hr hlocks hS ⟨⟨_, _, _, _, _, _, _, _, _, _, _, _, hO, hC, hU, hDn, hW, hBs, hCh, hNx, ⟨f, g, h, ⟨hf, hg, hh⟩, hN⟩, hP, hOw, hTg, hR2⟩, Or.inr ⟨⟨a1, hkin.1, hkin.2, by omega⟩, bst, bv, bd, a4, by rw [hzt, if_neg hp, h53, h54]; exact tellZ_eq a5 a4.bd (a7 k.toNat (by omega)).1 part⟩⟩ dX10_value_49
    · refine lv_iload_n hx hb dX10_value_20 rfl (lv_at hl 2 rfl) ?_
      refine pw_callSi (As := [.int (iI (part))]) (rest := []) ⟨hx, hb, hml, hown, hts⟩ (r_none l D E part part1 part2) (va_cwS 1 hts gX10_value_X10_none rfl rfl rfl (by decide +kernel) ⟨Nat.le_of_ble_eq_true rfl, Nat.le_of_ble_eq_true rfl⟩) hK trivial rfl hl.1 rfl (Nat.le_of_ble_eq_true rfl) dX10_value_21 ⟨Nat.zero_le _, Nat.zero_le _⟩ hS (fun q h => h.elim) (fun zn H1 locs1 hzn hz1 hk1 hS => ?_)
      have hO := hO.k (hk1 _ hO.lt (fun h => h))
      have hC := hC.k (hk1 _ hC.lt (fun h => h))
      have hU := hU.k (hk1 _ hU.lt (fun h => h))
      have hDn := hDn.k (hk1 _ hDn.lt (fun h => h))
      have hW := hW.k (hk1 _ hW.lt (fun h => h))
      have hBs := hBs.k (hk1 _ hBs.lt (fun h => h))
      have hCh := hCh.k (hk1 _ hCh.lt (fun h => h))
      have hNx := hNx.k (hk1 _ hNx.lt (fun h => h))
      have hP := hP.k (hk1 _ hP.lt (fun h => h))
      have hOw := hOw.k (hk1 _ hOw.lt (fun h => h))
      have hTg := hTg.k (hk1 _ hTg.lt (fun h => h))
      have hf := hf.k (hk1 _ hf.lt (fun h => h))
      have hg := hg.k (hk1 _ hg.lt (fun h => h))
      have hh := hh.k (hk1 _ hh.lt (fun h => h))
      subst hzn
      refine pw_i2l hx hb dX10_value_24 ?_
      exact pw_lret hx hb hr hlocks hS ⟨⟨_, _, _, _, _, _, _, _, _, _, _, _, hO, hC, hU, hDn, hW, hBs, hCh, hNx, ⟨f, g, h, ⟨hf, hg, hh⟩, hN⟩, hP, hOw, hTg, hRI⟩, Or.inl ⟨(fun h => by rw [if_pos ⟨h.2.1, h.2.2.1⟩] at hz; omega), rfl⟩⟩ dX10_value_25
set_option maxHeartbeats 4000000 in
set_option maxRecDepth 100000 in
/-- gain(k, j, part) -/
theorem r_gain (l : Launch) (D : va_G) (E : Nat → ClassId) (r0 : Nat) (σ : MS) (rn k j part : Int) (k1 : -2147483648 ≤ k) (k2 : k ≤ 2147483647) (j1 : -2147483648 ≤ j) (j2 : j ≤ 2147483647) (part1 : -2147483648 ≤ part) (part2 : part ≤ 2147483647) : pw_M rvL l D E yX10_gain wsX10_gain ({ frames := 4, cells := 0, slots := 0, locals := 107 } : Room) [.ref (r0), .int (iI (k)), .int (iI (j)), .int (iI (part))] (fun H => RPO D E r0 σ rn H) (fun z H => RPO D E r0 σ rn H ∧ ((¬ (0 < rn ∧ (0 ≤ k ∧ k < (mN σ : Int) ∧ 0 ≤ j ∧ j < (mC σ k.toNat : Int)) ∧ -1 ≤ part) ∧ z = (if part = -1 then -2 else -1)) ∨ ((0 < rn ∧ (0 ≤ k ∧ k < (mN σ : Int) ∧ 0 ≤ j ∧ j < (mC σ k.toNat : Int)) ∧ -1 ≤ part) ∧ ∃ bp bv bd, SOL σ rn.toNat bp bv bd ∧ z = tellZ (gnum σ (4 * k.toNat + j.toNat) bv bd) (bd * gsc σ (4 * k.toNat + j.toNat)) part))) (fun q => r0 ≤ q ∧ q ≤ r0 + 13) (0) (0) := by
  refine pw_of (cc := cX10_gain) (maxL := 4) (ret := (some .long)) (by decide +kernel) rfl (Nat.le_of_ble_eq_true rfl) ?_
  intro p e s m args below meth c hx hb hr hml hts hown hlocks hini hK ⟨th, so, co, bst, ch, nx, vs0, ow, tg, gU, gD, gW, hO, hC, hU, hDn, hW, hBs, hCh, hNx, hB, hP, hOw, hTg, hRI⟩ ls hl
  have hown : s.vm.findClass RX10 = some m.cls := hown
  have hl : lv_has ls 4 [(0, .ref (r0)), (1, .int (iI (k))), (2, .int (iI (j))), (3, .int (iI (part)))] := hl
  have hS : va_S (fun q => r0 ≤ q ∧ q ≤ r0 + 13) s.heap s.heap [] := va_S.rf
  have lk_16 := hts (.fieldLink RX10 16 "PolicyWorksModel" "downs" "[I") (by decide +kernel)
  have lk_26 := hts (.fieldLink RX10 26 "PolicyWorksModel" "discountDown" "I") (by decide +kernel)
  have lk_56 := hts (.fieldLink RX10 56 "PolicyWorksModel" "thrown" "I") (by decide +kernel)
  have lk_96 := hts (.fieldLink RX10 96 "PolicyWorksModel" "solved" "Z") (by decide +kernel)
  have hin10 : ∀ w ∈ wsX100, w ∈ wsX10_gain := by decide +kernel
  have hok := hRI.1
  have hm := hRI.2.1
  have hN6 := hok.1
  have hC4 := hok.2.1
  have hso := hRI.2.2.2
  have hrs : (so = 0 ∧ rn = 0) ∨ (so = 1 ∧ 0 < rn) := hso.elim (fun h => Or.inl ⟨h.2, h.1⟩) (fun h => Or.inr ⟨h.2.1, h.1⟩)
  obtain ⟨f, g, h, ⟨hf, hg, hh⟩, hN⟩ := hB
  have b16 : 268435456 ^ 14 < 268435456 ^ 16 ∧ 268435456 ^ 16 * 8000000000 < 268435456 ^ 62 := by decide +kernel
  have hv8 : ∀ q, 68 ≤ q ∧ q ≤ 74 → vs0 (q) = vs0 q := fun _ _ => rfl
  refine lv_aload_n hx hb dX10_gain_0 rfl (lv_at hl 0 rfl) ?_
  refine pw_iconst hx hb dX10_gain_1 ?_
  refine pw_put (C := RX10) (T := TX10) (N := 20) hx hb hts hin10 tyX10 tyX10_ok nmX10 hown hK hO hS (by (try dsimp only); omega) rfl 0 (by decide) lk_56 rfl rfl rfl rfl (by show _ < 20; decide) dX10_gain_2 (fun H1 locs1 hnew hz1 oq hS => ?_)
  have hC := hC.k (oq _ (by omega))
  have hU := hU.k (oq _ (by omega))
  have hDn := hDn.k (oq _ (by omega))
  have hW := hW.k (oq _ (by omega))
  have hBs := hBs.k (oq _ (by omega))
  have hCh := hCh.k (oq _ (by omega))
  have hNx := hNx.k (oq _ (by omega))
  have hP := hP.k (oq _ (by omega))
  have hOw := hOw.k (oq _ (by omega))
  have hTg := hTg.k (oq _ (by omega))
  have hf := hf.k (oq _ (by omega))
  have hg := hg.k (oq _ (by omega))
  have hh := hh.k (oq _ (by omega))
  have hO : OA D (r0) 10 [.int (iI (0)), .int (iI ((mN σ : Int))), .ref (r0 + 1), .ref (r0 + 2), .ref (r0 + 3), .ref (r0 + 4), .int (iI ((mA σ : Int))), .int (iI ((mB σ : Int))), .int (iI (so)), .int (iI (rn)), .ref (r0 + 5), .ref (r0 + 6), .ref (r0 + 7), .ref (r0 + 8), .ref (r0 + 9), .ref (r0 + 10), .ref (r0 + 11), .ref (r0 + 12), .ref (r0 + 13), .int (iI (co))] H1 := hnew
  clear hnew oq hz1
  refine lv_aload_n hx hb dX10_gain_5 rfl (lv_at hl 0 rfl) ?_
  refine pw_get (C := RX10) (T := TX10) (N := 20) hx hb hts hin10 hown hK hO rfl 8 (by decide) lk_96 rfl rfl dX10_gain_6 ?_
  refine pw_if_eq (tgt := 21) hx hb dX10_gain_9 (by decide) (fun c_9 => ?_) (fun c_9 => ?_)
  · refine lv_iload_n hx hb dX10_gain_21 rfl (lv_at hl 3 rfl) ?_
    refine pw_callSi (As := [.int (iI (part))]) (rest := []) ⟨hx, hb, hml, hown, hts⟩ (r_none l D E part part1 part2) (va_cwS 1 hts gX10_gain_X10_none rfl rfl rfl (by decide +kernel) ⟨Nat.le_of_ble_eq_true rfl, Nat.le_of_ble_eq_true rfl⟩) hK trivial rfl hl.1 rfl (Nat.le_of_ble_eq_true rfl) dX10_gain_22 ⟨Nat.zero_le _, Nat.zero_le _⟩ hS (fun q h => h.elim) (fun zn H1 locs1 hzn hz1 hk1 hS => ?_)
    have hO := hO.k (hk1 _ hO.lt (fun h => h))
    have hC := hC.k (hk1 _ hC.lt (fun h => h))
    have hU := hU.k (hk1 _ hU.lt (fun h => h))
    have hDn := hDn.k (hk1 _ hDn.lt (fun h => h))
    have hW := hW.k (hk1 _ hW.lt (fun h => h))
    have hBs := hBs.k (hk1 _ hBs.lt (fun h => h))
    have hCh := hCh.k (hk1 _ hCh.lt (fun h => h))
    have hNx := hNx.k (hk1 _ hNx.lt (fun h => h))
    have hP := hP.k (hk1 _ hP.lt (fun h => h))
    have hOw := hOw.k (hk1 _ hOw.lt (fun h => h))
    have hTg := hTg.k (hk1 _ hTg.lt (fun h => h))
    have hf := hf.k (hk1 _ hf.lt (fun h => h))
    have hg := hg.k (hk1 _ hg.lt (fun h => h))
    have hh := hh.k (hk1 _ hh.lt (fun h => h))
    subst hzn
    refine pw_i2l hx hb dX10_gain_25 ?_
    exact pw_lret hx hb hr hlocks hS ⟨⟨_, _, _, _, _, _, _, _, _, _, _, _, hO, hC, hU, hDn, hW, hBs, hCh, hNx, ⟨f, g, h, ⟨hf, hg, hh⟩, hN⟩, hP, hOw, hTg, hRI⟩, Or.inl ⟨(fun h => by omega), rfl⟩⟩ dX10_gain_26
  · have hsol := hso.resolve_left (fun h => by omega)
    obtain ⟨a1, a2, a3, bv, bd, a4, a5, a6, a7⟩ := hsol
    refine lv_aload_n hx hb dX10_gain_12 rfl (lv_at hl 0 rfl) ?_
    refine lv_iload_n hx hb dX10_gain_13 rfl (lv_at hl 1 rfl) ?_
    refine lv_iload_n hx hb dX10_gain_14 rfl (lv_at hl 2 rfl) ?_
    refine pw_callVi (As := [.int (iI (k)), .int (iI (j))]) (rest := []) ⟨hx, hb, hml, hown, hts⟩ (r_isAction l D E r0 σ 0 so rn co hok k j k1 k2 j1 j2) (cwV 2 hts gX10_gain_X10_isAction rfl rfl rfl (by decide +kernel) ⟨Nat.le_of_ble_eq_true rfl, Nat.le_of_ble_eq_true rfl⟩) hK hO rfl ⟨hO, hC⟩ rfl hl.1 rfl (Nat.le_of_ble_eq_true rfl) dX10_gain_15 ⟨Nat.zero_le _, Nat.zero_le _⟩ hS (fun q h => h.elim) (fun z H1 locs1 ⟨hz01, hzi⟩ hz1 hk1 hS => ?_)
    have hO := hO.k (hk1 _ hO.lt (fun h => h))
    have hC := hC.k (hk1 _ hC.lt (fun h => h))
    have hU := hU.k (hk1 _ hU.lt (fun h => h))
    have hDn := hDn.k (hk1 _ hDn.lt (fun h => h))
    have hW := hW.k (hk1 _ hW.lt (fun h => h))
    have hBs := hBs.k (hk1 _ hBs.lt (fun h => h))
    have hCh := hCh.k (hk1 _ hCh.lt (fun h => h))
    have hNx := hNx.k (hk1 _ hNx.lt (fun h => h))
    have hP := hP.k (hk1 _ hP.lt (fun h => h))
    have hOw := hOw.k (hk1 _ hOw.lt (fun h => h))
    have hTg := hTg.k (hk1 _ hTg.lt (fun h => h))
    have hf := hf.k (hk1 _ hf.lt (fun h => h))
    have hg := hg.k (hk1 _ hg.lt (fun h => h))
    have hh := hh.k (hk1 _ hh.lt (fun h => h))
    refine pw_if_ne (tgt := 27) hx hb dX10_gain_18 (by decide) (fun c_18 => ?_) (fun c_18 => ?_)
    · have hga := hzi.mp (by omega)
      have hc4 := hC4 k.toNat (by omega)
      have hmi := hm k.toNat j.toNat (by omega) (by omega)
      obtain ⟨u1, u2, d1, d2, ww⟩ := hok.2.2.1 (4 * k.toNat + j.toNat) (by omega)
      have hTb := mT_b hok (show (4 * k.toNat + j.toNat) < 24 by omega)
      have hB20 := hok.2.2.2.2.1
      have hgp : 0 < gsc σ (4 * k.toNat + j.toNat) := gsc_pos hok a3 (by omega) (by omega)
      have hbt : ((mB σ : Int) * (mT σ (4 * k.toNat + j.toNat) : Int)).natAbs ≤ 20 * 120 := mulb (by omega) (by omega)
      have hu1 : (vs0 74 * ((mB σ : Int) * (mT σ (4 * k.toNat + j.toNat) : Int))).natAbs ≤ 268435456 ^ 16 * (20 * 120) := mulb (by omega) hbt
      have hu2 : (vs0 74 * ((mB σ : Int) * (mT σ (4 * k.toNat + j.toNat) : Int)) * (mD σ (4 * k.toNat + j.toNat) : Int)).natAbs ≤ 268435456 ^ 16 * (20 * 120) * 20 := mulb hu1 (by omega)
      have hue : vs0 74 * ((mB σ : Int) * (mT σ (4 * k.toNat + j.toNat) : Int)) * (mD σ (4 * k.toNat + j.toNat) : Int) = vs0 74 * gsc σ (4 * k.toNat + j.toNat) := by unfold gsc; grind
      have hu0 : 0 < vs0 74 * ((mB σ : Int) * (mT σ (4 * k.toNat + j.toNat) : Int)) * (mD σ (4 * k.toNat + j.toNat) : Int) := by rw [hue]; exact Int.mul_pos a5 hgp
      have hvb : ∀ t, t < mN σ → (vs0 (68 + t)).natAbs ≤ 268435456 ^ 16 := fun t ht => by have := (a7 t ht).2; omega
      have hgb := gnr_b hok (show (4 * k.toNat + j.toNat) < 24 by omega) (v := (fun t => vs0 (68 + t))) (b := vs0 74) hvb (by omega)
      have hcr : gnum σ (4 * k.toNat + j.toNat) (fun t => vs0 (68 + t)) (vs0 74) * (bd * gsc σ (4 * k.toNat + j.toNat)) = gnum σ (4 * k.toNat + j.toNat) bv bd * (vs0 74 * ((mB σ : Int) * (mT σ (4 * k.toNat + j.toNat) : Int)) * (mD σ (4 * k.toNat + j.toNat) : Int)) := by
        rw [hue, ← Int.mul_assoc, ← Int.mul_assoc, gnum_prop (v := (fun t => vs0 (68 + t))) (b := vs0 74) (v' := bv) (b' := bd) (fun s hs => (a7 s hs).1)]
      refine lv_aload_n hx hb dX10_gain_27 rfl (lv_at hl 0 rfl) ?_
      refine pw_iconst hx hb dX10_gain_28 ?_
      refine lv_iload_n hx hb dX10_gain_29 rfl (lv_at hl 1 rfl) ?_
      refine pw_imul hx hb dX10_gain_30 ?_
      refine lv_iload_n hx hb dX10_gain_31 rfl (lv_at hl 2 rfl) ?_
      refine pw_iadd hx hb dX10_gain_32 ?_
      refine pw_asi (((4 * k.toNat + j.toNat) : Int)) (by omega) ?_
      refine pw_bipush hx hb dX10_gain_33 ?_
      refine pw_bipush hx hb dX10_gain_35 ?_
      refine pw_bipush hx hb dX10_gain_37 ?_
      refine pw_callVv (As := [.int (iI (((4 * k.toNat + j.toNat) : Int))), .int (iI (68)), .int (iI (74)), .int (iI (53))]) (rest := []) ⟨hx, hb, hml, hown, hts⟩ (r_gainInto l D E r0 σ 0 so rn co gU gD gW vs0 (4 * k.toNat + j.toNat) 68 74 53 (268435456 ^ 16) (by omega) hmi (by omega) (by omega) (by omega) (by omega) hok (by omega) (by omega) (by omega) (by omega) hvb (by omega) b16.2) (cwV 4 hts gX10_gain_X10_gainInto rfl rfl rfl (by decide +kernel) ⟨Nat.le_of_ble_eq_true rfl, Nat.le_of_ble_eq_true rfl⟩) hK hO rfl ⟨hO, hU, hDn, hW, f, g, h, ⟨hf, hg, hh⟩, hN⟩ rfl hl.1 rfl (Nat.le_of_ble_eq_true rfl) dX10_gain_39 ⟨Nat.zero_le _, Nat.zero_le _⟩ hS (fun q h => by (try dsimp only at h); (try dsimp only); omega) (fun H1 locs1 ⟨vs, ⟨f, g, h, ⟨hf, hg, hh⟩, hN⟩, h53, hvo⟩ hz1 hk1 hS => ?_)
      have hO := hO.k (hk1 _ hO.lt (by (try dsimp only); omega))
      have hC := hC.k (hk1 _ hC.lt (by (try dsimp only); omega))
      have hU := hU.k (hk1 _ hU.lt (by (try dsimp only); omega))
      have hDn := hDn.k (hk1 _ hDn.lt (by (try dsimp only); omega))
      have hW := hW.k (hk1 _ hW.lt (by (try dsimp only); omega))
      have hBs := hBs.k (hk1 _ hBs.lt (by (try dsimp only); omega))
      have hCh := hCh.k (hk1 _ hCh.lt (by (try dsimp only); omega))
      have hNx := hNx.k (hk1 _ hNx.lt (by (try dsimp only); omega))
      have hP := hP.k (hk1 _ hP.lt (by (try dsimp only); omega))
      have hOw := hOw.k (hk1 _ hOw.lt (by (try dsimp only); omega))
      have hTg := hTg.k (hk1 _ hTg.lt (by (try dsimp only); omega))
      have hv8 : ∀ q, 68 ≤ q ∧ q ≤ 74 → vs (q) = vs0 q := fun q hq => hvo q (by omega) (by omega)
      refine lv_aload_n hx hb dX10_gain_42 rfl (lv_at hl 0 rfl) ?_
      refine pw_bipush hx hb dX10_gain_43 ?_
      refine pw_bipush hx hb dX10_gain_45 ?_
      refine pw_callVv (As := [.int (iI (74)), .int (iI (54))]) (rest := []) ⟨hx, hb, hml, hown, hts⟩ (r_copy l D E r0 (oV 0 σ so rn co) f g h 74 54 (vs0 74) (by omega) (by omega) (by omega) (num_at (hN (74) (by omega)) (hv8 74 (by omega)))) (cwV 2 hts gX10_gain_X10_copy rfl rfl rfl (by decide +kernel) ⟨Nat.le_of_ble_eq_true rfl, Nat.le_of_ble_eq_true rfl⟩) hK hO rfl ⟨hO, hf, hg, hh⟩ rfl hl.1 rfl (Nat.le_of_ble_eq_true rfl) dX10_gain_47 ⟨Nat.zero_le _, Nat.zero_le _⟩ hS (fun q h => by (try dsimp only at h); (try dsimp only); omega) (fun H1 locs1 ⟨f, g, h, ⟨hf, hg, hh⟩, hn1, ho1⟩ hz1 hk1 hS => ?_)
      have hO := hO.k (hk1 _ hO.lt (by (try dsimp only); omega))
      have hC := hC.k (hk1 _ hC.lt (by (try dsimp only); omega))
      have hU := hU.k (hk1 _ hU.lt (by (try dsimp only); omega))
      have hDn := hDn.k (hk1 _ hDn.lt (by (try dsimp only); omega))
      have hW := hW.k (hk1 _ hW.lt (by (try dsimp only); omega))
      have hBs := hBs.k (hk1 _ hBs.lt (by (try dsimp only); omega))
      have hCh := hCh.k (hk1 _ hCh.lt (by (try dsimp only); omega))
      have hNx := hNx.k (hk1 _ hNx.lt (by (try dsimp only); omega))
      have hP := hP.k (hk1 _ hP.lt (by (try dsimp only); omega))
      have hOw := hOw.k (hk1 _ hOw.lt (by (try dsimp only); omega))
      have hTg := hTg.k (hk1 _ hTg.lt (by (try dsimp only); omega))
      obtain ⟨vs, hva0, hvo, hN⟩ := bn_np hN hn1 ho1
      clear hn1 ho1
      have h53 : vs (53) = gnum σ (4 * k.toNat + j.toNat) (fun t => vs0 (68 + t)) (vs0 74) := (hvo _ (by omega)).trans h53
      have hv8 : ∀ q, 68 ≤ q ∧ q ≤ 74 → vs (q) = vs0 q := fun q hq => (hvo _ (by omega)).trans (hv8 q hq)
      have h54 : vs (54) = vs0 74 := hva0
      clear hva0 hvo
      refine lv_aload_n hx hb dX10_gain_50 rfl (lv_at hl 0 rfl) ?_
      refine pw_bipush hx hb dX10_gain_51 ?_
      refine lv_aload_n hx hb dX10_gain_53 rfl (lv_at hl 0 rfl) ?_
      refine pw_get (C := RX10) (T := TX10) (N := 20) hx hb hts hin10 hown hK hO rfl 7 (by decide) lk_26 rfl rfl dX10_gain_54 ?_
      refine lv_aload_n hx hb dX10_gain_57 rfl (lv_at hl 0 rfl) ?_
      refine pw_iconst hx hb dX10_gain_58 ?_
      refine lv_iload_n hx hb dX10_gain_59 rfl (lv_at hl 1 rfl) ?_
      refine pw_imul hx hb dX10_gain_60 ?_
      refine lv_iload_n hx hb dX10_gain_61 rfl (lv_at hl 2 rfl) ?_
      refine pw_iadd hx hb dX10_gain_62 ?_
      refine pw_asi (((4 * k.toNat + j.toNat) : Int)) (by omega) ?_
      refine pw_callVi (As := [.int (iI (((4 * k.toNat + j.toNat) : Int)))]) (rest := [.int (iI ((mB σ : Int))), .int (iI (54)), .ref (r0)]) ⟨hx, hb, hml, hown, hts⟩ (r_sumOf l D E r0 σ 0 so rn co (4 * k.toNat + j.toNat) gW (by omega) hmi.2.2 hok) (cwV 1 hts gX10_gain_X10_sumOf rfl rfl rfl (by decide +kernel) ⟨Nat.le_of_ble_eq_true rfl, Nat.le_of_ble_eq_true rfl⟩) hK hO rfl ⟨hO, hW⟩ rfl hl.1 rfl (Nat.le_of_ble_eq_true rfl) dX10_gain_63 ⟨Nat.zero_le _, Nat.zero_le _⟩ hS (fun q h => h.elim) (fun zs H1 locs1 hzs hz1 hk1 hS => ?_)
      have hO := hO.k (hk1 _ hO.lt (fun h => h))
      have hC := hC.k (hk1 _ hC.lt (fun h => h))
      have hU := hU.k (hk1 _ hU.lt (fun h => h))
      have hDn := hDn.k (hk1 _ hDn.lt (fun h => h))
      have hW := hW.k (hk1 _ hW.lt (fun h => h))
      have hBs := hBs.k (hk1 _ hBs.lt (fun h => h))
      have hCh := hCh.k (hk1 _ hCh.lt (fun h => h))
      have hNx := hNx.k (hk1 _ hNx.lt (fun h => h))
      have hP := hP.k (hk1 _ hP.lt (fun h => h))
      have hOw := hOw.k (hk1 _ hOw.lt (fun h => h))
      have hTg := hTg.k (hk1 _ hTg.lt (fun h => h))
      have hf := hf.k (hk1 _ hf.lt (fun h => h))
      have hg := hg.k (hk1 _ hg.lt (fun h => h))
      have hh := hh.k (hk1 _ hh.lt (fun h => h))
      subst hzs
      refine pw_imul hx hb dX10_gain_66 ?_
      refine pw_callVv (As := [.int (iI (54)), .int (iI (((mB σ : Int)) * ((mT σ (4 * k.toNat + j.toNat) : Int))))]) (rest := []) ⟨hx, hb, hml, hown, hts⟩ (r_times l D E r0 (oV 0 σ so rn co) f g h 54 (vs0 74) ((mB σ : Int) * (mT σ (4 * k.toNat + j.toNat) : Int)) (by omega) (by omega) (by omega) (num_at (hN (54) (by omega)) h54) (by omega)) (cwV 2 hts gX10_gain_X10_times rfl rfl rfl (by decide +kernel) ⟨Nat.le_of_ble_eq_true rfl, Nat.le_of_ble_eq_true rfl⟩) hK hO rfl ⟨hO, hf, hg, hh⟩ rfl hl.1 rfl (Nat.le_of_ble_eq_true rfl) dX10_gain_67 ⟨Nat.zero_le _, Nat.zero_le _⟩ hS (fun q h => by (try dsimp only at h); (try dsimp only); omega) (fun H1 locs1 ⟨f, g, h, ⟨hf, hg, hh⟩, hn1, ho1⟩ hz1 hk1 hS => ?_)
      have hO := hO.k (hk1 _ hO.lt (by (try dsimp only); omega))
      have hC := hC.k (hk1 _ hC.lt (by (try dsimp only); omega))
      have hU := hU.k (hk1 _ hU.lt (by (try dsimp only); omega))
      have hDn := hDn.k (hk1 _ hDn.lt (by (try dsimp only); omega))
      have hW := hW.k (hk1 _ hW.lt (by (try dsimp only); omega))
      have hBs := hBs.k (hk1 _ hBs.lt (by (try dsimp only); omega))
      have hCh := hCh.k (hk1 _ hCh.lt (by (try dsimp only); omega))
      have hNx := hNx.k (hk1 _ hNx.lt (by (try dsimp only); omega))
      have hP := hP.k (hk1 _ hP.lt (by (try dsimp only); omega))
      have hOw := hOw.k (hk1 _ hOw.lt (by (try dsimp only); omega))
      have hTg := hTg.k (hk1 _ hTg.lt (by (try dsimp only); omega))
      obtain ⟨vs, hva0, hvo, hN⟩ := bn_np hN hn1 ho1
      clear hn1 ho1
      have h53 : vs (53) = gnum σ (4 * k.toNat + j.toNat) (fun t => vs0 (68 + t)) (vs0 74) := (hvo _ (by omega)).trans h53
      have hv8 : ∀ q, 68 ≤ q ∧ q ≤ 74 → vs (q) = vs0 q := fun q hq => (hvo _ (by omega)).trans (hv8 q hq)
      have h54 : vs (54) = vs0 74 * ((mB σ : Int) * (mT σ (4 * k.toNat + j.toNat) : Int)) := hva0
      clear hva0 hvo
      refine lv_aload_n hx hb dX10_gain_70 rfl (lv_at hl 0 rfl) ?_
      refine pw_bipush hx hb dX10_gain_71 ?_
      refine lv_aload_n hx hb dX10_gain_73 rfl (lv_at hl 0 rfl) ?_
      refine pw_get (C := RX10) (T := TX10) (N := 20) hx hb hts hin10 hown hK hO rfl 4 (by decide) lk_16 rfl rfl dX10_gain_74 ?_
      refine pw_iconst hx hb dX10_gain_77 ?_
      refine lv_iload_n hx hb dX10_gain_78 rfl (lv_at hl 1 rfl) ?_
      refine pw_imul hx hb dX10_gain_79 ?_
      refine lv_iload_n hx hb dX10_gain_80 rfl (lv_at hl 2 rfl) ?_
      refine pw_iadd hx hb dX10_gain_81 ?_
      refine pw_asi (((4 * k.toNat + j.toNat) : Int)) (by omega) ?_
      refine pw_iald hx hb hK hDn ((4 * k.toNat + j.toNat)) rfl (by omega) (by omega) dX10_gain_82 ?_
      refine pw_asi ((mD σ (4 * k.toNat + j.toNat) : Int)) hmi.2.1 ?_
      refine pw_callVv (As := [.int (iI (54)), .int (iI ((mD σ (4 * k.toNat + j.toNat) : Int)))]) (rest := []) ⟨hx, hb, hml, hown, hts⟩ (r_times l D E r0 (oV 0 σ so rn co) f g h 54 (vs0 74 * ((mB σ : Int) * (mT σ (4 * k.toNat + j.toNat) : Int))) (mD σ (4 * k.toNat + j.toNat) : Int) (by omega) (by omega) (by omega) (num_at (hN (54) (by omega)) h54) (by omega)) (cwV 2 hts gX10_gain_X10_times rfl rfl rfl (by decide +kernel) ⟨Nat.le_of_ble_eq_true rfl, Nat.le_of_ble_eq_true rfl⟩) hK hO rfl ⟨hO, hf, hg, hh⟩ rfl hl.1 rfl (Nat.le_of_ble_eq_true rfl) dX10_gain_83 ⟨Nat.zero_le _, Nat.zero_le _⟩ hS (fun q h => by (try dsimp only at h); (try dsimp only); omega) (fun H1 locs1 ⟨f, g, h, ⟨hf, hg, hh⟩, hn1, ho1⟩ hz1 hk1 hS => ?_)
      have hO := hO.k (hk1 _ hO.lt (by (try dsimp only); omega))
      have hC := hC.k (hk1 _ hC.lt (by (try dsimp only); omega))
      have hU := hU.k (hk1 _ hU.lt (by (try dsimp only); omega))
      have hDn := hDn.k (hk1 _ hDn.lt (by (try dsimp only); omega))
      have hW := hW.k (hk1 _ hW.lt (by (try dsimp only); omega))
      have hBs := hBs.k (hk1 _ hBs.lt (by (try dsimp only); omega))
      have hCh := hCh.k (hk1 _ hCh.lt (by (try dsimp only); omega))
      have hNx := hNx.k (hk1 _ hNx.lt (by (try dsimp only); omega))
      have hP := hP.k (hk1 _ hP.lt (by (try dsimp only); omega))
      have hOw := hOw.k (hk1 _ hOw.lt (by (try dsimp only); omega))
      have hTg := hTg.k (hk1 _ hTg.lt (by (try dsimp only); omega))
      obtain ⟨vs, hva0, hvo, hN⟩ := bn_np hN hn1 ho1
      clear hn1 ho1
      have h53 : vs (53) = gnum σ (4 * k.toNat + j.toNat) (fun t => vs0 (68 + t)) (vs0 74) := (hvo _ (by omega)).trans h53
      have hv8 : ∀ q, 68 ≤ q ∧ q ≤ 74 → vs (q) = vs0 q := fun q hq => (hvo _ (by omega)).trans (hv8 q hq)
      have h54 : vs (54) = vs0 74 * ((mB σ : Int) * (mT σ (4 * k.toNat + j.toNat) : Int)) * (mD σ (4 * k.toNat + j.toNat) : Int) := hva0
      clear hva0 hvo
      refine lv_aload_n hx hb dX10_gain_86 rfl (lv_at hl 0 rfl) ?_
      refine lv_iload_n hx hb dX10_gain_87 rfl (lv_at hl 3 rfl) ?_
      refine pw_callVl (As := [.int (iI (part))]) (rest := []) ⟨hx, hb, hml, hown, hts⟩ (r_tell l D E r0 (oV 0 σ so rn co) vs part part1 part2 (by rw [h54]; exact hu0) (by rw [h53]; omega) (by rw [h54]; omega)) (cwV 1 hts gX10_gain_X10_tell rfl rfl rfl (by decide +kernel) ⟨Nat.le_of_ble_eq_true rfl, Nat.le_of_ble_eq_true rfl⟩) hK hO rfl ⟨hO, f, g, h, ⟨hf, hg, hh⟩, hN⟩ rfl hl.1 rfl (Nat.le_of_ble_eq_true rfl) dX10_gain_88 ⟨Nat.zero_le _, Nat.zero_le _⟩ hS (fun q h => by (try dsimp only at h); (try dsimp only); omega) (fun zt H1 locs1 ⟨hzt, vst, ⟨f, g, h, ⟨hf, hg, hh⟩, hN⟩, hvt⟩ hz1 hk1 hS => ?_)
      have hO := hO.k (hk1 _ hO.lt (by (try dsimp only); omega))
      have hC := hC.k (hk1 _ hC.lt (by (try dsimp only); omega))
      have hU := hU.k (hk1 _ hU.lt (by (try dsimp only); omega))
      have hDn := hDn.k (hk1 _ hDn.lt (by (try dsimp only); omega))
      have hW := hW.k (hk1 _ hW.lt (by (try dsimp only); omega))
      have hBs := hBs.k (hk1 _ hBs.lt (by (try dsimp only); omega))
      have hCh := hCh.k (hk1 _ hCh.lt (by (try dsimp only); omega))
      have hNx := hNx.k (hk1 _ hNx.lt (by (try dsimp only); omega))
      have hP := hP.k (hk1 _ hP.lt (by (try dsimp only); omega))
      have hOw := hOw.k (hk1 _ hOw.lt (by (try dsimp only); omega))
      have hTg := hTg.k (hk1 _ hTg.lt (by (try dsimp only); omega))
      have hR2 : RI σ rn so bst vst gU gD gW := hRI.vs (fun q hq => (hvt q (by omega)).trans (hv8 q hq))
      by_cases hp : part < -1
      · exact pw_lret hx hb hr hlocks hS ⟨⟨_, _, _, _, _, _, _, _, _, _, _, _, hO, hC, hU, hDn, hW, hBs, hCh, hNx, ⟨f, g, h, ⟨hf, hg, hh⟩, hN⟩, hP, hOw, hTg, hR2⟩, Or.inl ⟨fun h => by omega, by rw [hzt, if_pos hp, if_neg (by omega)]⟩⟩ dX10_gain_91
      · exact pw_lret hx hb hr hlocks hS ⟨⟨_, _, _, _, _, _, _, _, _, _, _, _, hO, hC, hU, hDn, hW, hBs, hCh, hNx, ⟨f, g, h, ⟨hf, hg, hh⟩, hN⟩, hP, hOw, hTg, hR2⟩, Or.inr ⟨⟨a1, hga, by omega⟩, bst, bv, bd, a4, by rw [hzt, if_neg hp, h53, h54]; exact tellZ_eq hu0 (Int.mul_pos a4.bd hgp) hcr part⟩⟩ dX10_gain_91
    · refine lv_iload_n hx hb dX10_gain_21 rfl (lv_at hl 3 rfl) ?_
      refine pw_callSi (As := [.int (iI (part))]) (rest := []) ⟨hx, hb, hml, hown, hts⟩ (r_none l D E part part1 part2) (va_cwS 1 hts gX10_gain_X10_none rfl rfl rfl (by decide +kernel) ⟨Nat.le_of_ble_eq_true rfl, Nat.le_of_ble_eq_true rfl⟩) hK trivial rfl hl.1 rfl (Nat.le_of_ble_eq_true rfl) dX10_gain_22 ⟨Nat.zero_le _, Nat.zero_le _⟩ hS (fun q h => h.elim) (fun zn H1 locs1 hzn hz1 hk1 hS => ?_)
      have hO := hO.k (hk1 _ hO.lt (fun h => h))
      have hC := hC.k (hk1 _ hC.lt (fun h => h))
      have hU := hU.k (hk1 _ hU.lt (fun h => h))
      have hDn := hDn.k (hk1 _ hDn.lt (fun h => h))
      have hW := hW.k (hk1 _ hW.lt (fun h => h))
      have hBs := hBs.k (hk1 _ hBs.lt (fun h => h))
      have hCh := hCh.k (hk1 _ hCh.lt (fun h => h))
      have hNx := hNx.k (hk1 _ hNx.lt (fun h => h))
      have hP := hP.k (hk1 _ hP.lt (fun h => h))
      have hOw := hOw.k (hk1 _ hOw.lt (fun h => h))
      have hTg := hTg.k (hk1 _ hTg.lt (fun h => h))
      have hf := hf.k (hk1 _ hf.lt (fun h => h))
      have hg := hg.k (hk1 _ hg.lt (fun h => h))
      have hh := hh.k (hk1 _ hh.lt (fun h => h))
      subst hzn
      refine pw_i2l hx hb dX10_gain_25 ?_
      exact pw_lret hx hb hr hlocks hS ⟨⟨_, _, _, _, _, _, _, _, _, _, _, _, hO, hC, hU, hDn, hW, hBs, hCh, hNx, ⟨f, g, h, ⟨hf, hg, hh⟩, hN⟩, hP, hOw, hTg, hRI⟩, Or.inl ⟨(fun h => by have := hzi.mpr h.2.1; omega), rfl⟩⟩ dX10_gain_26
set_option maxHeartbeats 4000000 in
set_option maxRecDepth 100000 in
/-- worth(k, s, part) -/
theorem r_worth (l : Launch) (D : va_G) (E : Nat → ClassId) (r0 : Nat) (σ : MS) (rn k st part : Int) (k1 : -2147483648 ≤ k) (k2 : k ≤ 2147483647) (st1 : -2147483648 ≤ st) (st2 : st ≤ 2147483647) (part1 : -2147483648 ≤ part) (part2 : part ≤ 2147483647) : pw_M rvL l D E yX10_worth wsX10_worth ({ frames := 5, cells := 0, slots := 0, locals := 129 } : Room) [.ref (r0), .int (iI (k)), .int (iI (st)), .int (iI (part))] (fun H => RPO D E r0 σ rn H) (fun z H => RPO D E r0 σ rn H ∧ ((¬ (rdy σ ∧ 0 ≤ k ∧ k ≤ 3 ∧ 0 ≤ st ∧ st < (mN σ : Int) ∧ -1 ≤ part) ∧ z = (if part = -1 then -2 else -1)) ∨ ((rdy σ ∧ 0 ≤ k ∧ k ≤ 3 ∧ 0 ≤ st ∧ st < (mN σ : Int) ∧ -1 ≤ part) ∧ ∃ w d, PV σ (tpol σ k.toNat) w d ∧ z = tellZ (w st.toNat) d part))) (fun q => r0 ≤ q ∧ q ≤ r0 + 13) (0) (0) := by
  refine pw_of (cc := cX10_worth) (maxL := 5) (ret := (some .long)) (by decide +kernel) rfl (Nat.le_of_ble_eq_true rfl) ?_
  intro p e s m args below meth c hx hb hr hml hts hown hlocks hini hK ⟨th, so, co, bst, ch, nx, vs0, ow, tg, gU, gD, gW, hO, hC, hU, hDn, hW, hBs, hCh, hNx, hB, hP, hOw, hTg, hRI⟩ ls hl
  have hown : s.vm.findClass RX10 = some m.cls := hown
  have hl : lv_has ls 5 [(0, .ref (r0)), (1, .int (iI (k))), (2, .int (iI (st))), (3, .int (iI (part)))] := hl
  have hS : va_S (fun q => r0 ≤ q ∧ q ≤ r0 + 13) s.heap s.heap [] := va_S.rf
  have lk_7 := hts (.fieldLink RX10 7 "PolicyWorksModel" "actionCounts" "[I") (by decide +kernel)
  have lk_32 := hts (.fieldLink RX10 32 "PolicyWorksModel" "chosen" "[I") (by decide +kernel)
  have lk_56 := hts (.fieldLink RX10 56 "PolicyWorksModel" "thrown" "I") (by decide +kernel)
  have lk_103 := hts (.fieldLink RX10 103 "PolicyWorksModel" "states" "I") (by decide +kernel)
  have kc_194 := hts (.constantLong RX10 194 (3)) (by decide +kernel)
  have hin10 : ∀ w ∈ wsX100, w ∈ wsX10_worth := by decide +kernel
  have hok := hRI.1
  have hm := hRI.2.1
  have hN6 := hok.1
  have hC4 := hok.2.1
  have hso := hRI.2.2.2
  have hrs : (so = 0 ∧ rn = 0) ∨ (so = 1 ∧ 0 < rn) := hso.elim (fun h => Or.inl ⟨h.2, h.1⟩) (fun h => Or.inr ⟨h.2.1, h.1⟩)
  obtain ⟨f, g, h, ⟨hf, hg, hh⟩, hN⟩ := hB
  have b16 : 268435456 ^ 14 < 268435456 ^ 16 ∧ 268435456 ^ 16 * 8000000000 < 268435456 ^ 62 := by decide +kernel
  obtain ⟨mx, bw, ⟨x1, x2, x3, x4, x5⟩, hbw, hrv⟩ := rv_ex
  have p62 : 268435456 ^ 16 < 268435456 ^ 62 ∧ 268435456 ^ 14 < 268435456 ^ 62 := by decide +kernel
  have hv8 : ∀ q, 68 ≤ q ∧ q ≤ 74 → vs0 (q) = vs0 q := fun _ _ => rfl
  have loop : ∀ (mm n : Nat) (ch : Nat → Int) (H : Heap) (locs : List Loc) (ls : Array Slot), rdy σ → 0 ≤ k ∧ k ≤ 3 → 0 ≤ st ∧ st < (mN σ : Int) → n + mm = mN σ → (∀ q, q < n → ch q = (tpol σ k.toNat q : Int)) → OA D r0 10 [.int (iI (0)), .int (iI ((mN σ : Int))), .ref (r0 + 1), .ref (r0 + 2), .ref (r0 + 3), .ref (r0 + 4), .int (iI ((mA σ : Int))), .int (iI ((mB σ : Int))), .int (iI (so)), .int (iI (rn)), .ref (r0 + 5), .ref (r0 + 6), .ref (r0 + 7), .ref (r0 + 8), .ref (r0 + 9), .ref (r0 + 10), .ref (r0 + 11), .ref (r0 + 12), .ref (r0 + 13), .int (iI (co))] H → IA E (r0 + 1) 6 (fun s => (mC σ s : Int)) H → IA E (r0 + 2) 24 gU H → IA E (r0 + 3) 24 gD H → IA E (r0 + 4) 144 gW H → IA E (r0 + 5) 6 bst H → IA E (r0 + 6) 6 ch H → IA E (r0 + 7) 6 nx H → IA E (r0 + 8) 5120 f H → IA E (r0 + 9) 80 g H → IA E (r0 + 10) 80 h H → IA E (r0 + 11) 30 prm H → IA E (r0 + 12) 30 ow H → IA E (r0 + 13) 30 tg H → va_S (fun q => r0 ≤ q ∧ q ≤ r0 + 13) s.heap H locs → lv_has ls 5 [(0, .ref (r0)), (1, .int (iI (k))), (2, .int (iI (st))), (3, .int (iI (part))), (4, .int (iI ((n : Int))))] → W p l e ({ frames := 5, cells := 0, slots := 0, locals := 129 } : Room) s m args below meth c H locs (0) (0) (MQ below (pw_Q rvL (fun z H => RPO D E r0 σ rn H ∧ ((¬ (rdy σ ∧ 0 ≤ k ∧ k ≤ 3 ∧ 0 ≤ st ∧ st < (mN σ : Int) ∧ -1 ≤ part) ∧ z = (if part = -1 then -2 else -1)) ∨ ((rdy σ ∧ 0 ≤ k ∧ k ≤ 3 ∧ 0 ≤ st ∧ st < (mN σ : Int) ∧ -1 ≤ part) ∧ ∃ w d, PV σ (tpol σ k.toNat) w d ∧ z = tellZ (w st.toNat) d part))) (fun q => r0 ≤ q ∧ q ≤ r0 + 13)) args s (0) (0) (fun q => r0 ≤ q ∧ q ≤ r0 + 13)) (F0 m 41 ls []) := by
    intro mm
    induction mm with
    | zero =>
      intro n ch H locs ls hrd hk hst hn hch hO hC hU hDn hW hBs hCh hNx hf hg hh hP hOw hTg hS hl
      have en : n = mN σ := by omega
      subst en
      have hlt : ∀ s, s < mN σ → tpol σ k.toNat s < mC σ s := fun s hs => by have := (hrd.2 s hs).1; unfold tpol; omega
      refine lv_iload hx hb dX10_worth_41 (lv_at hl 4 rfl) ?_
      refine lv_aload_n hx hb dX10_worth_43 rfl (lv_at hl 0 rfl) ?_
      refine pw_get (C := RX10) (T := TX10) (N := 20) hx hb hts hin10 hown hK hO rfl 1 (by decide) lk_103 rfl rfl dX10_worth_44 ?_
      refine pw_icmp_ge (tgt := 87) hx hb dX10_worth_47 (by decide) (fun c_47 => ?_) (fun c_47 => absurd c_47 (by omega))
      refine lv_aload_n hx hb dX10_worth_87 rfl (lv_at hl 0 rfl) ?_
      refine pw_callVv (As := []) (rest := []) ⟨hx, hb, hml, hown, hts⟩ (r_valuePolicy l D E r0 σ 0 so rn co gU gD gW ch vs0 (tpol σ k.toNat) hok hrd hm hlt hch) (cwV 0 hts gX10_worth_X10_valuePolicy rfl rfl rfl (by decide +kernel) ⟨Nat.le_of_ble_eq_true rfl, Nat.le_of_ble_eq_true rfl⟩) hK hO rfl ⟨hO, hU, hDn, hW, hCh, f, g, h, ⟨hf, hg, hh⟩, hN⟩ rfl hl.1 rfl (Nat.le_of_ble_eq_true rfl) dX10_worth_88 ⟨Nat.zero_le _, Nat.zero_le _⟩ hS (fun q h => by (try dsimp only at h); (try dsimp only); omega) (fun H1 locs1 ⟨cm, vs, hO, ⟨f, g, h, ⟨hf, hg, hh⟩, hN⟩, hcm, h48, hY, hvo⟩ hz1 hk1 hS => ?_)
      have hC := hC.k (hk1 _ hC.lt (by (try dsimp only); omega))
      have hU := hU.k (hk1 _ hU.lt (by (try dsimp only); omega))
      have hDn := hDn.k (hk1 _ hDn.lt (by (try dsimp only); omega))
      have hW := hW.k (hk1 _ hW.lt (by (try dsimp only); omega))
      have hBs := hBs.k (hk1 _ hBs.lt (by (try dsimp only); omega))
      have hCh := hCh.k (hk1 _ hCh.lt (by (try dsimp only); omega))
      have hNx := hNx.k (hk1 _ hNx.lt (by (try dsimp only); omega))
      have hP := hP.k (hk1 _ hP.lt (by (try dsimp only); omega))
      have hOw := hOw.k (hk1 _ hOw.lt (by (try dsimp only); omega))
      have hTg := hTg.k (hk1 _ hTg.lt (by (try dsimp only); omega))
      have hb48 : (vs 48).natAbs ≤ bw := by rw [h48]; exact hbw σ _ cm hok hlt hcm.2.1
      have hv8 : ∀ q, 68 ≤ q ∧ q ≤ 74 → vs (q) = vs0 q := fun q hq => hvo q (by omega)
      clear hvo
      have h48 : vs (48) = eP (qm σ (tpol σ k.toNat) cm) (mN σ) := h48
      have hY : ∀ s, s < mN σ → vs (42 + s) = eY (qm σ (tpol σ k.toNat) cm) (mN σ) (mN σ) s := hY
      have hYk := hY st.toNat (by omega)
      refine lv_aload_n hx hb dX10_worth_91 rfl (lv_at hl 0 rfl) ?_
      refine pw_bipush hx hb dX10_worth_92 ?_
      refine lv_iload_n hx hb dX10_worth_94 rfl (lv_at hl 2 rfl) ?_
      refine pw_iadd hx hb dX10_worth_95 ?_
      refine pw_asi (((42 + st.toNat : Nat) : Int)) (by omega) ?_
      refine pw_bipush hx hb dX10_worth_96 ?_
      refine pw_callVv (As := [.int (iI (((42 + st.toNat : Nat) : Int))), .int (iI (53))]) (rest := []) ⟨hx, hb, hml, hown, hts⟩ (r_copy l D E r0 (oV 0 σ so rn (cm : Int)) f g h (42 + st.toNat) 53 (eY (qm σ (tpol σ k.toNat) cm) (mN σ) (mN σ) st.toNat) (by omega) (by omega) (by omega) (num_at (hN (42 + st.toNat) (by omega)) hYk)) (cwV 2 hts gX10_worth_X10_copy rfl rfl rfl (by decide +kernel) ⟨Nat.le_of_ble_eq_true rfl, Nat.le_of_ble_eq_true rfl⟩) hK hO rfl ⟨hO, hf, hg, hh⟩ rfl hl.1 rfl (Nat.le_of_ble_eq_true rfl) dX10_worth_98 ⟨Nat.zero_le _, Nat.zero_le _⟩ hS (fun q h => by (try dsimp only at h); (try dsimp only); omega) (fun H1 locs1 ⟨f, g, h, ⟨hf, hg, hh⟩, hn1, ho1⟩ hz1 hk1 hS => ?_)
      have hO := hO.k (hk1 _ hO.lt (by (try dsimp only); omega))
      have hC := hC.k (hk1 _ hC.lt (by (try dsimp only); omega))
      have hU := hU.k (hk1 _ hU.lt (by (try dsimp only); omega))
      have hDn := hDn.k (hk1 _ hDn.lt (by (try dsimp only); omega))
      have hW := hW.k (hk1 _ hW.lt (by (try dsimp only); omega))
      have hBs := hBs.k (hk1 _ hBs.lt (by (try dsimp only); omega))
      have hCh := hCh.k (hk1 _ hCh.lt (by (try dsimp only); omega))
      have hNx := hNx.k (hk1 _ hNx.lt (by (try dsimp only); omega))
      have hP := hP.k (hk1 _ hP.lt (by (try dsimp only); omega))
      have hOw := hOw.k (hk1 _ hOw.lt (by (try dsimp only); omega))
      have hTg := hTg.k (hk1 _ hTg.lt (by (try dsimp only); omega))
      obtain ⟨vs, hva0, hvo, hN⟩ := bn_np hN hn1 ho1
      clear hn1 ho1
      have h48 : vs (48) = eP (qm σ (tpol σ k.toNat) cm) (mN σ) := (hvo _ (by omega)).trans h48
      have hY : ∀ s, s < mN σ → vs (42 + s) = eY (qm σ (tpol σ k.toNat) cm) (mN σ) (mN σ) s := fun s hq => (hvo _ (by omega)).trans (hY s hq)
      have hv8 : ∀ q, 68 ≤ q ∧ q ≤ 74 → vs (q) = vs0 q := fun q hq => (hvo _ (by omega)).trans (hv8 q hq)
      have h53 : vs (53) = eY (qm σ (tpol σ k.toNat) cm) (mN σ) (mN σ) st.toNat := hva0
      clear hva0 hvo
      refine lv_aload_n hx hb dX10_worth_101 rfl (lv_at hl 0 rfl) ?_
      refine pw_bipush hx hb dX10_worth_102 ?_
      refine pw_callVv (As := [.int (iI (54))]) (rest := []) ⟨hx, hb, hml, hown, hts⟩ (r_belowInto l D E r0 σ 0 so rn cm vs 54 hcm.2.1 (by omega) (by omega) (by rw [h48]; exact Nat.lt_of_le_of_lt (hbw σ _ cm hok hlt hcm.2.1) x5)) (cwV 1 hts gX10_worth_X10_belowInto rfl rfl rfl (by decide +kernel) ⟨Nat.le_of_ble_eq_true rfl, Nat.le_of_ble_eq_true rfl⟩) hK hO rfl ⟨hO, f, g, h, ⟨hf, hg, hh⟩, hN⟩ rfl hl.1 rfl (Nat.le_of_ble_eq_true rfl) dX10_worth_104 ⟨Nat.zero_le _, Nat.zero_le _⟩ hS (fun q h => by (try dsimp only at h); (try dsimp only); omega) (fun H1 locs1 ⟨vs1, ⟨f, g, h, ⟨hf, hg, hh⟩, hN⟩, h54, hvo⟩ hz1 hk1 hS => ?_)
      have hO := hO.k (hk1 _ hO.lt (by (try dsimp only); omega))
      have hC := hC.k (hk1 _ hC.lt (by (try dsimp only); omega))
      have hU := hU.k (hk1 _ hU.lt (by (try dsimp only); omega))
      have hDn := hDn.k (hk1 _ hDn.lt (by (try dsimp only); omega))
      have hW := hW.k (hk1 _ hW.lt (by (try dsimp only); omega))
      have hBs := hBs.k (hk1 _ hBs.lt (by (try dsimp only); omega))
      have hCh := hCh.k (hk1 _ hCh.lt (by (try dsimp only); omega))
      have hNx := hNx.k (hk1 _ hNx.lt (by (try dsimp only); omega))
      have hP := hP.k (hk1 _ hP.lt (by (try dsimp only); omega))
      have hOw := hOw.k (hk1 _ hOw.lt (by (try dsimp only); omega))
      have hTg := hTg.k (hk1 _ hTg.lt (by (try dsimp only); omega))
      rw [h48] at h54
      have h53 : vs1 (53) = _ := (hvo 53 (by omega)).trans h53
      have hRV : RVal mx bw σ (tpol σ k.toNat) vs1 := hrv σ _ cm vs1 hok hrd hlt hcm h54 (fun s hs => by rw [hvo _ (by omega)]; exact hY s hs)
      obtain ⟨y1, y2, y3, v, b, y4, y5⟩ := hRV
      have h42 := (hvo (42 + st.toNat) (by omega)).trans (hY st.toNat (by omega))
      have hv8 : ∀ q, 68 ≤ q ∧ q ≤ 74 → vs1 (q) = vs0 q := fun q hq => (hvo q (by omega)).trans (hv8 q hq)
      have y3k := y3 st.toNat (by omega)
      have y5k := y5 st.toNat (by omega)
      rw [h42, ← h53] at y3k y5k
      refine lv_aload_n hx hb dX10_worth_107 rfl (lv_at hl 0 rfl) ?_
      refine lv_iload_n hx hb dX10_worth_108 rfl (lv_at hl 3 rfl) ?_
      refine pw_callVl (As := [.int (iI (part))]) (rest := []) ⟨hx, hb, hml, hown, hts⟩ (r_tell l D E r0 (oV 0 σ so rn (cm : Int)) vs1 part part1 part2 y1 (by omega) (by omega)) (cwV 1 hts gX10_worth_X10_tell rfl rfl rfl (by decide +kernel) ⟨Nat.le_of_ble_eq_true rfl, Nat.le_of_ble_eq_true rfl⟩) hK hO rfl ⟨hO, f, g, h, ⟨hf, hg, hh⟩, hN⟩ rfl hl.1 rfl (Nat.le_of_ble_eq_true rfl) dX10_worth_109 ⟨Nat.zero_le _, Nat.zero_le _⟩ hS (fun q h => by (try dsimp only at h); (try dsimp only); omega) (fun zt H1 locs1 ⟨hzt, vst, ⟨f, g, h, ⟨hf, hg, hh⟩, hN⟩, hvt⟩ hz1 hk1 hS => ?_)
      have hO := hO.k (hk1 _ hO.lt (by (try dsimp only); omega))
      have hC := hC.k (hk1 _ hC.lt (by (try dsimp only); omega))
      have hU := hU.k (hk1 _ hU.lt (by (try dsimp only); omega))
      have hDn := hDn.k (hk1 _ hDn.lt (by (try dsimp only); omega))
      have hW := hW.k (hk1 _ hW.lt (by (try dsimp only); omega))
      have hBs := hBs.k (hk1 _ hBs.lt (by (try dsimp only); omega))
      have hCh := hCh.k (hk1 _ hCh.lt (by (try dsimp only); omega))
      have hNx := hNx.k (hk1 _ hNx.lt (by (try dsimp only); omega))
      have hP := hP.k (hk1 _ hP.lt (by (try dsimp only); omega))
      have hOw := hOw.k (hk1 _ hOw.lt (by (try dsimp only); omega))
      have hTg := hTg.k (hk1 _ hTg.lt (by (try dsimp only); omega))
      have hR2 : RI σ rn so bst vst gU gD gW := hRI.vs (fun q hq => (hvt q (by omega)).trans (hv8 q hq))
      by_cases hp : part < -1
      · exact pw_lret hx hb hr hlocks hS ⟨⟨_, _, _, _, _, _, _, _, _, _, _, _, hO, hC, hU, hDn, hW, hBs, hCh, hNx, ⟨f, g, h, ⟨hf, hg, hh⟩, hN⟩, hP, hOw, hTg, hR2⟩, Or.inl ⟨fun h => by omega, by rw [hzt, if_pos hp, if_neg (by omega)]⟩⟩ dX10_worth_112
      · exact pw_lret hx hb hr hlocks hS ⟨⟨_, _, _, _, _, _, _, _, _, _, _, _, hO, hC, hU, hDn, hW, hBs, hCh, hNx, ⟨f, g, h, ⟨hf, hg, hh⟩, hN⟩, hP, hOw, hTg, hR2⟩, Or.inr ⟨⟨hrd, hk.1, hk.2, hst.1, hst.2, by omega⟩, v, b, y4, by rw [hzt, if_neg hp]; exact tellZ_eq y1 y4.1 y5k.symm part⟩⟩ dX10_worth_112
    | succ mm ih =>
      intro n ch H locs ls hrd hk hst hn hch hO hC hU hDn hW hBs hCh hNx hf hg hh hP hOw hTg hS hl
      have hc4 := hC4 n (by omega)
      have hc0 := (hrd.2 n (by omega)).1
      refine lv_iload hx hb dX10_worth_41 (lv_at hl 4 rfl) ?_
      refine lv_aload_n hx hb dX10_worth_43 rfl (lv_at hl 0 rfl) ?_
      refine pw_get (C := RX10) (T := TX10) (N := 20) hx hb hts hin10 hown hK hO rfl 1 (by decide) lk_103 rfl rfl dX10_worth_44 ?_
      refine pw_icmp_ge (tgt := 87) hx hb dX10_worth_47 (by decide) (fun c_47 => absurd c_47 (by omega)) (fun c_47 => ?_)
      refine lv_aload_n hx hb dX10_worth_50 rfl (lv_at hl 0 rfl) ?_
      refine pw_get (C := RX10) (T := TX10) (N := 20) hx hb hts hin10 hown hK hO rfl 11 (by decide) lk_32 rfl rfl dX10_worth_51 ?_
      refine lv_iload hx hb dX10_worth_54 (lv_at hl 4 rfl) ?_
      refine lv_iload_n hx hb dX10_worth_56 rfl (lv_at hl 1 rfl) ?_
      refine lv_aload_n hx hb dX10_worth_57 rfl (lv_at hl 0 rfl) ?_
      refine pw_get (C := RX10) (T := TX10) (N := 20) hx hb hts hin10 hown hK hO rfl 2 (by decide) lk_7 rfl rfl dX10_worth_58 ?_
      refine lv_iload hx hb dX10_worth_61 (lv_at hl 4 rfl) ?_
      refine pw_iald hx hb hK hC (n) rfl (by omega) (by omega) dX10_worth_63 ?_
      refine pw_asi ((mC σ (n) : Int)) rfl ?_
      refine pw_icmp_ge (tgt := 71) hx hb dX10_worth_64 (by decide) (fun c_64 => ?_) (fun c_64 => ?_)
      · refine lv_aload_n hx hb dX10_worth_71 rfl (lv_at hl 0 rfl) ?_
        refine pw_get (C := RX10) (T := TX10) (N := 20) hx hb hts hin10 hown hK hO rfl 2 (by decide) lk_7 rfl rfl dX10_worth_72 ?_
        refine lv_iload hx hb dX10_worth_75 (lv_at hl 4 rfl) ?_
        refine pw_iald hx hb hK hC (n) rfl (by omega) (by omega) dX10_worth_77 ?_
        refine pw_asi ((mC σ (n) : Int)) rfl ?_
        refine pw_iconst hx hb dX10_worth_78 ?_
        refine pw_isub hx hb dX10_worth_79 ?_
        refine pw_asi ((tpol σ k.toNat n : Int)) (by unfold tpol; omega) ?_
        refine pw_iast hx hb hK hCh hS (by (try dsimp only); omega) (n) rfl (by omega) (by omega) dX10_worth_80 (fun H1 locs1 hnew hz1 oq hS => ?_)
        have hO := hO.k (oq _ (by omega))
        have hC := hC.k (oq _ (by omega))
        have hU := hU.k (oq _ (by omega))
        have hDn := hDn.k (oq _ (by omega))
        have hW := hW.k (oq _ (by omega))
        have hBs := hBs.k (oq _ (by omega))
        have hNx := hNx.k (oq _ (by omega))
        have hP := hP.k (oq _ (by omega))
        have hOw := hOw.k (oq _ (by omega))
        have hTg := hTg.k (oq _ (by omega))
        have hf := hf.k (oq _ (by omega))
        have hg := hg.k (oq _ (by omega))
        have hh := hh.k (oq _ (by omega))
        have hCh := hnew
        clear hnew oq hz1
        refine lv_iinc (v := iI (((n + 1 : Nat) : Int))) (lv' := [(4, .int (iI (((n + 1 : Nat) : Int)))), (0, .ref (r0)), (1, .int (iI (k))), (2, .int (iI (st))), (3, .int (iI (part)))]) hx hb dX10_worth_81 hl (k := 4) rfl (by show iI _ + iI _ = _; exact (iI_add _ _).trans (by first | rfl | (congr 1; omega))) (by decide) rfl (fun ls hl => ?_)
        refine lv_goto (tgt := 41) hx hb dX10_worth_84 (by decide) ?_
        exact ih (n + 1) _ _ _ _ hrd hk hst (by omega) (fun q hq => by
          unfold ud
          by_cases e : q = n
          · subst e; rw [if_pos rfl]
          · rw [if_neg e]; exact hch q (by omega)) hO hC hU hDn hW hBs hCh hNx hf hg hh hP hOw hTg hS (lv_sub hl [1, 2, 3, 4, 0] rfl)
      · refine lv_iload_n hx hb dX10_worth_67 rfl (lv_at hl 1 rfl) ?_
        refine pw_asi ((tpol σ k.toNat n : Int)) (by unfold tpol; omega) ?_
        refine lv_goto (tgt := 80) hx hb dX10_worth_68 (by decide) ?_
        refine pw_iast hx hb hK hCh hS (by (try dsimp only); omega) (n) rfl (by omega) (by omega) dX10_worth_80 (fun H1 locs1 hnew hz1 oq hS => ?_)
        have hO := hO.k (oq _ (by omega))
        have hC := hC.k (oq _ (by omega))
        have hU := hU.k (oq _ (by omega))
        have hDn := hDn.k (oq _ (by omega))
        have hW := hW.k (oq _ (by omega))
        have hBs := hBs.k (oq _ (by omega))
        have hNx := hNx.k (oq _ (by omega))
        have hP := hP.k (oq _ (by omega))
        have hOw := hOw.k (oq _ (by omega))
        have hTg := hTg.k (oq _ (by omega))
        have hf := hf.k (oq _ (by omega))
        have hg := hg.k (oq _ (by omega))
        have hh := hh.k (oq _ (by omega))
        have hCh := hnew
        clear hnew oq hz1
        refine lv_iinc (v := iI (((n + 1 : Nat) : Int))) (lv' := [(4, .int (iI (((n + 1 : Nat) : Int)))), (0, .ref (r0)), (1, .int (iI (k))), (2, .int (iI (st))), (3, .int (iI (part)))]) hx hb dX10_worth_81 hl (k := 4) rfl (by show iI _ + iI _ = _; exact (iI_add _ _).trans (by first | rfl | (congr 1; omega))) (by decide) rfl (fun ls hl => ?_)
        refine lv_goto (tgt := 41) hx hb dX10_worth_84 (by decide) ?_
        exact ih (n + 1) _ _ _ _ hrd hk hst (by omega) (fun q hq => by
          unfold ud
          by_cases e : q = n
          · subst e; rw [if_pos rfl]
          · rw [if_neg e]; exact hch q (by omega)) hO hC hU hDn hW hBs hCh hNx hf hg hh hP hOw hTg hS (lv_sub hl [1, 2, 3, 4, 0] rfl)
  refine lv_aload_n hx hb dX10_worth_0 rfl (lv_at hl 0 rfl) ?_
  refine pw_iconst hx hb dX10_worth_1 ?_
  refine pw_put (C := RX10) (T := TX10) (N := 20) hx hb hts hin10 tyX10 tyX10_ok nmX10 hown hK hO hS (by (try dsimp only); omega) rfl 0 (by decide) lk_56 rfl rfl rfl rfl (by show _ < 20; decide) dX10_worth_2 (fun H1 locs1 hnew hz1 oq hS => ?_)
  have hC := hC.k (oq _ (by omega))
  have hU := hU.k (oq _ (by omega))
  have hDn := hDn.k (oq _ (by omega))
  have hW := hW.k (oq _ (by omega))
  have hBs := hBs.k (oq _ (by omega))
  have hCh := hCh.k (oq _ (by omega))
  have hNx := hNx.k (oq _ (by omega))
  have hP := hP.k (oq _ (by omega))
  have hOw := hOw.k (oq _ (by omega))
  have hTg := hTg.k (oq _ (by omega))
  have hf := hf.k (oq _ (by omega))
  have hg := hg.k (oq _ (by omega))
  have hh := hh.k (oq _ (by omega))
  have hO : OA D (r0) 10 [.int (iI (0)), .int (iI ((mN σ : Int))), .ref (r0 + 1), .ref (r0 + 2), .ref (r0 + 3), .ref (r0 + 4), .int (iI ((mA σ : Int))), .int (iI ((mB σ : Int))), .int (iI (so)), .int (iI (rn)), .ref (r0 + 5), .ref (r0 + 6), .ref (r0 + 7), .ref (r0 + 8), .ref (r0 + 9), .ref (r0 + 10), .ref (r0 + 11), .ref (r0 + 12), .ref (r0 + 13), .int (iI (co))] H1 := hnew
  clear hnew oq hz1
  refine lv_aload_n hx hb dX10_worth_5 rfl (lv_at hl 0 rfl) ?_
  refine pw_callVi (As := []) (rest := []) ⟨hx, hb, hml, hown, hts⟩ (r_isReady l D E r0 σ 0 so rn co gU gD gW hok hm) (cwV 0 hts gX10_worth_X10_isReady rfl rfl rfl (by decide +kernel) ⟨Nat.le_of_ble_eq_true rfl, Nat.le_of_ble_eq_true rfl⟩) hK hO rfl ⟨hO, hC, hW⟩ rfl hl.1 rfl (Nat.le_of_ble_eq_true rfl) dX10_worth_6 ⟨Nat.zero_le _, Nat.zero_le _⟩ hS (fun q h => h.elim) (fun zy H1 locs1 ⟨hy01, hyr⟩ hz1 hk1 hS => ?_)
  have hO := hO.k (hk1 _ hO.lt (fun h => h))
  have hC := hC.k (hk1 _ hC.lt (fun h => h))
  have hU := hU.k (hk1 _ hU.lt (fun h => h))
  have hDn := hDn.k (hk1 _ hDn.lt (fun h => h))
  have hW := hW.k (hk1 _ hW.lt (fun h => h))
  have hBs := hBs.k (hk1 _ hBs.lt (fun h => h))
  have hCh := hCh.k (hk1 _ hCh.lt (fun h => h))
  have hNx := hNx.k (hk1 _ hNx.lt (fun h => h))
  have hP := hP.k (hk1 _ hP.lt (fun h => h))
  have hOw := hOw.k (hk1 _ hOw.lt (fun h => h))
  have hTg := hTg.k (hk1 _ hTg.lt (fun h => h))
  have hf := hf.k (hk1 _ hf.lt (fun h => h))
  have hg := hg.k (hk1 _ hg.lt (fun h => h))
  have hh := hh.k (hk1 _ hh.lt (fun h => h))
  refine pw_if_eq (tgt := 32) hx hb dX10_worth_9 (by decide) (fun c_9 => ?_) (fun c_9 => ?_)
  · refine lv_iload_n hx hb dX10_worth_32 rfl (lv_at hl 3 rfl) ?_
    refine pw_callSi (As := [.int (iI (part))]) (rest := []) ⟨hx, hb, hml, hown, hts⟩ (r_none l D E part part1 part2) (va_cwS 1 hts gX10_worth_X10_none rfl rfl rfl (by decide +kernel) ⟨Nat.le_of_ble_eq_true rfl, Nat.le_of_ble_eq_true rfl⟩) hK trivial rfl hl.1 rfl (Nat.le_of_ble_eq_true rfl) dX10_worth_33 ⟨Nat.zero_le _, Nat.zero_le _⟩ hS (fun q h => h.elim) (fun zn H1 locs1 hzn hz1 hk1 hS => ?_)
    have hO := hO.k (hk1 _ hO.lt (fun h => h))
    have hC := hC.k (hk1 _ hC.lt (fun h => h))
    have hU := hU.k (hk1 _ hU.lt (fun h => h))
    have hDn := hDn.k (hk1 _ hDn.lt (fun h => h))
    have hW := hW.k (hk1 _ hW.lt (fun h => h))
    have hBs := hBs.k (hk1 _ hBs.lt (fun h => h))
    have hCh := hCh.k (hk1 _ hCh.lt (fun h => h))
    have hNx := hNx.k (hk1 _ hNx.lt (fun h => h))
    have hP := hP.k (hk1 _ hP.lt (fun h => h))
    have hOw := hOw.k (hk1 _ hOw.lt (fun h => h))
    have hTg := hTg.k (hk1 _ hTg.lt (fun h => h))
    have hf := hf.k (hk1 _ hf.lt (fun h => h))
    have hg := hg.k (hk1 _ hg.lt (fun h => h))
    have hh := hh.k (hk1 _ hh.lt (fun h => h))
    subst hzn
    refine pw_i2l hx hb dX10_worth_36 ?_
    exact pw_lret hx hb hr hlocks hS ⟨⟨_, _, _, _, _, _, _, _, _, _, _, _, hO, hC, hU, hDn, hW, hBs, hCh, hNx, ⟨f, g, h, ⟨hf, hg, hh⟩, hN⟩, hP, hOw, hTg, hRI⟩, Or.inl ⟨fun h => absurd (hyr.mpr h.1) (by omega), rfl⟩⟩ dX10_worth_37
  · refine lv_iload_n hx hb dX10_worth_12 rfl (lv_at hl 1 rfl) ?_
    refine pw_i2l hx hb dX10_worth_13 ?_
    refine pw_lconst (z := 0) hx hb dX10_worth_14 ?_
    refine pw_ldc2 (z := 3) hx hb hown kc_194 (by decide +kernel) dX10_worth_15 ?_
    refine pw_callSi (As := [.long (lI (k)), .long (lI (0)), .long (lI (3))]) (rest := []) ⟨hx, hb, hml, hown, hts⟩ (r_in l D E k 0 3 (by omega) (by omega) (by omega) (by omega) (by omega) (by omega)) (va_cwS 3 hts gX10_worth_X10_in rfl rfl rfl (by decide +kernel) ⟨Nat.le_of_ble_eq_true rfl, Nat.le_of_ble_eq_true rfl⟩) hK trivial rfl hl.1 rfl (Nat.le_of_ble_eq_true rfl) dX10_worth_18 ⟨Nat.zero_le _, Nat.zero_le _⟩ hS (fun q h => h.elim) (fun zi H1 locs1 hi3 hz1 hk1 hS => ?_)
    have hO := hO.k (hk1 _ hO.lt (fun h => h))
    have hC := hC.k (hk1 _ hC.lt (fun h => h))
    have hU := hU.k (hk1 _ hU.lt (fun h => h))
    have hDn := hDn.k (hk1 _ hDn.lt (fun h => h))
    have hW := hW.k (hk1 _ hW.lt (fun h => h))
    have hBs := hBs.k (hk1 _ hBs.lt (fun h => h))
    have hCh := hCh.k (hk1 _ hCh.lt (fun h => h))
    have hNx := hNx.k (hk1 _ hNx.lt (fun h => h))
    have hP := hP.k (hk1 _ hP.lt (fun h => h))
    have hOw := hOw.k (hk1 _ hOw.lt (fun h => h))
    have hTg := hTg.k (hk1 _ hTg.lt (fun h => h))
    have hf := hf.k (hk1 _ hf.lt (fun h => h))
    have hg := hg.k (hk1 _ hg.lt (fun h => h))
    have hh := hh.k (hk1 _ hh.lt (fun h => h))
    have hi01 : 0 ≤ zi ∧ zi ≤ 1 := by rw [hi3]; split <;> omega
    refine pw_if_eq (tgt := 32) hx hb dX10_worth_21 (by decide) (fun c_21 => ?_) (fun c_21 => ?_)
    · refine lv_iload_n hx hb dX10_worth_32 rfl (lv_at hl 3 rfl) ?_
      refine pw_callSi (As := [.int (iI (part))]) (rest := []) ⟨hx, hb, hml, hown, hts⟩ (r_none l D E part part1 part2) (va_cwS 1 hts gX10_worth_X10_none rfl rfl rfl (by decide +kernel) ⟨Nat.le_of_ble_eq_true rfl, Nat.le_of_ble_eq_true rfl⟩) hK trivial rfl hl.1 rfl (Nat.le_of_ble_eq_true rfl) dX10_worth_33 ⟨Nat.zero_le _, Nat.zero_le _⟩ hS (fun q h => h.elim) (fun zn H1 locs1 hzn hz1 hk1 hS => ?_)
      have hO := hO.k (hk1 _ hO.lt (fun h => h))
      have hC := hC.k (hk1 _ hC.lt (fun h => h))
      have hU := hU.k (hk1 _ hU.lt (fun h => h))
      have hDn := hDn.k (hk1 _ hDn.lt (fun h => h))
      have hW := hW.k (hk1 _ hW.lt (fun h => h))
      have hBs := hBs.k (hk1 _ hBs.lt (fun h => h))
      have hCh := hCh.k (hk1 _ hCh.lt (fun h => h))
      have hNx := hNx.k (hk1 _ hNx.lt (fun h => h))
      have hP := hP.k (hk1 _ hP.lt (fun h => h))
      have hOw := hOw.k (hk1 _ hOw.lt (fun h => h))
      have hTg := hTg.k (hk1 _ hTg.lt (fun h => h))
      have hf := hf.k (hk1 _ hf.lt (fun h => h))
      have hg := hg.k (hk1 _ hg.lt (fun h => h))
      have hh := hh.k (hk1 _ hh.lt (fun h => h))
      subst hzn
      refine pw_i2l hx hb dX10_worth_36 ?_
      exact pw_lret hx hb hr hlocks hS ⟨⟨_, _, _, _, _, _, _, _, _, _, _, _, hO, hC, hU, hDn, hW, hBs, hCh, hNx, ⟨f, g, h, ⟨hf, hg, hh⟩, hN⟩, hP, hOw, hTg, hRI⟩, Or.inl ⟨fun h => by rw [if_pos ⟨h.2.1, h.2.2.1⟩] at hi3; omega, rfl⟩⟩ dX10_worth_37
    · have hk3 : 0 ≤ k ∧ k ≤ 3 := by
        by_cases h : 0 ≤ k ∧ k ≤ 3
        · exact h
        · rw [if_neg h] at hi3; omega
      refine lv_aload_n hx hb dX10_worth_24 rfl (lv_at hl 0 rfl) ?_
      refine lv_iload_n hx hb dX10_worth_25 rfl (lv_at hl 2 rfl) ?_
      refine pw_callVi (As := [.int (iI (st))]) (rest := []) ⟨hx, hb, hml, hown, hts⟩ (r_isState l D E r0 σ 0 so rn co hok st st1 st2) (cwV 1 hts gX10_worth_X10_isState rfl rfl rfl (by decide +kernel) ⟨Nat.le_of_ble_eq_true rfl, Nat.le_of_ble_eq_true rfl⟩) hK hO rfl hO rfl hl.1 rfl (Nat.le_of_ble_eq_true rfl) dX10_worth_26 ⟨Nat.zero_le _, Nat.zero_le _⟩ hS (fun q h => h.elim) (fun z H1 locs1 hz hz1 hk1 hS => ?_)
      have hO := hO.k (hk1 _ hO.lt (fun h => h))
      have hC := hC.k (hk1 _ hC.lt (fun h => h))
      have hU := hU.k (hk1 _ hU.lt (fun h => h))
      have hDn := hDn.k (hk1 _ hDn.lt (fun h => h))
      have hW := hW.k (hk1 _ hW.lt (fun h => h))
      have hBs := hBs.k (hk1 _ hBs.lt (fun h => h))
      have hCh := hCh.k (hk1 _ hCh.lt (fun h => h))
      have hNx := hNx.k (hk1 _ hNx.lt (fun h => h))
      have hP := hP.k (hk1 _ hP.lt (fun h => h))
      have hOw := hOw.k (hk1 _ hOw.lt (fun h => h))
      have hTg := hTg.k (hk1 _ hTg.lt (fun h => h))
      have hf := hf.k (hk1 _ hf.lt (fun h => h))
      have hg := hg.k (hk1 _ hg.lt (fun h => h))
      have hh := hh.k (hk1 _ hh.lt (fun h => h))
      have hz01 : 0 ≤ z ∧ z ≤ 1 := by rw [hz]; split <;> omega
      refine pw_if_ne (tgt := 38) hx hb dX10_worth_29 (by decide) (fun c_29 => ?_) (fun c_29 => ?_)
      · have hkin : 0 ≤ st ∧ st < (mN σ : Int) := by
          by_cases h : 0 ≤ st ∧ st < (mN σ : Int)
          · exact h
          · rw [if_neg h] at hz; omega
        refine pw_iconst hx hb dX10_worth_38 ?_
        refine pw_asi (((0 : Nat) : Int)) rfl ?_
        refine lv_istore (lv' := [(4, .int (iI (((0 : Nat) : Int)))), (0, .ref (r0)), (1, .int (iI (k))), (2, .int (iI (st))), (3, .int (iI (part)))]) hx hb dX10_worth_39 hl (by decide) rfl (fun ls hl => ?_)
        exact loop (mN σ) 0 ch _ _ _ (hyr.mp (by omega)) hk3 hkin (by omega) (fun q hq => by omega) hO hC hU hDn hW hBs hCh hNx hf hg hh hP hOw hTg hS (lv_sub hl [1, 2, 3, 4, 0] rfl)
      · refine lv_iload_n hx hb dX10_worth_32 rfl (lv_at hl 3 rfl) ?_
        refine pw_callSi (As := [.int (iI (part))]) (rest := []) ⟨hx, hb, hml, hown, hts⟩ (r_none l D E part part1 part2) (va_cwS 1 hts gX10_worth_X10_none rfl rfl rfl (by decide +kernel) ⟨Nat.le_of_ble_eq_true rfl, Nat.le_of_ble_eq_true rfl⟩) hK trivial rfl hl.1 rfl (Nat.le_of_ble_eq_true rfl) dX10_worth_33 ⟨Nat.zero_le _, Nat.zero_le _⟩ hS (fun q h => h.elim) (fun zn H1 locs1 hzn hz1 hk1 hS => ?_)
        have hO := hO.k (hk1 _ hO.lt (fun h => h))
        have hC := hC.k (hk1 _ hC.lt (fun h => h))
        have hU := hU.k (hk1 _ hU.lt (fun h => h))
        have hDn := hDn.k (hk1 _ hDn.lt (fun h => h))
        have hW := hW.k (hk1 _ hW.lt (fun h => h))
        have hBs := hBs.k (hk1 _ hBs.lt (fun h => h))
        have hCh := hCh.k (hk1 _ hCh.lt (fun h => h))
        have hNx := hNx.k (hk1 _ hNx.lt (fun h => h))
        have hP := hP.k (hk1 _ hP.lt (fun h => h))
        have hOw := hOw.k (hk1 _ hOw.lt (fun h => h))
        have hTg := hTg.k (hk1 _ hTg.lt (fun h => h))
        have hf := hf.k (hk1 _ hf.lt (fun h => h))
        have hg := hg.k (hk1 _ hg.lt (fun h => h))
        have hh := hh.k (hk1 _ hh.lt (fun h => h))
        subst hzn
        refine pw_i2l hx hb dX10_worth_36 ?_
        exact pw_lret hx hb hr hlocks hS ⟨⟨_, _, _, _, _, _, _, _, _, _, _, _, hO, hC, hU, hDn, hW, hBs, hCh, hNx, ⟨f, g, h, ⟨hf, hg, hh⟩, hN⟩, hP, hOw, hTg, hRI⟩, Or.inl ⟨fun h => by rw [if_pos ⟨h.2.2.2.1, h.2.2.2.2.1⟩] at hz; omega, rfl⟩⟩ dX10_worth_37
