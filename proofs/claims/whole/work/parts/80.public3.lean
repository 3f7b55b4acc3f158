/-! the public methods: count, value, gain, worth, steps, plan -/
theorem LV.gs {σ : MS} (hN : mN σ ≤ 6) {kn : Nat} {V : Nat → Nat → Int} {B : Nat → Int} {pk : Nat → Nat → Int} (h : LV σ kn V B pk) : ∀ k, k < kn → GS σ k (V k) (B k)
  | 0, hk => by
    obtain ⟨cm, c1, c2, c3, c4⟩ := h.2 (by omega)
    exact ⟨by rw [c3]; have := c1.1; omega, fun s hs => c2 s (by omega)⟩
  | k + 1, hk => by
    obtain ⟨cm, c1, c2, c3, c4⟩ := h.2 (by omega)
    obtain ⟨b1, _, _, b4⟩ := c4 k hk
    exact ⟨b1, V k, B k, LV.gs hN h k (by omega), fun s hs => (b4 s hs).2.2⟩
theorem LV.pk {σ : MS} {kn : Nat} {V : Nat → Nat → Int} {B : Nat → Int} {pk : Nat → Nat → Int} (h : LV σ kn V B pk) {k : Nat} (hk : k + 1 < kn) {s : Nat} (hs : s < mN σ) : pk (k + 1) s = (spk σ (V k) (B k) s : Int) := by
  obtain ⟨cm, c1, c2, c3, c4⟩ := h.2 (by omega)
  exact ((c4 k hk).2.2.2 s hs).1
set_option maxHeartbeats 4000000 in
set_option maxRecDepth 100000 in
/-- count(k) -/
theorem c_count (l : Launch) (D : va_G) (E : Nat → ClassId) (o0 : Nat) (σ : MS) (rn k : Int) (k1 : -2147483648 ≤ k) (k2 : k ≤ 2147483647) : pw_M rvI l D E yX9_count wsX9_count ({ frames := 2, cells := 0, slots := 0, locals := 46 } : Room) [.ref (o0), .int (iI (k))] (fun H => PO D E o0 σ rn H) (fun z H => PO D E o0 σ rn H ∧ z = (if k = 0 then (mN σ : Int) else if k = 1 then ((sA σ (qR σ 0) (mN σ) : Nat) : Int) else if k = 2 then rn else if k = 3 then ((sA σ (qR σ 1) (mN σ) : Nat) : Int) else -1)) (fun q => o0 ≤ q ∧ q ≤ o0 + 582) (0) (0) := by
  refine pw_of (cc := cX9_count) (maxL := 2) (ret := (some .int)) (by decide +kernel) rfl (Nat.le_of_ble_eq_true rfl) ?_
  intro p e s m args below meth c hx hb hr hml hts hown hlocks hini hK ⟨bv, bd, bp, wn, wd, wq, kn, V, B, pk, ⟨hO, hM, hE, hCx, hLD, hRW, hBP, hQ, hWS, hZ, hT, hF, hW1, hW2, hW3⟩, hINV⟩ ls hl
  have hown : s.vm.findClass RX9 = some m.cls := hown
  have hl : lv_has ls 2 [(0, .ref (o0)), (1, .int (iI (k)))] := hl
  have hS : va_S (fun q => o0 ≤ q ∧ q ≤ o0 + 582) s.heap s.heap [] := va_S.rf
  have lk_10 := hts (.fieldLink RX9 10 "PolicyWorks" "model" "LPolicyWorks$Model;") (by decide +kernel)
  have lk_81 := hts (.fieldLink RX9 81 "PolicyWorks" "rounds" "I") (by decide +kernel)
  have lk_85 := hts (.fieldLink RX9 85 "PolicyWorks$Model" "states" "I") (by decide +kernel)
  have hin6 : ∀ w ∈ wsX60, w ∈ wsX9_count := by decide +kernel
  have hin9 : ∀ w ∈ wsX90, w ∈ wsX9_count := by decide +kernel
  have hMO := hM.1
  have hMC := hM.2.1
  have hMQ := hM.2.2.1
  have hAT : ATS D E (o0 + 1) σ s.heap := hM.2.2.2
  have hLO := hLD.1
  have hLR : LDR D E (o0 + 326) V B pk s.heap := hLD.2
  have hok := hINV.1
  have hrn := hINV.2.1
  have hN6 := hok.1
  have hC4 := hok.2.1
  have hA1 := sA_b hok (qR_1 σ 1) (mN σ) hN6
  have hA0 := sA_b hok (qR_1 σ 0) (mN σ) hN6
  refine lv_iload_n hx hb dX9_count_0 rfl (lv_at hl 1 rfl) ?_
  rcases (show k = 0 ∨ k = 1 ∨ k = 2 ∨ k = 3 ∨ (k < 0 ∨ 3 < k) by omega) with hk | hk | hk | hk | hk
  · refine lv_tableIn (off := 31) (tgt := 32) hx hb dX9_count_1 (by rw [iI_t k1 k2]; omega) (by rw [iI_t k1 k2]; omega) (by rw [iI_t k1 k2, hk]; rfl) (by decide) ?_
    refine lv_aload_n hx hb dX9_count_32 rfl (lv_at hl 0 rfl) ?_
    refine pw_get (C := RX9) (T := TX9) (N := 14) hx hb hts hin9 hown hK hO rfl 0 (by decide) lk_10 rfl rfl dX9_count_33 ?_
    refine pw_get (C := RX6) (T := TX6) (N := 5) hx hb hts hin6 hown hK hMO rfl 2 (by decide) lk_85 rfl rfl dX9_count_36 ?_
    exact pw_iret hx hb hr hlocks hS ⟨⟨bv, bd, bp, wn, wd, wq, kn, V, B, pk, ⟨hO, hM, hE, hCx, ⟨hLO, hLR⟩, hRW, hBP, hQ, hWS, hZ, hT, hF, hW1, hW2, hW3⟩, hINV⟩, by rw [if_pos (by omega)]⟩ dX9_count_39
  · refine lv_tableIn (off := 39) (tgt := 40) hx hb dX9_count_1 (by rw [iI_t k1 k2]; omega) (by rw [iI_t k1 k2]; omega) (by rw [iI_t k1 k2, hk]; rfl) (by decide) ?_
    refine lv_aload_n hx hb dX9_count_40 rfl (lv_at hl 0 rfl) ?_
    refine pw_get (C := RX9) (T := TX9) (N := 14) hx hb hts hin9 hown hK hO rfl 0 (by decide) lk_10 rfl rfl dX9_count_41 ?_
    refine pw_iconst hx hb dX9_count_44 ?_
    refine pw_callVi (As := [.int (iI (0))]) (rest := []) ⟨hx, hb, hml, hown, hts⟩ (c_countActions l D E (o0 + 1) σ 0 hok (by omega)) (cwV 1 hts gX9_count_X6_countActions rfl rfl rfl (by decide +kernel) ⟨Nat.le_of_ble_eq_true rfl, Nat.le_of_ble_eq_true rfl⟩) hK hMO rfl hM rfl hl.1 rfl (Nat.le_of_ble_eq_true rfl) dX9_count_45 ⟨Nat.zero_le _, Nat.zero_le _⟩ hS (fun q h => h.elim) (fun z H1 locs1 hz hz1 hk1 hS => ?_)
    have hO := hO.k (hk1 _ hO.lt (fun h => h))
    have hM := hM.k (fun q h1 h2 h3 => (hk1 _ h3 (fun h => h)))
    have hMO := hMO.k (hk1 _ hMO.lt (fun h => h))
    have hMC := hMC.k (hk1 _ hMC.lt (fun h => h))
    have hMQ := hMQ.k (hk1 _ hMQ.lt (fun h => h))
    have hAT := hAT.k (fun q h1 h2 h3 => (hk1 _ h3 (fun h => h)))
    have hE := hE.k (fun q h1 h2 h3 => (hk1 _ h3 (fun h => h)))
    have hCx := hCx.k (fun q h1 h2 h3 => (hk1 _ h3 (fun h => h)))
    have hLO := hLO.k (hk1 _ hLO.lt (fun h => h))
    have hLR := hLR.k (fun q h1 h2 h3 => (hk1 _ h3 (fun h => h)))
    have hRW := hRW.k (fun q h1 h2 h3 => (hk1 _ h3 (fun h => h)))
    have hBP := hBP.k (hk1 _ hBP.lt (fun h => h))
    have hQ := hQ.k (hk1 _ hQ.lt (fun h => h))
    have hWS := hWS.k (fun q h1 h2 h3 => (hk1 _ h3 (fun h => h)))
    have hZ := hZ.k (hk1 _ hZ.lt (fun h => h))
    have hT := hT.k (fun q h1 h2 h3 => (hk1 _ h3 (fun h => h)))
    have hF := hF.k (fun q h1 h2 h3 => (hk1 _ h3 (fun h => h)))
    have hW1 := hW1.k (fun q h1 h2 h3 => (hk1 _ h3 (fun h => h)))
    have hW2 := hW2.k (fun q h1 h2 h3 => (hk1 _ h3 (fun h => h)))
    have hW3 := hW3.k (fun q h1 h2 h3 => (hk1 _ h3 (fun h => h)))
    subst hz
    exact pw_iret hx hb hr hlocks hS ⟨⟨bv, bd, bp, wn, wd, wq, kn, V, B, pk, ⟨hO, hM, hE, hCx, ⟨hLO, hLR⟩, hRW, hBP, hQ, hWS, hZ, hT, hF, hW1, hW2, hW3⟩, hINV⟩, by rw [if_neg (by omega), if_pos (by omega)]⟩ dX9_count_48
  · refine lv_tableIn (off := 48) (tgt := 49) hx hb dX9_count_1 (by rw [iI_t k1 k2]; omega) (by rw [iI_t k1 k2]; omega) (by rw [iI_t k1 k2, hk]; rfl) (by decide) ?_
    refine lv_aload_n hx hb dX9_count_49 rfl (lv_at hl 0 rfl) ?_
    refine pw_get (C := RX9) (T := TX9) (N := 14) hx hb hts hin9 hown hK hO rfl 13 (by decide) lk_81 rfl rfl dX9_count_50 ?_
    exact pw_iret hx hb hr hlocks hS ⟨⟨bv, bd, bp, wn, wd, wq, kn, V, B, pk, ⟨hO, hM, hE, hCx, ⟨hLO, hLR⟩, hRW, hBP, hQ, hWS, hZ, hT, hF, hW1, hW2, hW3⟩, hINV⟩, by rw [if_neg (by omega), if_neg (by omega), if_pos (by omega)]⟩ dX9_count_53
  · refine lv_tableIn (off := 53) (tgt := 54) hx hb dX9_count_1 (by rw [iI_t k1 k2]; omega) (by rw [iI_t k1 k2]; omega) (by rw [iI_t k1 k2, hk]; rfl) (by decide) ?_
    refine lv_aload_n hx hb dX9_count_54 rfl (lv_at hl 0 rfl) ?_
    refine pw_get (C := RX9) (T := TX9) (N := 14) hx hb hts hin9 hown hK hO rfl 0 (by decide) lk_10 rfl rfl dX9_count_55 ?_
    refine pw_iconst hx hb dX9_count_58 ?_
    refine pw_callVi (As := [.int (iI (1))]) (rest := []) ⟨hx, hb, hml, hown, hts⟩ (c_countActions l D E (o0 + 1) σ 1 hok (by omega)) (cwV 1 hts gX9_count_X6_countActions rfl rfl rfl (by decide +kernel) ⟨Nat.le_of_ble_eq_true rfl, Nat.le_of_ble_eq_true rfl⟩) hK hMO rfl hM rfl hl.1 rfl (Nat.le_of_ble_eq_true rfl) dX9_count_59 ⟨Nat.zero_le _, Nat.zero_le _⟩ hS (fun q h => h.elim) (fun z H1 locs1 hz hz1 hk1 hS => ?_)
    have hO := hO.k (hk1 _ hO.lt (fun h => h))
    have hM := hM.k (fun q h1 h2 h3 => (hk1 _ h3 (fun h => h)))
    have hMO := hMO.k (hk1 _ hMO.lt (fun h => h))
    have hMC := hMC.k (hk1 _ hMC.lt (fun h => h))
    have hMQ := hMQ.k (hk1 _ hMQ.lt (fun h => h))
    have hAT := hAT.k (fun q h1 h2 h3 => (hk1 _ h3 (fun h => h)))
    have hE := hE.k (fun q h1 h2 h3 => (hk1 _ h3 (fun h => h)))
    have hCx := hCx.k (fun q h1 h2 h3 => (hk1 _ h3 (fun h => h)))
    have hLO := hLO.k (hk1 _ hLO.lt (fun h => h))
    have hLR := hLR.k (fun q h1 h2 h3 => (hk1 _ h3 (fun h => h)))
    have hRW := hRW.k (fun q h1 h2 h3 => (hk1 _ h3 (fun h => h)))
    have hBP := hBP.k (hk1 _ hBP.lt (fun h => h))
    have hQ := hQ.k (hk1 _ hQ.lt (fun h => h))
    have hWS := hWS.k (fun q h1 h2 h3 => (hk1 _ h3 (fun h => h)))
    have hZ := hZ.k (hk1 _ hZ.lt (fun h => h))
    have hT := hT.k (fun q h1 h2 h3 => (hk1 _ h3 (fun h => h)))
    have hF := hF.k (fun q h1 h2 h3 => (hk1 _ h3 (fun h => h)))
    have hW1 := hW1.k (fun q h1 h2 h3 => (hk1 _ h3 (fun h => h)))
    have hW2 := hW2.k (fun q h1 h2 h3 => (hk1 _ h3 (fun h => h)))
    have hW3 := hW3.k (fun q h1 h2 h3 => (hk1 _ h3 (fun h => h)))
    subst hz
    exact pw_iret hx hb hr hlocks hS ⟨⟨bv, bd, bp, wn, wd, wq, kn, V, B, pk, ⟨hO, hM, hE, hCx, ⟨hLO, hLR⟩, hRW, hBP, hQ, hWS, hZ, hT, hF, hW1, hW2, hW3⟩, hINV⟩, by rw [if_neg (by omega), if_neg (by omega), if_neg (by omega), if_pos (by omega)]⟩ dX9_count_62
  · refine lv_tableOut (tgt := 63) hx hb dX9_count_1 (by rw [iI_t k1 k2]; exact hk) (by decide) ?_
    refine pw_iconst hx hb dX9_count_63 ?_
    exact pw_iret hx hb hr hlocks hS ⟨⟨bv, bd, bp, wn, wd, wq, kn, V, B, pk, ⟨hO, hM, hE, hCx, ⟨hLO, hLR⟩, hRW, hBP, hQ, hWS, hZ, hT, hF, hW1, hW2, hW3⟩, hINV⟩, by rw [if_neg (by omega), if_neg (by omega), if_neg (by omega), if_neg (by omega)]⟩ dX9_count_64
set_option maxHeartbeats 4000000 in
set_option maxRecDepth 100000 in
/-- value(k, part) -/
theorem c_value (l : Launch) (D : va_G) (E : Nat → ClassId) (o0 : Nat) (σ : MS) (rn k part : Int) (k1 : -2147483648 ≤ k) (k2 : k ≤ 2147483647) (part1 : -2147483648 ≤ part) (part2 : part ≤ 2147483647) : pw_M rvL l D E yX9_value wsX9_value ({ frames := 6, cells := 0, slots := 0, locals := 146 } : Room) [.ref (o0), .int (iI (k)), .int (iI (part))] (fun H => PO D E o0 σ rn H) (fun z H => PO D E o0 σ rn H ∧ ((¬ (0 < rn ∧ 0 ≤ k ∧ k < (mN σ : Int) ∧ -1 ≤ part) ∧ z = (if part = -1 then -2 else -1)) ∨ ((0 < rn ∧ 0 ≤ k ∧ k < (mN σ : Int) ∧ -1 ≤ part) ∧ ∃ bp bv bd, SOL σ rn.toNat bp bv bd ∧ z = tellZ (bv k.toNat) bd part))) (fun q => o0 ≤ q ∧ q ≤ o0 + 582) (0) (0) := by
  refine pw_of (cc := cX9_value) (maxL := 3) (ret := (some .long)) (by decide +kernel) rfl (Nat.le_of_ble_eq_true rfl) ?_
  intro p e s m args below meth c hx hb hr hml hts hown hlocks hini hK ⟨bv, bd, bp, wn, wd, wq, kn, V, B, pk, ⟨hO, hM, hE, hCx, hLD, hRW, hBP, hQ, hWS, hZ, hT, hF, hW1, hW2, hW3⟩, hINV⟩ ls hl
  have hown : s.vm.findClass RX9 = some m.cls := hown
  have hl : lv_has ls 3 [(0, .ref (o0)), (1, .int (iI (k))), (2, .int (iI (part)))] := hl
  have hS : va_S (fun q => o0 ≤ q ∧ q ≤ o0 + 582) s.heap s.heap [] := va_S.rf
  have lk_10 := hts (.fieldLink RX9 10 "PolicyWorks" "model" "LPolicyWorks$Model;") (by decide +kernel)
  have lk_42 := hts (.fieldLink RX9 42 "PolicyWorks" "bestValues" "LPolicyWorks$Row;") (by decide +kernel)
  have lk_64 := hts (.fieldLink RX9 64 "PolicyWorks" "told" "LPolicyWorks$Fraction;") (by decide +kernel)
  have lk_81 := hts (.fieldLink RX9 81 "PolicyWorks" "rounds" "I") (by decide +kernel)
  have hin9 : ∀ w ∈ wsX90, w ∈ wsX9_value := by decide +kernel
  have hMO := hM.1
  have hMC := hM.2.1
  have hMQ := hM.2.2.1
  have hAT : ATS D E (o0 + 1) σ s.heap := hM.2.2.2
  have hLO := hLD.1
  have hLR : LDR D E (o0 + 326) V B pk s.heap := hLD.2
  have hok := hINV.1
  have hrn := hINV.2.1
  have hN6 := hok.1
  have hC4 := hok.2.1
  obtain ⟨fu, fw, fo1, fo2, fo3, hF⟩ := hF
  refine lv_aload_n hx hb dX9_value_0 rfl (lv_at hl 0 rfl) ?_
  refine pw_get (C := RX9) (T := TX9) (N := 14) hx hb hts hin9 hown hK hO rfl 13 (by decide) lk_81 rfl rfl dX9_value_1 ?_
  refine pw_if_eq (tgt := 23) hx hb dX9_value_4 (by decide) (fun c_4 => ?_) (fun c_4 => ?_)
  · refine lv_iload_n hx hb dX9_value_23 rfl (lv_at hl 2 rfl) ?_
    refine pw_callSl (As := [.int (iI (part))]) (rest := []) ⟨hx, hb, hml, hown, hts⟩ (c_refusal l D E part part1 part2) (va_cwS 1 hts gX9_value_X9_refusal rfl rfl rfl (by decide +kernel) ⟨Nat.le_of_ble_eq_true rfl, Nat.le_of_ble_eq_true rfl⟩) hK trivial rfl hl.1 rfl (Nat.le_of_ble_eq_true rfl) dX9_value_24 ⟨Nat.zero_le _, Nat.zero_le _⟩ hS (fun q h => h.elim) (fun zn H1 locs1 hzn hz1 hk1 hS => ?_)
    have hO := hO.k (hk1 _ hO.lt (fun h => h))
    have hM := hM.k (fun q h1 h2 h3 => (hk1 _ h3 (fun h => h)))
    have hMO := hMO.k (hk1 _ hMO.lt (fun h => h))
    have hMC := hMC.k (hk1 _ hMC.lt (fun h => h))
    have hMQ := hMQ.k (hk1 _ hMQ.lt (fun h => h))
    have hAT := hAT.k (fun q h1 h2 h3 => (hk1 _ h3 (fun h => h)))
    have hE := hE.k (fun q h1 h2 h3 => (hk1 _ h3 (fun h => h)))
    have hCx := hCx.k (fun q h1 h2 h3 => (hk1 _ h3 (fun h => h)))
    have hLO := hLO.k (hk1 _ hLO.lt (fun h => h))
    have hLR := hLR.k (fun q h1 h2 h3 => (hk1 _ h3 (fun h => h)))
    have hRW := hRW.k (fun q h1 h2 h3 => (hk1 _ h3 (fun h => h)))
    have hBP := hBP.k (hk1 _ hBP.lt (fun h => h))
    have hQ := hQ.k (hk1 _ hQ.lt (fun h => h))
    have hWS := hWS.k (fun q h1 h2 h3 => (hk1 _ h3 (fun h => h)))
    have hZ := hZ.k (hk1 _ hZ.lt (fun h => h))
    have hT := hT.k (fun q h1 h2 h3 => (hk1 _ h3 (fun h => h)))
    have hW1 := hW1.k (fun q h1 h2 h3 => (hk1 _ h3 (fun h => h)))
    have hW2 := hW2.k (fun q h1 h2 h3 => (hk1 _ h3 (fun h => h)))
    have hW3 := hW3.k (fun q h1 h2 h3 => (hk1 _ h3 (fun h => h)))
    have hF := hF.k (fun q h1 h2 h3 => (hk1 _ h3 (fun h => h)))
    subst hzn
    exact pw_lret hx hb hr hlocks hS ⟨⟨bv, bd, bp, wn, wd, wq, kn, V, B, pk, ⟨hO, hM, hE, hCx, ⟨hLO, hLR⟩, hRW, hBP, hQ, hWS, hZ, hT, ⟨_, _, _, _, _, hF⟩, hW1, hW2, hW3⟩, hINV⟩, Or.inl ⟨fun h => by omega, rfl⟩⟩ dX9_value_27
  · refine lv_aload_n hx hb dX9_value_7 rfl (lv_at hl 0 rfl) ?_
    refine pw_get (C := RX9) (T := TX9) (N := 14) hx hb hts hin9 hown hK hO rfl 0 (by decide) lk_10 rfl rfl dX9_value_8 ?_
    refine lv_iload_n hx hb dX9_value_11 rfl (lv_at hl 1 rfl) ?_
    refine pw_callVi (As := [.int (iI (k))]) (rest := []) ⟨hx, hb, hml, hown, hts⟩ (c_hasState l D E (o0 + 1) σ k hok (by omega) (by omega)) (cwV 1 hts gX9_value_X6_hasState rfl rfl rfl (by decide +kernel) ⟨Nat.le_of_ble_eq_true rfl, Nat.le_of_ble_eq_true rfl⟩) hK hMO rfl hM rfl hl.1 rfl (Nat.le_of_ble_eq_true rfl) dX9_value_12 ⟨Nat.zero_le _, Nat.zero_le _⟩ hS (fun q h => h.elim) (fun z H1 locs1 hz hz1 hk1 hS => ?_)
    have hO := hO.k (hk1 _ hO.lt (fun h => h))
    have hM := hM.k (fun q h1 h2 h3 => (hk1 _ h3 (fun h => h)))
    have hMO := hMO.k (hk1 _ hMO.lt (fun h => h))
    have hMC := hMC.k (hk1 _ hMC.lt (fun h => h))
    have hMQ := hMQ.k (hk1 _ hMQ.lt (fun h => h))
    have hAT := hAT.k (fun q h1 h2 h3 => (hk1 _ h3 (fun h => h)))
    have hE := hE.k (fun q h1 h2 h3 => (hk1 _ h3 (fun h => h)))
    have hCx := hCx.k (fun q h1 h2 h3 => (hk1 _ h3 (fun h => h)))
    have hLO := hLO.k (hk1 _ hLO.lt (fun h => h))
    have hLR := hLR.k (fun q h1 h2 h3 => (hk1 _ h3 (fun h => h)))
    have hRW := hRW.k (fun q h1 h2 h3 => (hk1 _ h3 (fun h => h)))
    have hBP := hBP.k (hk1 _ hBP.lt (fun h => h))
    have hQ := hQ.k (hk1 _ hQ.lt (fun h => h))
    have hWS := hWS.k (fun q h1 h2 h3 => (hk1 _ h3 (fun h => h)))
    have hZ := hZ.k (hk1 _ hZ.lt (fun h => h))
    have hT := hT.k (fun q h1 h2 h3 => (hk1 _ h3 (fun h => h)))
    have hW1 := hW1.k (fun q h1 h2 h3 => (hk1 _ h3 (fun h => h)))
    have hW2 := hW2.k (fun q h1 h2 h3 => (hk1 _ h3 (fun h => h)))
    have hW3 := hW3.k (fun q h1 h2 h3 => (hk1 _ h3 (fun h => h)))
    have hF := hF.k (fun q h1 h2 h3 => (hk1 _ h3 (fun h => h)))
    have hz01 : 0 ≤ z ∧ z ≤ 1 := by rw [hz]; split <;> omega
    refine pw_if_eq (tgt := 23) hx hb dX9_value_15 (by decide) (fun c_15 => ?_) (fun c_15 => ?_)
    · refine lv_iload_n hx hb dX9_value_23 rfl (lv_at hl 2 rfl) ?_
      refine pw_callSl (As := [.int (iI (part))]) (rest := []) ⟨hx, hb, hml, hown, hts⟩ (c_refusal l D E part part1 part2) (va_cwS 1 hts gX9_value_X9_refusal rfl rfl rfl (by decide +kernel) ⟨Nat.le_of_ble_eq_true rfl, Nat.le_of_ble_eq_true rfl⟩) hK trivial rfl hl.1 rfl (Nat.le_of_ble_eq_true rfl) dX9_value_24 ⟨Nat.zero_le _, Nat.zero_le _⟩ hS (fun q h => h.elim) (fun zn H1 locs1 hzn hz1 hk1 hS => ?_)
      have hO := hO.k (hk1 _ hO.lt (fun h => h))
      have hM := hM.k (fun q h1 h2 h3 => (hk1 _ h3 (fun h => h)))
      have hMO := hMO.k (hk1 _ hMO.lt (fun h => h))
      have hMC := hMC.k (hk1 _ hMC.lt (fun h => h))
      have hMQ := hMQ.k (hk1 _ hMQ.lt (fun h => h))
      have hAT := hAT.k (fun q h1 h2 h3 => (hk1 _ h3 (fun h => h)))
      have hE := hE.k (fun q h1 h2 h3 => (hk1 _ h3 (fun h => h)))
      have hCx := hCx.k (fun q h1 h2 h3 => (hk1 _ h3 (fun h => h)))
      have hLO := hLO.k (hk1 _ hLO.lt (fun h => h))
      have hLR := hLR.k (fun q h1 h2 h3 => (hk1 _ h3 (fun h => h)))
      have hRW := hRW.k (fun q h1 h2 h3 => (hk1 _ h3 (fun h => h)))
      have hBP := hBP.k (hk1 _ hBP.lt (fun h => h))
      have hQ := hQ.k (hk1 _ hQ.lt (fun h => h))
      have hWS := hWS.k (fun q h1 h2 h3 => (hk1 _ h3 (fun h => h)))
      have hZ := hZ.k (hk1 _ hZ.lt (fun h => h))
      have hT := hT.k (fun q h1 h2 h3 => (hk1 _ h3 (fun h => h)))
      have hW1 := hW1.k (fun q h1 h2 h3 => (hk1 _ h3 (fun h => h)))
      have hW2 := hW2.k (fun q h1 h2 h3 => (hk1 _ h3 (fun h => h)))
      have hW3 := hW3.k (fun q h1 h2 h3 => (hk1 _ h3 (fun h => h)))
      have hF := hF.k (fun q h1 h2 h3 => (hk1 _ h3 (fun h => h)))
      subst hzn
      exact pw_lret hx hb hr hlocks hS ⟨⟨bv, bd, bp, wn, wd, wq, kn, V, B, pk, ⟨hO, hM, hE, hCx, ⟨hLO, hLR⟩, hRW, hBP, hQ, hWS, hZ, hT, ⟨_, _, _, _, _, hF⟩, hW1, hW2, hW3⟩, hINV⟩, Or.inl ⟨fun h => by rw [if_pos ⟨h.2.1, h.2.2.1⟩] at hz; omega, rfl⟩⟩ dX9_value_27
    · have hkin : 0 ≤ k ∧ k < (mN σ : Int) := by
        by_cases h : 0 ≤ k ∧ k < (mN σ : Int)
        · exact h
        · rw [if_neg h] at hz; omega
      refine lv_iload_n hx hb dX9_value_18 rfl (lv_at hl 2 rfl) ?_
      refine pw_iconst hx hb dX9_value_19 ?_
      refine pw_icmp_ge (tgt := 28) hx hb dX9_value_20 (by decide) (fun c_20 => ?_) (fun c_20 => ?_)
      · have hsol := (hINV.2.2.1 (by omega)).2
        have hw0 : 0 < bd := hsol.bd
        refine lv_aload_n hx hb dX9_value_28 rfl (lv_at hl 0 rfl) ?_
        refine lv_aload_n hx hb dX9_value_29 rfl (lv_at hl 0 rfl) ?_
        refine pw_get (C := RX9) (T := TX9) (N := 14) hx hb hts hin9 hown hK hO rfl 4 (by decide) lk_42 rfl rfl dX9_value_30 ?_
        refine lv_iload_n hx hb dX9_value_33 rfl (lv_at hl 1 rfl) ?_
        refine pw_asi (((k.toNat : Nat) : Int)) (by omega) ?_
        refine pw_callVv (As := [.ref (o0 + 482), .int (iI (((k.toNat : Nat) : Int)))]) (rest := []) ⟨hx, hb, hml, hown, hts⟩ (c_hold l D E o0 (o0 + 482) 8 (k.toNat) rn (bv) (bd) fu fw fo1 fo2 fo3 (by omega) (by omega) (by omega)) (cwV 2 hts gX9_value_X9_hold rfl rfl rfl (by decide +kernel) ⟨Nat.le_of_ble_eq_true rfl, Nat.le_of_ble_eq_true rfl⟩) hK hO rfl ⟨hO, hF, hRW⟩ rfl hl.1 rfl (Nat.le_of_ble_eq_true rfl) dX9_value_34 ⟨Nat.zero_le _, Nat.zero_le _⟩ hS (fun q h => by (try dsimp only at h); (try dsimp only); omega) (fun H1 locs1 hF hz1 hk1 hS => ?_)
        have hO := hO.k (hk1 _ hO.lt (by (try dsimp only); omega))
        have hM := hM.k (fun q h1 h2 h3 => (hk1 _ h3 (by (try dsimp only); omega)))
        have hMO := hMO.k (hk1 _ hMO.lt (by (try dsimp only); omega))
        have hMC := hMC.k (hk1 _ hMC.lt (by (try dsimp only); omega))
        have hMQ := hMQ.k (hk1 _ hMQ.lt (by (try dsimp only); omega))
        have hAT := hAT.k (fun q h1 h2 h3 => (hk1 _ h3 (by (try dsimp only); omega)))
        have hE := hE.k (fun q h1 h2 h3 => (hk1 _ h3 (by (try dsimp only); omega)))
        have hCx := hCx.k (fun q h1 h2 h3 => (hk1 _ h3 (by (try dsimp only); omega)))
        have hLO := hLO.k (hk1 _ hLO.lt (by (try dsimp only); omega))
        have hLR := hLR.k (fun q h1 h2 h3 => (hk1 _ h3 (by (try dsimp only); omega)))
        have hRW := hRW.k (fun q h1 h2 h3 => (hk1 _ h3 (by (try dsimp only); omega)))
        have hBP := hBP.k (hk1 _ hBP.lt (by (try dsimp only); omega))
        have hQ := hQ.k (hk1 _ hQ.lt (by (try dsimp only); omega))
        have hWS := hWS.k (fun q h1 h2 h3 => (hk1 _ h3 (by (try dsimp only); omega)))
        have hZ := hZ.k (hk1 _ hZ.lt (by (try dsimp only); omega))
        have hT := hT.k (fun q h1 h2 h3 => (hk1 _ h3 (by (try dsimp only); omega)))
        have hW1 := hW1.k (fun q h1 h2 h3 => (hk1 _ h3 (by (try dsimp only); omega)))
        have hW2 := hW2.k (fun q h1 h2 h3 => (hk1 _ h3 (by (try dsimp only); omega)))
        have hW3 := hW3.k (fun q h1 h2 h3 => (hk1 _ h3 (by (try dsimp only); omega)))
        refine lv_aload_n hx hb dX9_value_37 rfl (lv_at hl 0 rfl) ?_
        refine pw_get (C := RX9) (T := TX9) (N := 14) hx hb hts hin9 hown hK hO rfl 9 (by decide) lk_64 rfl rfl dX9_value_38 ?_
        refine lv_iload_n hx hb dX9_value_41 rfl (lv_at hl 2 rfl) ?_
        refine pw_callVl (As := [.int (iI (part))]) (rest := []) ⟨hx, hb, hml, hown, hts⟩ (c_tell l D E (o0 + 566) (bv k.toNat) (bd) _ _ _ part hw0 (by omega) part2) (cwV 1 hts gX9_value_X3_tell rfl rfl rfl (by decide +kernel) ⟨Nat.le_of_ble_eq_true rfl, Nat.le_of_ble_eq_true rfl⟩) hK hF.1 rfl hF rfl hl.1 rfl (Nat.le_of_ble_eq_true rfl) dX9_value_42 ⟨Nat.zero_le _, Nat.zero_le _⟩ hS (fun q h => by (try dsimp only at h); (try dsimp only); omega) (fun zt H1 locs1 ⟨hzt, fu, fw, fo1, fo2, fo3, hF⟩ hz1 hk1 hS => ?_)
        have hO := hO.k (hk1 _ hO.lt (by (try dsimp only); omega))
        have hM := hM.k (fun q h1 h2 h3 => (hk1 _ h3 (by (try dsimp only); omega)))
        have hMO := hMO.k (hk1 _ hMO.lt (by (try dsimp only); omega))
        have hMC := hMC.k (hk1 _ hMC.lt (by (try dsimp only); omega))
        have hMQ := hMQ.k (hk1 _ hMQ.lt (by (try dsimp only); omega))
        have hAT := hAT.k (fun q h1 h2 h3 => (hk1 _ h3 (by (try dsimp only); omega)))
        have hE := hE.k (fun q h1 h2 h3 => (hk1 _ h3 (by (try dsimp only); omega)))
        have hCx := hCx.k (fun q h1 h2 h3 => (hk1 _ h3 (by (try dsimp only); omega)))
        have hLO := hLO.k (hk1 _ hLO.lt (by (try dsimp only); omega))
        have hLR := hLR.k (fun q h1 h2 h3 => (hk1 _ h3 (by (try dsimp only); omega)))
        have hRW := hRW.k (fun q h1 h2 h3 => (hk1 _ h3 (by (try dsimp only); omega)))
        have hBP := hBP.k (hk1 _ hBP.lt (by (try dsimp only); omega))
        have hQ := hQ.k (hk1 _ hQ.lt (by (try dsimp only); omega))
        have hWS := hWS.k (fun q h1 h2 h3 => (hk1 _ h3 (by (try dsimp only); omega)))
        have hZ := hZ.k (hk1 _ hZ.lt (by (try dsimp only); omega))
        have hT := hT.k (fun q h1 h2 h3 => (hk1 _ h3 (by (try dsimp only); omega)))
        have hW1 := hW1.k (fun q h1 h2 h3 => (hk1 _ h3 (by (try dsimp only); omega)))
        have hW2 := hW2.k (fun q h1 h2 h3 => (hk1 _ h3 (by (try dsimp only); omega)))
        have hW3 := hW3.k (fun q h1 h2 h3 => (hk1 _ h3 (by (try dsimp only); omega)))
        exact pw_lret hx hb hr hlocks hS ⟨⟨bv, bd, bp, wn, wd, wq, kn, V, B, pk, ⟨hO, hM, hE, hCx, ⟨hLO, hLR⟩, hRW, hBP, hQ, hWS, hZ, hT, ⟨_, _, _, _, _, hF⟩, hW1, hW2, hW3⟩, hINV⟩, Or.inr ⟨⟨by omega, hkin.1, hkin.2, by omega⟩, bp, bv, bd, hsol, hzt⟩⟩ dX9_value_45
      · refine lv_iload_n hx hb dX9_value_23 rfl (lv_at hl 2 rfl) ?_
        refine pw_callSl (As := [.int (iI (part))]) (rest := []) ⟨hx, hb, hml, hown, hts⟩ (c_refusal l D E part part1 part2) (va_cwS 1 hts gX9_value_X9_refusal rfl rfl rfl (by decide +kernel) ⟨Nat.le_of_ble_eq_true rfl, Nat.le_of_ble_eq_true rfl⟩) hK trivial rfl hl.1 rfl (Nat.le_of_ble_eq_true rfl) dX9_value_24 ⟨Nat.zero_le _, Nat.zero_le _⟩ hS (fun q h => h.elim) (fun zn H1 locs1 hzn hz1 hk1 hS => ?_)
        have hO := hO.k (hk1 _ hO.lt (fun h => h))
        have hM := hM.k (fun q h1 h2 h3 => (hk1 _ h3 (fun h => h)))
        have hMO := hMO.k (hk1 _ hMO.lt (fun h => h))
        have hMC := hMC.k (hk1 _ hMC.lt (fun h => h))
        have hMQ := hMQ.k (hk1 _ hMQ.lt (fun h => h))
        have hAT := hAT.k (fun q h1 h2 h3 => (hk1 _ h3 (fun h => h)))
        have hE := hE.k (fun q h1 h2 h3 => (hk1 _ h3 (fun h => h)))
        have hCx := hCx.k (fun q h1 h2 h3 => (hk1 _ h3 (fun h => h)))
        have hLO := hLO.k (hk1 _ hLO.lt (fun h => h))
        have hLR := hLR.k (fun q h1 h2 h3 => (hk1 _ h3 (fun h => h)))
        have hRW := hRW.k (fun q h1 h2 h3 => (hk1 _ h3 (fun h => h)))
        have hBP := hBP.k (hk1 _ hBP.lt (fun h => h))
        have hQ := hQ.k (hk1 _ hQ.lt (fun h => h))
        have hWS := hWS.k (fun q h1 h2 h3 => (hk1 _ h3 (fun h => h)))
        have hZ := hZ.k (hk1 _ hZ.lt (fun h => h))
        have hT := hT.k (fun q h1 h2 h3 => (hk1 _ h3 (fun h => h)))
        have hW1 := hW1.k (fun q h1 h2 h3 => (hk1 _ h3 (fun h => h)))
        have hW2 := hW2.k (fun q h1 h2 h3 => (hk1 _ h3 (fun h => h)))
        have hW3 := hW3.k (fun q h1 h2 h3 => (hk1 _ h3 (fun h => h)))
        have hF := hF.k (fun q h1 h2 h3 => (hk1 _ h3 (fun h => h)))
        subst hzn
        exact pw_lret hx hb hr hlocks hS ⟨⟨bv, bd, bp, wn, wd, wq, kn, V, B, pk, ⟨hO, hM, hE, hCx, ⟨hLO, hLR⟩, hRW, hBP, hQ, hWS, hZ, hT, ⟨_, _, _, _, _, hF⟩, hW1, hW2, hW3⟩, hINV⟩, Or.inl ⟨fun h => by omega, rfl⟩⟩ dX9_value_27
set_option maxHeartbeats 4000000 in
set_option maxRecDepth 100000 in
/-- gain(k, j, part) -/
theorem c_gain (l : Launch) (D : va_G) (E : Nat → ClassId) (o0 : Nat) (σ : MS) (rn k j part : Int) (k1 : -2147483648 ≤ k) (k2 : k ≤ 2147483647) (j1 : -2147483648 ≤ j) (j2 : j ≤ 2147483647) (part1 : -2147483648 ≤ part) (part2 : part ≤ 2147483647) : pw_M rvL l D E yX9_gain wsX9_gain ({ frames := 6, cells := 0, slots := 0, locals := 146 } : Room) [.ref (o0), .int (iI (k)), .int (iI (j)), .int (iI (part))] (fun H => PO D E o0 σ rn H) (fun z H => PO D E o0 σ rn H ∧ ((¬ (0 < rn ∧ (0 ≤ k ∧ k < (mN σ : Int) ∧ 0 ≤ j ∧ j < (mC σ k.toNat : Int)) ∧ -1 ≤ part) ∧ z = (if part = -1 then -2 else -1)) ∨ ((0 < rn ∧ (0 ≤ k ∧ k < (mN σ : Int) ∧ 0 ≤ j ∧ j < (mC σ k.toNat : Int)) ∧ -1 ≤ part) ∧ ∃ bp bv bd, SOL σ rn.toNat bp bv bd ∧ z = tellZ (gnum σ (4 * k.toNat + j.toNat) bv bd) (bd * gsc σ (4 * k.toNat + j.toNat)) part))) (fun q => o0 ≤ q ∧ q ≤ o0 + 582) (0) (0) := by
  refine pw_of (cc := cX9_gain) (maxL := 5) (ret := (some .long)) (by decide +kernel) rfl (Nat.le_of_ble_eq_true rfl) ?_
  intro p e s m args below meth c hx hb hr hml hts hown hlocks hini hK ⟨bv, bd, bp, wn, wd, wq, kn, V, B, pk, ⟨hO, hM, hE, hCx, hLD, hRW, hBP, hQ, hWS, hZ, hT, hF, hW1, hW2, hW3⟩, hINV⟩ ls hl
  have hown : s.vm.findClass RX9 = some m.cls := hown
  have hl : lv_has ls 5 [(0, .ref (o0)), (1, .int (iI (k))), (2, .int (iI (j))), (3, .int (iI (part)))] := hl
  have hS : va_S (fun q => o0 ≤ q ∧ q ≤ o0 + 582) s.heap s.heap [] := va_S.rf
  have lk_10 := hts (.fieldLink RX9 10 "PolicyWorks" "model" "LPolicyWorks$Model;") (by decide +kernel)
  have lk_26 := hts (.fieldLink RX9 26 "PolicyWorks" "chooser" "LPolicyWorks$Chooser;") (by decide +kernel)
  have lk_42 := hts (.fieldLink RX9 42 "PolicyWorks" "bestValues" "LPolicyWorks$Row;") (by decide +kernel)
  have lk_64 := hts (.fieldLink RX9 64 "PolicyWorks" "told" "LPolicyWorks$Fraction;") (by decide +kernel)
  have lk_81 := hts (.fieldLink RX9 81 "PolicyWorks" "rounds" "I") (by decide +kernel)
  have lk_154 := hts (.fieldLink RX9 154 "PolicyWorks$Chooser" "best" "LPolicyWorks$Gain;") (by decide +kernel)
  have lk_164 := hts (.fieldLink RX9 164 "PolicyWorks$Fraction" "above" "LPolicyWorks$Whole;") (by decide +kernel)
  have lk_166 := hts (.fieldLink RX9 166 "PolicyWorks$Gain" "above" "LPolicyWorks$Whole;") (by decide +kernel)
  have lk_171 := hts (.fieldLink RX9 171 "PolicyWorks$Fraction" "below" "LPolicyWorks$Whole;") (by decide +kernel)
  have lk_173 := hts (.fieldLink RX9 173 "PolicyWorks$Row" "below" "LPolicyWorks$Whole;") (by decide +kernel)
  have lk_174 := hts (.fieldLink RX9 174 "PolicyWorks$Gain" "scale" "I") (by decide +kernel)
  have hin1 : ∀ w ∈ wsX10, w ∈ wsX9_gain := by decide +kernel
  have hin3 : ∀ w ∈ wsX30, w ∈ wsX9_gain := by decide +kernel
  have hin4 : ∀ w ∈ wsX40, w ∈ wsX9_gain := by decide +kernel
  have hin7 : ∀ w ∈ wsX70, w ∈ wsX9_gain := by decide +kernel
  have hin9 : ∀ w ∈ wsX90, w ∈ wsX9_gain := by decide +kernel
  have hMO := hM.1
  have hMC := hM.2.1
  have hMQ := hM.2.2.1
  have hAT : ATS D E (o0 + 1) σ s.heap := hM.2.2.2
  have hLO := hLD.1
  have hLR : LDR D E (o0 + 326) V B pk s.heap := hLD.2
  have hok := hINV.1
  have hrn := hINV.2.1
  have hN6 := hok.1
  have hC4 := hok.2.1
  obtain ⟨fu, fw, fo1, fo2, fo3, hF⟩ := hF
  obtain ⟨gb, gr, vb, sb, vr, sr, hCO, hgg, hGb, hGr, gw, hGw⟩ := hCx
  obtain ⟨hFO, hU, hV, h5, h7, h9⟩ := hF
  have hbdW := hRW.2.2.2
  have hROw := hRW.1
  refine lv_aload_n hx hb dX9_gain_0 rfl (lv_at hl 0 rfl) ?_
  refine pw_get (C := RX9) (T := TX9) (N := 14) hx hb hts hin9 hown hK hO rfl 13 (by decide) lk_81 rfl rfl dX9_gain_1 ?_
  refine pw_if_eq (tgt := 24) hx hb dX9_gain_4 (by decide) (fun c_4 => ?_) (fun c_4 => ?_)
  · refine lv_iload_n hx hb dX9_gain_24 rfl (lv_at hl 3 rfl) ?_
    refine pw_callSl (As := [.int (iI (part))]) (rest := []) ⟨hx, hb, hml, hown, hts⟩ (c_refusal l D E part part1 part2) (va_cwS 1 hts gX9_gain_X9_refusal rfl rfl rfl (by decide +kernel) ⟨Nat.le_of_ble_eq_true rfl, Nat.le_of_ble_eq_true rfl⟩) hK trivial rfl hl.1 rfl (Nat.le_of_ble_eq_true rfl) dX9_gain_25 ⟨Nat.zero_le _, Nat.zero_le _⟩ hS (fun q h => h.elim) (fun zn H1 locs1 hzn hz1 hk1 hS => ?_)
    have hO := hO.k (hk1 _ hO.lt (fun h => h))
    have hM := hM.k (fun q h1 h2 h3 => (hk1 _ h3 (fun h => h)))
    have hMO := hMO.k (hk1 _ hMO.lt (fun h => h))
    have hMC := hMC.k (hk1 _ hMC.lt (fun h => h))
    have hMQ := hMQ.k (hk1 _ hMQ.lt (fun h => h))
    have hAT := hAT.k (fun q h1 h2 h3 => (hk1 _ h3 (fun h => h)))
    have hE := hE.k (fun q h1 h2 h3 => (hk1 _ h3 (fun h => h)))
    have hLO := hLO.k (hk1 _ hLO.lt (fun h => h))
    have hLR := hLR.k (fun q h1 h2 h3 => (hk1 _ h3 (fun h => h)))
    have hRW := hRW.k (fun q h1 h2 h3 => (hk1 _ h3 (fun h => h)))
    have hBP := hBP.k (hk1 _ hBP.lt (fun h => h))
    have hQ := hQ.k (hk1 _ hQ.lt (fun h => h))
    have hWS := hWS.k (fun q h1 h2 h3 => (hk1 _ h3 (fun h => h)))
    have hZ := hZ.k (hk1 _ hZ.lt (fun h => h))
    have hT := hT.k (fun q h1 h2 h3 => (hk1 _ h3 (fun h => h)))
    have hW1 := hW1.k (fun q h1 h2 h3 => (hk1 _ h3 (fun h => h)))
    have hW2 := hW2.k (fun q h1 h2 h3 => (hk1 _ h3 (fun h => h)))
    have hW3 := hW3.k (fun q h1 h2 h3 => (hk1 _ h3 (fun h => h)))
    have hCO := hCO.k (hk1 _ hCO.lt (fun h => h))
    have hGb := hGb.k (fun q h1 h2 h3 => (hk1 _ h3 (fun h => h)))
    have hGr := hGr.k (fun q h1 h2 h3 => (hk1 _ h3 (fun h => h)))
    have hGw := hGw.k (hk1 _ (by have := hGw.lt; omega) (fun h => h)) (hk1 _ hGw.lt (fun h => h))
    have hFO := hFO.k (hk1 _ hFO.lt (fun h => h))
    have hU := hU.k (hk1 _ (by have := hU.lt; omega) (fun h => h)) (hk1 _ hU.lt (fun h => h))
    have hV := hV.k (hk1 _ (by have := hV.lt; omega) (fun h => h)) (hk1 _ hV.lt (fun h => h))
    have h5 := h5.k (hk1 _ (by have := h5.lt; omega) (fun h => h)) (hk1 _ h5.lt (fun h => h))
    have h7 := h7.k (hk1 _ (by have := h7.lt; omega) (fun h => h)) (hk1 _ h7.lt (fun h => h))
    have h9 := h9.k (hk1 _ (by have := h9.lt; omega) (fun h => h)) (hk1 _ h9.lt (fun h => h))
    have hROw := hROw.k (hk1 _ hROw.lt (fun h => h))
    have hbdW := hbdW.k (hk1 _ (by have := hbdW.lt; omega) (fun h => h)) (hk1 _ hbdW.lt (fun h => h))
    subst hzn
    exact pw_lret hx hb hr hlocks hS ⟨⟨bv, bd, bp, wn, wd, wq, kn, V, B, pk, ⟨hO, hM, hE, ⟨_, _, _, _, _, _, hCO, hgg, hGb, hGr, gw, hGw⟩, ⟨hLO, hLR⟩, hRW, hBP, hQ, hWS, hZ, hT, ⟨_, _, _, _, _, hFO, hU, hV, h5, h7, h9⟩, hW1, hW2, hW3⟩, hINV⟩, Or.inl ⟨fun h => by omega, rfl⟩⟩ dX9_gain_28
  · refine lv_aload_n hx hb dX9_gain_7 rfl (lv_at hl 0 rfl) ?_
    refine pw_get (C := RX9) (T := TX9) (N := 14) hx hb hts hin9 hown hK hO rfl 0 (by decide) lk_10 rfl rfl dX9_gain_8 ?_
    refine lv_iload_n hx hb dX9_gain_11 rfl (lv_at hl 1 rfl) ?_
    refine lv_iload_n hx hb dX9_gain_12 rfl (lv_at hl 2 rfl) ?_
    refine pw_callVi (As := [.int (iI (k)), .int (iI (j))]) (rest := []) ⟨hx, hb, hml, hown, hts⟩ (c_hasAction l D E (o0 + 1) σ k j hok k1 k2 j1 j2) (cwV 2 hts gX9_gain_X6_hasAction rfl rfl rfl (by decide +kernel) ⟨Nat.le_of_ble_eq_true rfl, Nat.le_of_ble_eq_true rfl⟩) hK hMO rfl hM rfl hl.1 rfl (Nat.le_of_ble_eq_true rfl) dX9_gain_13 ⟨Nat.zero_le _, Nat.zero_le _⟩ hS (fun q h => h.elim) (fun z H1 locs1 ⟨hz01, hzi⟩ hz1 hk1 hS => ?_)
    have hO := hO.k (hk1 _ hO.lt (fun h => h))
    have hM := hM.k (fun q h1 h2 h3 => (hk1 _ h3 (fun h => h)))
    have hMO := hMO.k (hk1 _ hMO.lt (fun h => h))
    have hMC := hMC.k (hk1 _ hMC.lt (fun h => h))
    have hMQ := hMQ.k (hk1 _ hMQ.lt (fun h => h))
    have hAT := hAT.k (fun q h1 h2 h3 => (hk1 _ h3 (fun h => h)))
    have hE := hE.k (fun q h1 h2 h3 => (hk1 _ h3 (fun h => h)))
    have hLO := hLO.k (hk1 _ hLO.lt (fun h => h))
    have hLR := hLR.k (fun q h1 h2 h3 => (hk1 _ h3 (fun h => h)))
    have hRW := hRW.k (fun q h1 h2 h3 => (hk1 _ h3 (fun h => h)))
    have hBP := hBP.k (hk1 _ hBP.lt (fun h => h))
    have hQ := hQ.k (hk1 _ hQ.lt (fun h => h))
    have hWS := hWS.k (fun q h1 h2 h3 => (hk1 _ h3 (fun h => h)))
    have hZ := hZ.k (hk1 _ hZ.lt (fun h => h))
    have hT := hT.k (fun q h1 h2 h3 => (hk1 _ h3 (fun h => h)))
    have hW1 := hW1.k (fun q h1 h2 h3 => (hk1 _ h3 (fun h => h)))
    have hW2 := hW2.k (fun q h1 h2 h3 => (hk1 _ h3 (fun h => h)))
    have hW3 := hW3.k (fun q h1 h2 h3 => (hk1 _ h3 (fun h => h)))
    have hCO := hCO.k (hk1 _ hCO.lt (fun h => h))
    have hGb := hGb.k (fun q h1 h2 h3 => (hk1 _ h3 (fun h => h)))
    have hGr := hGr.k (fun q h1 h2 h3 => (hk1 _ h3 (fun h => h)))
    have hGw := hGw.k (hk1 _ (by have := hGw.lt; omega) (fun h => h)) (hk1 _ hGw.lt (fun h => h))
    have hFO := hFO.k (hk1 _ hFO.lt (fun h => h))
    have hU := hU.k (hk1 _ (by have := hU.lt; omega) (fun h => h)) (hk1 _ hU.lt (fun h => h))
    have hV := hV.k (hk1 _ (by have := hV.lt; omega) (fun h => h)) (hk1 _ hV.lt (fun h => h))
    have h5 := h5.k (hk1 _ (by have := h5.lt; omega) (fun h => h)) (hk1 _ h5.lt (fun h => h))
    have h7 := h7.k (hk1 _ (by have := h7.lt; omega) (fun h => h)) (hk1 _ h7.lt (fun h => h))
    have h9 := h9.k (hk1 _ (by have := h9.lt; omega) (fun h => h)) (hk1 _ h9.lt (fun h => h))
    have hROw := hROw.k (hk1 _ hROw.lt (fun h => h))
    have hbdW := hbdW.k (hk1 _ (by have := hbdW.lt; omega) (fun h => h)) (hk1 _ hbdW.lt (fun h => h))
    refine pw_if_eq (tgt := 24) hx hb dX9_gain_16 (by decide) (fun c_16 => ?_) (fun c_16 => ?_)
    · refine lv_iload_n hx hb dX9_gain_24 rfl (lv_at hl 3 rfl) ?_
      refine pw_callSl (As := [.int (iI (part))]) (rest := []) ⟨hx, hb, hml, hown, hts⟩ (c_refusal l D E part part1 part2) (va_cwS 1 hts gX9_gain_X9_refusal rfl rfl rfl (by decide +kernel) ⟨Nat.le_of_ble_eq_true rfl, Nat.le_of_ble_eq_true rfl⟩) hK trivial rfl hl.1 rfl (Nat.le_of_ble_eq_true rfl) dX9_gain_25 ⟨Nat.zero_le _, Nat.zero_le _⟩ hS (fun q h => h.elim) (fun zn H1 locs1 hzn hz1 hk1 hS => ?_)
      have hO := hO.k (hk1 _ hO.lt (fun h => h))
      have hM := hM.k (fun q h1 h2 h3 => (hk1 _ h3 (fun h => h)))
      have hMO := hMO.k (hk1 _ hMO.lt (fun h => h))
      have hMC := hMC.k (hk1 _ hMC.lt (fun h => h))
      have hMQ := hMQ.k (hk1 _ hMQ.lt (fun h => h))
      have hAT := hAT.k (fun q h1 h2 h3 => (hk1 _ h3 (fun h => h)))
      have hE := hE.k (fun q h1 h2 h3 => (hk1 _ h3 (fun h => h)))
      have hLO := hLO.k (hk1 _ hLO.lt (fun h => h))
      have hLR := hLR.k (fun q h1 h2 h3 => (hk1 _ h3 (fun h => h)))
      have hRW := hRW.k (fun q h1 h2 h3 => (hk1 _ h3 (fun h => h)))
      have hBP := hBP.k (hk1 _ hBP.lt (fun h => h))
      have hQ := hQ.k (hk1 _ hQ.lt (fun h => h))
      have hWS := hWS.k (fun q h1 h2 h3 => (hk1 _ h3 (fun h => h)))
      have hZ := hZ.k (hk1 _ hZ.lt (fun h => h))
      have hT := hT.k (fun q h1 h2 h3 => (hk1 _ h3 (fun h => h)))
      have hW1 := hW1.k (fun q h1 h2 h3 => (hk1 _ h3 (fun h => h)))
      have hW2 := hW2.k (fun q h1 h2 h3 => (hk1 _ h3 (fun h => h)))
      have hW3 := hW3.k (fun q h1 h2 h3 => (hk1 _ h3 (fun h => h)))
      have hCO := hCO.k (hk1 _ hCO.lt (fun h => h))
      have hGb := hGb.k (fun q h1 h2 h3 => (hk1 _ h3 (fun h => h)))
      have hGr := hGr.k (fun q h1 h2 h3 => (hk1 _ h3 (fun h => h)))
      have hGw := hGw.k (hk1 _ (by have := hGw.lt; omega) (fun h => h)) (hk1 _ hGw.lt (fun h => h))
      have hFO := hFO.k (hk1 _ hFO.lt (fun h => h))
      have hU := hU.k (hk1 _ (by have := hU.lt; omega) (fun h => h)) (hk1 _ hU.lt (fun h => h))
      have hV := hV.k (hk1 _ (by have := hV.lt; omega) (fun h => h)) (hk1 _ hV.lt (fun h => h))
      have h5 := h5.k (hk1 _ (by have := h5.lt; omega) (fun h => h)) (hk1 _ h5.lt (fun h => h))
      have h7 := h7.k (hk1 _ (by have := h7.lt; omega) (fun h => h)) (hk1 _ h7.lt (fun h => h))
      have h9 := h9.k (hk1 _ (by have := h9.lt; omega) (fun h => h)) (hk1 _ h9.lt (fun h => h))
      have hROw := hROw.k (hk1 _ hROw.lt (fun h => h))
      have hbdW := hbdW.k (hk1 _ (by have := hbdW.lt; omega) (fun h => h)) (hk1 _ hbdW.lt (fun h => h))
      subst hzn
      exact pw_lret hx hb hr hlocks hS ⟨⟨bv, bd, bp, wn, wd, wq, kn, V, B, pk, ⟨hO, hM, hE, ⟨_, _, _, _, _, _, hCO, hgg, hGb, hGr, gw, hGw⟩, ⟨hLO, hLR⟩, hRW, hBP, hQ, hWS, hZ, hT, ⟨_, _, _, _, _, hFO, hU, hV, h5, h7, h9⟩, hW1, hW2, hW3⟩, hINV⟩, Or.inl ⟨fun h => by have := hzi.mpr h.2.1; omega, rfl⟩⟩ dX9_gain_28
    · have hga := hzi.mp (by omega)
      obtain ⟨hrd, hsol⟩ := hINV.2.2.1 (by omega)
      obtain ⟨π, hπ, hPV, hmax⟩ := sol_max hok hrd hsol
      have hc4 := hC4 k.toNat (by omega)
      have hgb := int_lt (Nat.lt_of_lt_of_le (pv_gn hok hPV (show (4 * k.toNat + j.toNat) < 24 by omega)) (bp_mono (show 23 ≤ 24 by omega)))
      have hgs := gsc_b hok (show (4 * k.toNat + j.toNat) < 24 by omega)
      have hgp : 0 < gsc σ (4 * k.toNat + j.toNat) := gsc_pos hok hrd (by omega) (by omega)
      have hw0 : 0 < bd * gsc σ (4 * k.toNat + j.toNat) := Int.mul_pos hPV.1 hgp
      have hbg : (bd * gsc σ (4 * k.toNat + j.toNat)).natAbs < 1000000 ^ 24 := Nat.lt_of_le_of_lt (mulb hPV.2.1 (show (gsc σ (4 * k.toNat + j.toNat)).natAbs ≤ 48000 by omega)) (by decide +kernel)
      have hbg2 := int_lt hbg
      have hbb := int_lt (Nat.lt_of_le_of_lt hPV.2.1 (show 16800000 ^ 6 < 1000000 ^ 24 by decide +kernel))
      refine lv_iload_n hx hb dX9_gain_19 rfl (lv_at hl 3 rfl) ?_
      refine pw_iconst hx hb dX9_gain_20 ?_
      refine pw_icmp_ge (tgt := 29) hx hb dX9_gain_21 (by decide) (fun c_21 => ?_) (fun c_21 => ?_)
      · refine lv_aload_n hx hb dX9_gain_29 rfl (lv_at hl 0 rfl) ?_
        refine pw_get (C := RX9) (T := TX9) (N := 14) hx hb hts hin9 hown hK hO rfl 2 (by decide) lk_26 rfl rfl dX9_gain_30 ?_
        refine pw_get (C := RX1) (T := TX1) (N := 3) hx hb hts hin1 hown hK hCO rfl 0 (by decide) lk_154 rfl rfl dX9_gain_33 ?_
        refine lv_astore (lv' := [(4, .ref (gb)), (0, .ref (o0)), (1, .int (iI (k))), (2, .int (iI (j))), (3, .int (iI (part)))]) hx hb dX9_gain_36 hl (by decide) rfl (fun ls hl => ?_)
        refine lv_aload hx hb dX9_gain_38 (lv_at hl 0 rfl) ?_
        refine lv_aload_n hx hb dX9_gain_40 rfl (lv_at hl 1 rfl) ?_
        refine pw_get (C := RX9) (T := TX9) (N := 14) hx hb hts hin9 hown hK hO rfl 0 (by decide) lk_10 rfl rfl dX9_gain_41 ?_
        refine lv_aload_n hx hb dX9_gain_44 rfl (lv_at hl 1 rfl) ?_
        refine pw_get (C := RX9) (T := TX9) (N := 14) hx hb hts hin9 hown hK hO rfl 0 (by decide) lk_10 rfl rfl dX9_gain_45 ?_
        refine lv_iload_n hx hb dX9_gain_48 rfl (lv_at hl 2 rfl) ?_
        refine pw_asi (((k.toNat : Nat) : Int)) (by omega) ?_
        refine lv_iload_n hx hb dX9_gain_49 rfl (lv_at hl 3 rfl) ?_
        refine pw_asi (((j.toNat : Nat) : Int)) (by omega) ?_
        refine pw_callVr (As := [.int (iI (((k.toNat : Nat) : Int))), .int (iI (((j.toNat : Nat) : Int)))]) (rest := [.ref (o0 + 1), .ref (gb)]) ⟨hx, hb, hml, hown, hts⟩ (c_find l D E (o0 + 1) σ k.toNat j.toNat (by omega) (by omega)) (cwV 2 hts gX9_gain_X6_find rfl rfl rfl (by decide +kernel) ⟨Nat.le_of_ble_eq_true rfl, Nat.le_of_ble_eq_true rfl⟩) hK hMO rfl hM rfl hl.1 rfl (Nat.le_of_ble_eq_true rfl) dX9_gain_50 ⟨Nat.zero_le _, Nat.zero_le _⟩ hS (fun q h => h.elim) (fun zf H1 locs1 hzf hz1 hk1 hS => ?_)
        have hO := hO.k (hk1 _ hO.lt (fun h => h))
        have hM := hM.k (fun q h1 h2 h3 => (hk1 _ h3 (fun h => h)))
        have hMO := hMO.k (hk1 _ hMO.lt (fun h => h))
        have hMC := hMC.k (hk1 _ hMC.lt (fun h => h))
        have hMQ := hMQ.k (hk1 _ hMQ.lt (fun h => h))
        have hAT := hAT.k (fun q h1 h2 h3 => (hk1 _ h3 (fun h => h)))
        have hE := hE.k (fun q h1 h2 h3 => (hk1 _ h3 (fun h => h)))
        have hLO := hLO.k (hk1 _ hLO.lt (fun h => h))
        have hLR := hLR.k (fun q h1 h2 h3 => (hk1 _ h3 (fun h => h)))
        have hRW := hRW.k (fun q h1 h2 h3 => (hk1 _ h3 (fun h => h)))
        have hBP := hBP.k (hk1 _ hBP.lt (fun h => h))
        have hQ := hQ.k (hk1 _ hQ.lt (fun h => h))
        have hWS := hWS.k (fun q h1 h2 h3 => (hk1 _ h3 (fun h => h)))
        have hZ := hZ.k (hk1 _ hZ.lt (fun h => h))
        have hT := hT.k (fun q h1 h2 h3 => (hk1 _ h3 (fun h => h)))
        have hW1 := hW1.k (fun q h1 h2 h3 => (hk1 _ h3 (fun h => h)))
        have hW2 := hW2.k (fun q h1 h2 h3 => (hk1 _ h3 (fun h => h)))
        have hW3 := hW3.k (fun q h1 h2 h3 => (hk1 _ h3 (fun h => h)))
        have hCO := hCO.k (hk1 _ hCO.lt (fun h => h))
        have hGb := hGb.k (fun q h1 h2 h3 => (hk1 _ h3 (fun h => h)))
        have hGr := hGr.k (fun q h1 h2 h3 => (hk1 _ h3 (fun h => h)))
        have hGw := hGw.k (hk1 _ (by have := hGw.lt; omega) (fun h => h)) (hk1 _ hGw.lt (fun h => h))
        have hFO := hFO.k (hk1 _ hFO.lt (fun h => h))
        have hU := hU.k (hk1 _ (by have := hU.lt; omega) (fun h => h)) (hk1 _ hU.lt (fun h => h))
        have hV := hV.k (hk1 _ (by have := hV.lt; omega) (fun h => h)) (hk1 _ hV.lt (fun h => h))
        have h5 := h5.k (hk1 _ (by have := h5.lt; omega) (fun h => h)) (hk1 _ h5.lt (fun h => h))
        have h7 := h7.k (hk1 _ (by have := h7.lt; omega) (fun h => h)) (hk1 _ h7.lt (fun h => h))
        have h9 := h9.k (hk1 _ (by have := h9.lt; omega) (fun h => h)) (hk1 _ h9.lt (fun h => h))
        have hROw := hROw.k (hk1 _ hROw.lt (fun h => h))
        have hbdW := hbdW.k (hk1 _ (by have := hbdW.lt; omega) (fun h => h)) (hk1 _ hbdW.lt (fun h => h))
        subst hzf
        refine lv_aload_n hx hb dX9_gain_53 rfl (lv_at hl 1 rfl) ?_
        refine pw_get (C := RX9) (T := TX9) (N := 14) hx hb hts hin9 hown hK hO rfl 4 (by decide) lk_42 rfl rfl dX9_gain_54 ?_
        refine pw_callVv (As := [.ref (o0 + 1), .ref (o0 + 1 + 3 + 2 * (4 * k.toNat + j.toNat)), .ref (o0 + 482)]) (rest := []) ⟨hx, hb, hml, hown, hts⟩ (c_weigh l D E gb (o0 + 1) (o0 + 482) 8 (4 * k.toNat + j.toNat) σ bv bd vb sb hok (by omega) (by omega) (by omega) (by omega) hgb.1 hgb.2) (cwV 3 hts gX9_gain_X4_weigh rfl rfl rfl (by decide +kernel) ⟨Nat.le_of_ble_eq_true rfl, Nat.le_of_ble_eq_true rfl⟩) hK hGb.1 rfl ⟨hGb, hM, hRW⟩ rfl hl.1 rfl (Nat.le_of_ble_eq_true rfl) dX9_gain_57 ⟨Nat.zero_le _, Nat.zero_le _⟩ hS (fun q h => by (try dsimp only at h); (try dsimp only); omega) (fun H1 locs1 hGb hz1 hk1 hS => ?_)
        have hO := hO.k (hk1 _ hO.lt (by (try dsimp only); omega))
        have hM := hM.k (fun q h1 h2 h3 => (hk1 _ h3 (by (try dsimp only); omega)))
        have hMO := hMO.k (hk1 _ hMO.lt (by (try dsimp only); omega))
        have hMC := hMC.k (hk1 _ hMC.lt (by (try dsimp only); omega))
        have hMQ := hMQ.k (hk1 _ hMQ.lt (by (try dsimp only); omega))
        have hAT := hAT.k (fun q h1 h2 h3 => (hk1 _ h3 (by (try dsimp only); omega)))
        have hE := hE.k (fun q h1 h2 h3 => (hk1 _ h3 (by (try dsimp only); omega)))
        have hLO := hLO.k (hk1 _ hLO.lt (by (try dsimp only); omega))
        have hLR := hLR.k (fun q h1 h2 h3 => (hk1 _ h3 (by (try dsimp only); omega)))
        have hRW := hRW.k (fun q h1 h2 h3 => (hk1 _ h3 (by (try dsimp only); omega)))
        have hBP := hBP.k (hk1 _ hBP.lt (by (try dsimp only); omega))
        have hQ := hQ.k (hk1 _ hQ.lt (by (try dsimp only); omega))
        have hWS := hWS.k (fun q h1 h2 h3 => (hk1 _ h3 (by (try dsimp only); omega)))
        have hZ := hZ.k (hk1 _ hZ.lt (by (try dsimp only); omega))
        have hT := hT.k (fun q h1 h2 h3 => (hk1 _ h3 (by (try dsimp only); omega)))
        have hW1 := hW1.k (fun q h1 h2 h3 => (hk1 _ h3 (by (try dsimp only); omega)))
        have hW2 := hW2.k (fun q h1 h2 h3 => (hk1 _ h3 (by (try dsimp only); omega)))
        have hW3 := hW3.k (fun q h1 h2 h3 => (hk1 _ h3 (by (try dsimp only); omega)))
        have hCO := hCO.k (hk1 _ hCO.lt (by (try dsimp only); omega))
        have hGr := hGr.k (fun q h1 h2 h3 => (hk1 _ h3 (by (try dsimp only); omega)))
        have hGw := hGw.k (hk1 _ (by have := hGw.lt; omega) (by (try dsimp only); omega)) (hk1 _ hGw.lt (by (try dsimp only); omega))
        have hFO := hFO.k (hk1 _ hFO.lt (by (try dsimp only); omega))
        have hU := hU.k (hk1 _ (by have := hU.lt; omega) (by (try dsimp only); omega)) (hk1 _ hU.lt (by (try dsimp only); omega))
        have hV := hV.k (hk1 _ (by have := hV.lt; omega) (by (try dsimp only); omega)) (hk1 _ hV.lt (by (try dsimp only); omega))
        have h5 := h5.k (hk1 _ (by have := h5.lt; omega) (by (try dsimp only); omega)) (hk1 _ h5.lt (by (try dsimp only); omega))
        have h7 := h7.k (hk1 _ (by have := h7.lt; omega) (by (try dsimp only); omega)) (hk1 _ h7.lt (by (try dsimp only); omega))
        have h9 := h9.k (hk1 _ (by have := h9.lt; omega) (by (try dsimp only); omega)) (hk1 _ h9.lt (by (try dsimp only); omega))
        have hROw := hROw.k (hk1 _ hROw.lt (by (try dsimp only); omega))
        have hbdW := hbdW.k (hk1 _ (by have := hbdW.lt; omega) (by (try dsimp only); omega)) (hk1 _ hbdW.lt (by (try dsimp only); omega))
        obtain ⟨hGO, hGA⟩ := hGb
        refine lv_aload_n hx hb dX9_gain_60 rfl (lv_at hl 1 rfl) ?_
        refine pw_get (C := RX9) (T := TX9) (N := 14) hx hb hts hin9 hown hK hO rfl 9 (by decide) lk_64 rfl rfl dX9_gain_61 ?_
        refine pw_get (C := RX3) (T := TX3) (N := 5) hx hb hts hin3 hown hK hFO rfl 0 (by decide) lk_164 rfl rfl dX9_gain_64 ?_
        refine lv_aload hx hb dX9_gain_67 (lv_at hl 0 rfl) ?_
        refine pw_get (C := RX4) (T := TX4) (N := 2) hx hb hts hin4 hown hK hGO rfl 0 (by decide) lk_166 rfl rfl dX9_gain_69 ?_
        obtain ⟨kx, hUr⟩ := hU.r
        refine pw_callVv (As := [.ref (gb + 1)]) (rest := []) ⟨hx, hb, hml, hown, hts⟩ (c_copy l D E (o0 + 566 + 1) 24 (gb + 1) 24 (wdig _) kx _ (gnum σ (4 * k.toNat + j.toNat) bv bd) (by omega) (by omega) (by omega) hgb.1 hgb.2) (cwV 1 hts gX9_gain_X8_copy rfl rfl rfl (by decide +kernel) ⟨Nat.le_of_ble_eq_true rfl, Nat.le_of_ble_eq_true rfl⟩) hK hUr.1 rfl ⟨hUr, hGA⟩ rfl hl.1 rfl (Nat.le_of_ble_eq_true rfl) dX9_gain_72 ⟨Nat.zero_le _, Nat.zero_le _⟩ hS (fun q h => by (try dsimp only at h); (try dsimp only); omega) (fun H1 locs1 hU hz1 hk1 hS => ?_)
        have hO := hO.k (hk1 _ hO.lt (by (try dsimp only); omega))
        have hM := hM.k (fun q h1 h2 h3 => (hk1 _ h3 (by (try dsimp only); omega)))
        have hMO := hMO.k (hk1 _ hMO.lt (by (try dsimp only); omega))
        have hMC := hMC.k (hk1 _ hMC.lt (by (try dsimp only); omega))
        have hMQ := hMQ.k (hk1 _ hMQ.lt (by (try dsimp only); omega))
        have hAT := hAT.k (fun q h1 h2 h3 => (hk1 _ h3 (by (try dsimp only); omega)))
        have hE := hE.k (fun q h1 h2 h3 => (hk1 _ h3 (by (try dsimp only); omega)))
        have hLO := hLO.k (hk1 _ hLO.lt (by (try dsimp only); omega))
        have hLR := hLR.k (fun q h1 h2 h3 => (hk1 _ h3 (by (try dsimp only); omega)))
        have hRW := hRW.k (fun q h1 h2 h3 => (hk1 _ h3 (by (try dsimp only); omega)))
        have hBP := hBP.k (hk1 _ hBP.lt (by (try dsimp only); omega))
        have hQ := hQ.k (hk1 _ hQ.lt (by (try dsimp only); omega))
        have hWS := hWS.k (fun q h1 h2 h3 => (hk1 _ h3 (by (try dsimp only); omega)))
        have hZ := hZ.k (hk1 _ hZ.lt (by (try dsimp only); omega))
        have hT := hT.k (fun q h1 h2 h3 => (hk1 _ h3 (by (try dsimp only); omega)))
        have hW1 := hW1.k (fun q h1 h2 h3 => (hk1 _ h3 (by (try dsimp only); omega)))
        have hW2 := hW2.k (fun q h1 h2 h3 => (hk1 _ h3 (by (try dsimp only); omega)))
        have hW3 := hW3.k (fun q h1 h2 h3 => (hk1 _ h3 (by (try dsimp only); omega)))
        have hCO := hCO.k (hk1 _ hCO.lt (by (try dsimp only); omega))
        have hGr := hGr.k (fun q h1 h2 h3 => (hk1 _ h3 (by (try dsimp only); omega)))
        have hGw := hGw.k (hk1 _ (by have := hGw.lt; omega) (by (try dsimp only); omega)) (hk1 _ hGw.lt (by (try dsimp only); omega))
        have hFO := hFO.k (hk1 _ hFO.lt (by (try dsimp only); omega))
        have hV := hV.k (hk1 _ (by have := hV.lt; omega) (by (try dsimp only); omega)) (hk1 _ hV.lt (by (try dsimp only); omega))
        have h5 := h5.k (hk1 _ (by have := h5.lt; omega) (by (try dsimp only); omega)) (hk1 _ h5.lt (by (try dsimp only); omega))
        have h7 := h7.k (hk1 _ (by have := h7.lt; omega) (by (try dsimp only); omega)) (hk1 _ h7.lt (by (try dsimp only); omega))
        have h9 := h9.k (hk1 _ (by have := h9.lt; omega) (by (try dsimp only); omega)) (hk1 _ h9.lt (by (try dsimp only); omega))
        have hROw := hROw.k (hk1 _ hROw.lt (by (try dsimp only); omega))
        have hbdW := hbdW.k (hk1 _ (by have := hbdW.lt; omega) (by (try dsimp only); omega)) (hk1 _ hbdW.lt (by (try dsimp only); omega))
        have hGO := hGO.k (hk1 _ hGO.lt (by (try dsimp only); omega))
        have hGA := hGA.k (hk1 _ (by have := hGA.lt; omega) (by (try dsimp only); omega)) (hk1 _ hGA.lt (by (try dsimp only); omega))
        refine lv_aload_n hx hb dX9_gain_75 rfl (lv_at hl 1 rfl) ?_
        refine pw_get (C := RX9) (T := TX9) (N := 14) hx hb hts hin9 hown hK hO rfl 9 (by decide) lk_64 rfl rfl dX9_gain_76 ?_
        refine pw_get (C := RX3) (T := TX3) (N := 5) hx hb hts hin3 hown hK hFO rfl 1 (by decide) lk_171 rfl rfl dX9_gain_79 ?_
        refine lv_aload_n hx hb dX9_gain_82 rfl (lv_at hl 1 rfl) ?_
        refine pw_get (C := RX9) (T := TX9) (N := 14) hx hb hts hin9 hown hK hO rfl 4 (by decide) lk_42 rfl rfl dX9_gain_83 ?_
        refine pw_get (C := RX7) (T := TX7) (N := 2) hx hb hts hin7 hown hK hROw rfl 1 (by decide) lk_173 rfl rfl dX9_gain_86 ?_
        obtain ⟨kx, hVr⟩ := hV.r
        refine pw_callVv (As := [.ref (o0 + 482 + 14)]) (rest := []) ⟨hx, hb, hml, hown, hts⟩ (c_copy l D E (o0 + 566 + 3) 24 (o0 + 482 + 14) 8 (wdig _) kx _ (bd) (by omega) (by omega) (by omega) hbb.1 hbb.2) (cwV 1 hts gX9_gain_X8_copy rfl rfl rfl (by decide +kernel) ⟨Nat.le_of_ble_eq_true rfl, Nat.le_of_ble_eq_true rfl⟩) hK hVr.1 rfl ⟨hVr, hbdW⟩ rfl hl.1 rfl (Nat.le_of_ble_eq_true rfl) dX9_gain_89 ⟨Nat.zero_le _, Nat.zero_le _⟩ hS (fun q h => by (try dsimp only at h); (try dsimp only); omega) (fun H1 locs1 hV hz1 hk1 hS => ?_)
        have hO := hO.k (hk1 _ hO.lt (by (try dsimp only); omega))
        have hM := hM.k (fun q h1 h2 h3 => (hk1 _ h3 (by (try dsimp only); omega)))
        have hMO := hMO.k (hk1 _ hMO.lt (by (try dsimp only); omega))
        have hMC := hMC.k (hk1 _ hMC.lt (by (try dsimp only); omega))
        have hMQ := hMQ.k (hk1 _ hMQ.lt (by (try dsimp only); omega))
        have hAT := hAT.k (fun q h1 h2 h3 => (hk1 _ h3 (by (try dsimp only); omega)))
        have hE := hE.k (fun q h1 h2 h3 => (hk1 _ h3 (by (try dsimp only); omega)))
        have hLO := hLO.k (hk1 _ hLO.lt (by (try dsimp only); omega))
        have hLR := hLR.k (fun q h1 h2 h3 => (hk1 _ h3 (by (try dsimp only); omega)))
        have hRW := hRW.k (fun q h1 h2 h3 => (hk1 _ h3 (by (try dsimp only); omega)))
        have hBP := hBP.k (hk1 _ hBP.lt (by (try dsimp only); omega))
        have hQ := hQ.k (hk1 _ hQ.lt (by (try dsimp only); omega))
        have hWS := hWS.k (fun q h1 h2 h3 => (hk1 _ h3 (by (try dsimp only); omega)))
        have hZ := hZ.k (hk1 _ hZ.lt (by (try dsimp only); omega))
        have hT := hT.k (fun q h1 h2 h3 => (hk1 _ h3 (by (try dsimp only); omega)))
        have hW1 := hW1.k (fun q h1 h2 h3 => (hk1 _ h3 (by (try dsimp only); omega)))
        have hW2 := hW2.k (fun q h1 h2 h3 => (hk1 _ h3 (by (try dsimp only); omega)))
        have hW3 := hW3.k (fun q h1 h2 h3 => (hk1 _ h3 (by (try dsimp only); omega)))
        have hCO := hCO.k (hk1 _ hCO.lt (by (try dsimp only); omega))
        have hGr := hGr.k (fun q h1 h2 h3 => (hk1 _ h3 (by (try dsimp only); omega)))
        have hGw := hGw.k (hk1 _ (by have := hGw.lt; omega) (by (try dsimp only); omega)) (hk1 _ hGw.lt (by (try dsimp only); omega))
        have hFO := hFO.k (hk1 _ hFO.lt (by (try dsimp only); omega))
        have hU := hU.k (hk1 _ (by have := hU.lt; omega) (by (try dsimp only); omega)) (hk1 _ hU.lt (by (try dsimp only); omega))
        have h5 := h5.k (hk1 _ (by have := h5.lt; omega) (by (try dsimp only); omega)) (hk1 _ h5.lt (by (try dsimp only); omega))
        have h7 := h7.k (hk1 _ (by have := h7.lt; omega) (by (try dsimp only); omega)) (hk1 _ h7.lt (by (try dsimp only); omega))
        have h9 := h9.k (hk1 _ (by have := h9.lt; omega) (by (try dsimp only); omega)) (hk1 _ h9.lt (by (try dsimp only); omega))
        have hROw := hROw.k (hk1 _ hROw.lt (by (try dsimp only); omega))
        have hbdW := hbdW.k (hk1 _ (by have := hbdW.lt; omega) (by (try dsimp only); omega)) (hk1 _ hbdW.lt (by (try dsimp only); omega))
        have hGO := hGO.k (hk1 _ hGO.lt (by (try dsimp only); omega))
        have hGA := hGA.k (hk1 _ (by have := hGA.lt; omega) (by (try dsimp only); omega)) (hk1 _ hGA.lt (by (try dsimp only); omega))
        refine lv_aload_n hx hb dX9_gain_92 rfl (lv_at hl 1 rfl) ?_
        refine pw_get (C := RX9) (T := TX9) (N := 14) hx hb hts hin9 hown hK hO rfl 9 (by decide) lk_64 rfl rfl dX9_gain_93 ?_
        refine pw_get (C := RX3) (T := TX3) (N := 5) hx hb hts hin3 hown hK hFO rfl 1 (by decide) lk_171 rfl rfl dX9_gain_96 ?_
        refine lv_aload hx hb dX9_gain_99 (lv_at hl 0 rfl) ?_
        refine pw_get (C := RX4) (T := TX4) (N := 2) hx hb hts hin4 hown hK hGO rfl 1 (by decide) lk_174 rfl rfl dX9_gain_101 ?_
        refine pw_i2l hx hb dX9_gain_104 ?_
        refine pw_callVv (As := [.long (lI (gsc σ (4 * k.toNat + j.toNat)))]) (rest := []) ⟨hx, hb, hml, hown, hts⟩ (c_multiply l D E (o0 + 566 + 3) 24 bd (gsc σ (4 * k.toNat + j.toNat)) (by omega) (by omega) (by omega) hbg2.1 hbg2.2) (cwV 1 hts gX9_gain_X8_multiply rfl rfl rfl (by decide +kernel) ⟨Nat.le_of_ble_eq_true rfl, Nat.le_of_ble_eq_true rfl⟩) hK hV.o.choose_spec rfl hV rfl hl.1 rfl (Nat.le_of_ble_eq_true rfl) dX9_gain_105 ⟨Nat.zero_le _, Nat.zero_le _⟩ hS (fun q h => by (try dsimp only at h); (try dsimp only); omega) (fun H1 locs1 hV hz1 hk1 hS => ?_)
        have hO := hO.k (hk1 _ hO.lt (by (try dsimp only); omega))
        have hM := hM.k (fun q h1 h2 h3 => (hk1 _ h3 (by (try dsimp only); omega)))
        have hMO := hMO.k (hk1 _ hMO.lt (by (try dsimp only); omega))
        have hMC := hMC.k (hk1 _ hMC.lt (by (try dsimp only); omega))
        have hMQ := hMQ.k (hk1 _ hMQ.lt (by (try dsimp only); omega))
        have hAT := hAT.k (fun q h1 h2 h3 => (hk1 _ h3 (by (try dsimp only); omega)))
        have hE := hE.k (fun q h1 h2 h3 => (hk1 _ h3 (by (try dsimp only); omega)))
        have hLO := hLO.k (hk1 _ hLO.lt (by (try dsimp only); omega))
        have hLR := hLR.k (fun q h1 h2 h3 => (hk1 _ h3 (by (try dsimp only); omega)))
        have hRW := hRW.k (fun q h1 h2 h3 => (hk1 _ h3 (by (try dsimp only); omega)))
        have hBP := hBP.k (hk1 _ hBP.lt (by (try dsimp only); omega))
        have hQ := hQ.k (hk1 _ hQ.lt (by (try dsimp only); omega))
        have hWS := hWS.k (fun q h1 h2 h3 => (hk1 _ h3 (by (try dsimp only); omega)))
        have hZ := hZ.k (hk1 _ hZ.lt (by (try dsimp only); omega))
        have hT := hT.k (fun q h1 h2 h3 => (hk1 _ h3 (by (try dsimp only); omega)))
        have hW1 := hW1.k (fun q h1 h2 h3 => (hk1 _ h3 (by (try dsimp only); omega)))
        have hW2 := hW2.k (fun q h1 h2 h3 => (hk1 _ h3 (by (try dsimp only); omega)))
        have hW3 := hW3.k (fun q h1 h2 h3 => (hk1 _ h3 (by (try dsimp only); omega)))
        have hCO := hCO.k (hk1 _ hCO.lt (by (try dsimp only); omega))
        have hGr := hGr.k (fun q h1 h2 h3 => (hk1 _ h3 (by (try dsimp only); omega)))
        have hGw := hGw.k (hk1 _ (by have := hGw.lt; omega) (by (try dsimp only); omega)) (hk1 _ hGw.lt (by (try dsimp only); omega))
        have hFO := hFO.k (hk1 _ hFO.lt (by (try dsimp only); omega))
        have hU := hU.k (hk1 _ (by have := hU.lt; omega) (by (try dsimp only); omega)) (hk1 _ hU.lt (by (try dsimp only); omega))
        have h5 := h5.k (hk1 _ (by have := h5.lt; omega) (by (try dsimp only); omega)) (hk1 _ h5.lt (by (try dsimp only); omega))
        have h7 := h7.k (hk1 _ (by have := h7.lt; omega) (by (try dsimp only); omega)) (hk1 _ h7.lt (by (try dsimp only); omega))
        have h9 := h9.k (hk1 _ (by have := h9.lt; omega) (by (try dsimp only); omega)) (hk1 _ h9.lt (by (try dsimp only); omega))
        have hROw := hROw.k (hk1 _ hROw.lt (by (try dsimp only); omega))
        have hbdW := hbdW.k (hk1 _ (by have := hbdW.lt; omega) (by (try dsimp only); omega)) (hk1 _ hbdW.lt (by (try dsimp only); omega))
        have hGO := hGO.k (hk1 _ hGO.lt (by (try dsimp only); omega))
        have hGA := hGA.k (hk1 _ (by have := hGA.lt; omega) (by (try dsimp only); omega)) (hk1 _ hGA.lt (by (try dsimp only); omega))
        refine lv_aload_n hx hb dX9_gain_108 rfl (lv_at hl 1 rfl) ?_
        refine pw_get (C := RX9) (T := TX9) (N := 14) hx hb hts hin9 hown hK hO rfl 9 (by decide) lk_64 rfl rfl dX9_gain_109 ?_
        refine lv_iload_n hx hb dX9_gain_112 rfl (lv_at hl 4 rfl) ?_
        have hGb : GN D E gb _ _ _ := ⟨hGO, hGA⟩
        have hF : FR D E (o0 + 566) _ _ _ _ _ _ := ⟨hFO, hU, hV, h5, h7, h9⟩
        refine pw_callVl (As := [.int (iI (part))]) (rest := []) ⟨hx, hb, hml, hown, hts⟩ (c_tell l D E (o0 + 566) (gnum σ (4 * k.toNat + j.toNat) bv bd) (bd * gsc σ (4 * k.toNat + j.toNat)) _ _ _ part hw0 (by omega) part2) (cwV 1 hts gX9_gain_X3_tell rfl rfl rfl (by decide +kernel) ⟨Nat.le_of_ble_eq_true rfl, Nat.le_of_ble_eq_true rfl⟩) hK hF.1 rfl hF rfl hl.1 rfl (Nat.le_of_ble_eq_true rfl) dX9_gain_113 ⟨Nat.zero_le _, Nat.zero_le _⟩ hS (fun q h => by (try dsimp only at h); (try dsimp only); omega) (fun zt H1 locs1 ⟨hzt, fu, fw, fo1, fo2, fo3, hF⟩ hz1 hk1 hS => ?_)
        have hO := hO.k (hk1 _ hO.lt (by (try dsimp only); omega))
        have hM := hM.k (fun q h1 h2 h3 => (hk1 _ h3 (by (try dsimp only); omega)))
        have hMO := hMO.k (hk1 _ hMO.lt (by (try dsimp only); omega))
        have hMC := hMC.k (hk1 _ hMC.lt (by (try dsimp only); omega))
        have hMQ := hMQ.k (hk1 _ hMQ.lt (by (try dsimp only); omega))
        have hAT := hAT.k (fun q h1 h2 h3 => (hk1 _ h3 (by (try dsimp only); omega)))
        have hE := hE.k (fun q h1 h2 h3 => (hk1 _ h3 (by (try dsimp only); omega)))
        have hLO := hLO.k (hk1 _ hLO.lt (by (try dsimp only); omega))
        have hLR := hLR.k (fun q h1 h2 h3 => (hk1 _ h3 (by (try dsimp only); omega)))
        have hRW := hRW.k (fun q h1 h2 h3 => (hk1 _ h3 (by (try dsimp only); omega)))
        have hBP := hBP.k (hk1 _ hBP.lt (by (try dsimp only); omega))
        have hQ := hQ.k (hk1 _ hQ.lt (by (try dsimp only); omega))
        have hWS := hWS.k (fun q h1 h2 h3 => (hk1 _ h3 (by (try dsimp only); omega)))
        have hZ := hZ.k (hk1 _ hZ.lt (by (try dsimp only); omega))
        have hT := hT.k (fun q h1 h2 h3 => (hk1 _ h3 (by (try dsimp only); omega)))
        have hW1 := hW1.k (fun q h1 h2 h3 => (hk1 _ h3 (by (try dsimp only); omega)))
        have hW2 := hW2.k (fun q h1 h2 h3 => (hk1 _ h3 (by (try dsimp only); omega)))
        have hW3 := hW3.k (fun q h1 h2 h3 => (hk1 _ h3 (by (try dsimp only); omega)))
        have hCO := hCO.k (hk1 _ hCO.lt (by (try dsimp only); omega))
        have hGr := hGr.k (fun q h1 h2 h3 => (hk1 _ h3 (by (try dsimp only); omega)))
        have hGw := hGw.k (hk1 _ (by have := hGw.lt; omega) (by (try dsimp only); omega)) (hk1 _ hGw.lt (by (try dsimp only); omega))
        have hROw := hROw.k (hk1 _ hROw.lt (by (try dsimp only); omega))
        have hbdW := hbdW.k (hk1 _ (by have := hbdW.lt; omega) (by (try dsimp only); omega)) (hk1 _ hbdW.lt (by (try dsimp only); omega))
        have hGb := hGb.k (fun q h1 h2 h3 => (hk1 _ h3 (by (try dsimp only); omega)))
        exact pw_lret hx hb hr hlocks hS ⟨⟨bv, bd, bp, wn, wd, wq, kn, V, B, pk, ⟨hO, hM, hE, ⟨_, _, _, _, _, _, hCO, hgg, hGb, hGr, gw, hGw⟩, ⟨hLO, hLR⟩, hRW, hBP, hQ, hWS, hZ, hT, ⟨_, _, _, _, _, hF⟩, hW1, hW2, hW3⟩, hINV⟩, Or.inr ⟨⟨by omega, hga, by omega⟩, bp, bv, bd, hsol, hzt⟩⟩ dX9_gain_116
      · refine lv_iload_n hx hb dX9_gain_24 rfl (lv_at hl 3 rfl) ?_
        refine pw_callSl (As := [.int (iI (part))]) (rest := []) ⟨hx, hb, hml, hown, hts⟩ (c_refusal l D E part part1 part2) (va_cwS 1 hts gX9_gain_X9_refusal rfl rfl rfl (by decide +kernel) ⟨Nat.le_of_ble_eq_true rfl, Nat.le_of_ble_eq_true rfl⟩) hK trivial rfl hl.1 rfl (Nat.le_of_ble_eq_true rfl) dX9_gain_25 ⟨Nat.zero_le _, Nat.zero_le _⟩ hS (fun q h => h.elim) (fun zn H1 locs1 hzn hz1 hk1 hS => ?_)
        have hO := hO.k (hk1 _ hO.lt (fun h => h))
        have hM := hM.k (fun q h1 h2 h3 => (hk1 _ h3 (fun h => h)))
        have hMO := hMO.k (hk1 _ hMO.lt (fun h => h))
        have hMC := hMC.k (hk1 _ hMC.lt (fun h => h))
        have hMQ := hMQ.k (hk1 _ hMQ.lt (fun h => h))
        have hAT := hAT.k (fun q h1 h2 h3 => (hk1 _ h3 (fun h => h)))
        have hE := hE.k (fun q h1 h2 h3 => (hk1 _ h3 (fun h => h)))
        have hLO := hLO.k (hk1 _ hLO.lt (fun h => h))
        have hLR := hLR.k (fun q h1 h2 h3 => (hk1 _ h3 (fun h => h)))
        have hRW := hRW.k (fun q h1 h2 h3 => (hk1 _ h3 (fun h => h)))
        have hBP := hBP.k (hk1 _ hBP.lt (fun h => h))
        have hQ := hQ.k (hk1 _ hQ.lt (fun h => h))
        have hWS := hWS.k (fun q h1 h2 h3 => (hk1 _ h3 (fun h => h)))
        have hZ := hZ.k (hk1 _ hZ.lt (fun h => h))
        have hT := hT.k (fun q h1 h2 h3 => (hk1 _ h3 (fun h => h)))
        have hW1 := hW1.k (fun q h1 h2 h3 => (hk1 _ h3 (fun h => h)))
        have hW2 := hW2.k (fun q h1 h2 h3 => (hk1 _ h3 (fun h => h)))
        have hW3 := hW3.k (fun q h1 h2 h3 => (hk1 _ h3 (fun h => h)))
        have hCO := hCO.k (hk1 _ hCO.lt (fun h => h))
        have hGb := hGb.k (fun q h1 h2 h3 => (hk1 _ h3 (fun h => h)))
        have hGr := hGr.k (fun q h1 h2 h3 => (hk1 _ h3 (fun h => h)))
        have hGw := hGw.k (hk1 _ (by have := hGw.lt; omega) (fun h => h)) (hk1 _ hGw.lt (fun h => h))
        have hFO := hFO.k (hk1 _ hFO.lt (fun h => h))
        have hU := hU.k (hk1 _ (by have := hU.lt; omega) (fun h => h)) (hk1 _ hU.lt (fun h => h))
        have hV := hV.k (hk1 _ (by have := hV.lt; omega) (fun h => h)) (hk1 _ hV.lt (fun h => h))
        have h5 := h5.k (hk1 _ (by have := h5.lt; omega) (fun h => h)) (hk1 _ h5.lt (fun h => h))
        have h7 := h7.k (hk1 _ (by have := h7.lt; omega) (fun h => h)) (hk1 _ h7.lt (fun h => h))
        have h9 := h9.k (hk1 _ (by have := h9.lt; omega) (fun h => h)) (hk1 _ h9.lt (fun h => h))
        have hROw := hROw.k (hk1 _ hROw.lt (fun h => h))
        have hbdW := hbdW.k (hk1 _ (by have := hbdW.lt; omega) (fun h => h)) (hk1 _ hbdW.lt (fun h => h))
        subst hzn
        exact pw_lret hx hb hr hlocks hS ⟨⟨bv, bd, bp, wn, wd, wq, kn, V, B, pk, ⟨hO, hM, hE, ⟨_, _, _, _, _, _, hCO, hgg, hGb, hGr, gw, hGw⟩, ⟨hLO, hLR⟩, hRW, hBP, hQ, hWS, hZ, hT, ⟨_, _, _, _, _, hFO, hU, hV, h5, h7, h9⟩, hW1, hW2, hW3⟩, hINV⟩, Or.inl ⟨fun h => by omega, rfl⟩⟩ dX9_gain_28
set_option maxHeartbeats 4000000 in
set_option maxRecDepth 100000 in
/-- worth(k, s, part) -/
theorem c_worth (l : Launch) (D : va_G) (E : Nat → ClassId) (o0 : Nat) (σ : MS) (rn k st part : Int) (k1 : -2147483648 ≤ k) (k2 : k ≤ 2147483647) (st1 : -2147483648 ≤ st) (st2 : st ≤ 2147483647) (part1 : -2147483648 ≤ part) (part2 : part ≤ 2147483647) : pw_M rvL l D E yX9_worth wsX9_worth ({ frames := 6, cells := 0, slots := 0, locals := 146 } : Room) [.ref (o0), .int (iI (k)), .int (iI (st)), .int (iI (part))] (fun H => PO D E o0 σ rn H) (fun z H => PO D E o0 σ rn H ∧ ((¬ (rdy σ ∧ 0 ≤ k ∧ k ≤ 3 ∧ 0 ≤ st ∧ st < (mN σ : Int) ∧ -1 ≤ part) ∧ z = (if part = -1 then -2 else -1)) ∨ ((rdy σ ∧ 0 ≤ k ∧ k ≤ 3 ∧ 0 ≤ st ∧ st < (mN σ : Int) ∧ -1 ≤ part) ∧ ∃ w d, PV σ (tpol σ k.toNat) w d ∧ z = tellZ (w st.toNat) d part))) (fun q => o0 ≤ q ∧ q ≤ o0 + 582) (0) (0) := by
  refine pw_of (cc := cX9_worth) (maxL := 5) (ret := (some .long)) (by decide +kernel) rfl (Nat.le_of_ble_eq_true rfl) ?_
  intro p e s m args below meth c hx hb hr hml hts hown hlocks hini hK ⟨bv, bd, bp, wn, wd, wq, kn, V, B, pk, ⟨hO, hM, hE, hCx, hLD, hRW, hBP, hQ, hWS, hZ, hT, hF, hW1, hW2, hW3⟩, hINV⟩ ls hl
  have hown : s.vm.findClass RX9 = some m.cls := hown
  have hl : lv_has ls 5 [(0, .ref (o0)), (1, .int (iI (k))), (2, .int (iI (st))), (3, .int (iI (part)))] := hl
  have hS : va_S (fun q => o0 ≤ q ∧ q ≤ o0 + 582) s.heap s.heap [] := va_S.rf
  have lk_10 := hts (.fieldLink RX9 10 "PolicyWorks" "model" "LPolicyWorks$Model;") (by decide +kernel)
  have lk_64 := hts (.fieldLink RX9 64 "PolicyWorks" "told" "LPolicyWorks$Fraction;") (by decide +kernel)
  have hin9 : ∀ w ∈ wsX90, w ∈ wsX9_worth := by decide +kernel
  have hMO := hM.1
  have hMC := hM.2.1
  have hMQ := hM.2.2.1
  have hAT : ATS D E (o0 + 1) σ s.heap := hM.2.2.2
  have hLO := hLD.1
  have hLR : LDR D E (o0 + 326) V B pk s.heap := hLD.2
  have hok := hINV.1
  have hrn := hINV.2.1
  have hN6 := hok.1
  have hC4 := hok.2.1
  obtain ⟨fu, fw, fo1, fo2, fo3, hF⟩ := hF
  refine lv_iload_n hx hb dX9_worth_0 rfl (lv_at hl 1 rfl) ?_
  refine pw_if_lt (tgt := 29) hx hb dX9_worth_1 (by decide) (fun c_1 => ?_) (fun c_1 => ?_)
  · refine pw_iconst hx hb dX9_worth_29 ?_
    refine lv_istore (lv' := [(4, .int (iI (0))), (0, .ref (o0)), (1, .int (iI (k))), (2, .int (iI (st))), (3, .int (iI (part)))]) hx hb dX9_worth_30 hl (by decide) rfl (fun ls hl => ?_)
    refine lv_iload hx hb dX9_worth_32 (lv_at hl 0 rfl) ?_
    refine pw_if_eq (tgt := 47) hx hb dX9_worth_34 (by decide) (fun c_34 => ?_) (fun c_34 => absurd c_34 (by omega))
    refine lv_iload_n hx hb dX9_worth_47 rfl (lv_at hl 4 rfl) ?_
    refine pw_callSl (As := [.int (iI (part))]) (rest := []) ⟨hx, hb, hml, hown, hts⟩ (c_refusal l D E part part1 part2) (va_cwS 1 hts gX9_worth_X9_refusal rfl rfl rfl (by decide +kernel) ⟨Nat.le_of_ble_eq_true rfl, Nat.le_of_ble_eq_true rfl⟩) hK trivial rfl hl.1 rfl (Nat.le_of_ble_eq_true rfl) dX9_worth_48 ⟨Nat.zero_le _, Nat.zero_le _⟩ hS (fun q h => h.elim) (fun zn H1 locs1 hzn hz1 hk1 hS => ?_)
    have hO := hO.k (hk1 _ hO.lt (fun h => h))
    have hM := hM.k (fun q h1 h2 h3 => (hk1 _ h3 (fun h => h)))
    have hMO := hMO.k (hk1 _ hMO.lt (fun h => h))
    have hMC := hMC.k (hk1 _ hMC.lt (fun h => h))
    have hMQ := hMQ.k (hk1 _ hMQ.lt (fun h => h))
    have hAT := hAT.k (fun q h1 h2 h3 => (hk1 _ h3 (fun h => h)))
    have hE := hE.k (fun q h1 h2 h3 => (hk1 _ h3 (fun h => h)))
    have hCx := hCx.k (fun q h1 h2 h3 => (hk1 _ h3 (fun h => h)))
    have hLO := hLO.k (hk1 _ hLO.lt (fun h => h))
    have hLR := hLR.k (fun q h1 h2 h3 => (hk1 _ h3 (fun h => h)))
    have hRW := hRW.k (fun q h1 h2 h3 => (hk1 _ h3 (fun h => h)))
    have hBP := hBP.k (hk1 _ hBP.lt (fun h => h))
    have hQ := hQ.k (hk1 _ hQ.lt (fun h => h))
    have hWS := hWS.k (fun q h1 h2 h3 => (hk1 _ h3 (fun h => h)))
    have hZ := hZ.k (hk1 _ hZ.lt (fun h => h))
    have hT := hT.k (fun q h1 h2 h3 => (hk1 _ h3 (fun h => h)))
    have hW1 := hW1.k (fun q h1 h2 h3 => (hk1 _ h3 (fun h => h)))
    have hW2 := hW2.k (fun q h1 h2 h3 => (hk1 _ h3 (fun h => h)))
    have hW3 := hW3.k (fun q h1 h2 h3 => (hk1 _ h3 (fun h => h)))
    have hF := hF.k (fun q h1 h2 h3 => (hk1 _ h3 (fun h => h)))
    subst hzn
    exact pw_lret hx hb hr hlocks hS ⟨⟨bv, bd, bp, wn, wd, wq, kn, V, B, pk, ⟨hO, hM, hE, hCx, ⟨hLO, hLR⟩, hRW, hBP, hQ, hWS, hZ, hT, ⟨_, _, _, _, _, hF⟩, hW1, hW2, hW3⟩, hINV⟩, Or.inl ⟨fun h => by omega, rfl⟩⟩ dX9_worth_51
  · refine lv_iload_n hx hb dX9_worth_4 rfl (lv_at hl 1 rfl) ?_
    refine pw_iconst hx hb dX9_worth_5 ?_
    refine pw_icmp_ge (tgt := 29) hx hb dX9_worth_6 (by decide) (fun c_6 => ?_) (fun c_6 => ?_)
    · refine pw_iconst hx hb dX9_worth_29 ?_
      refine lv_istore (lv' := [(4, .int (iI (0))), (0, .ref (o0)), (1, .int (iI (k))), (2, .int (iI (st))), (3, .int (iI (part)))]) hx hb dX9_worth_30 hl (by decide) rfl (fun ls hl => ?_)
      refine lv_iload hx hb dX9_worth_32 (lv_at hl 0 rfl) ?_
      refine pw_if_eq (tgt := 47) hx hb dX9_worth_34 (by decide) (fun c_34 => ?_) (fun c_34 => absurd c_34 (by omega))
      refine lv_iload_n hx hb dX9_worth_47 rfl (lv_at hl 4 rfl) ?_
      refine pw_callSl (As := [.int (iI (part))]) (rest := []) ⟨hx, hb, hml, hown, hts⟩ (c_refusal l D E part part1 part2) (va_cwS 1 hts gX9_worth_X9_refusal rfl rfl rfl (by decide +kernel) ⟨Nat.le_of_ble_eq_true rfl, Nat.le_of_ble_eq_true rfl⟩) hK trivial rfl hl.1 rfl (Nat.le_of_ble_eq_true rfl) dX9_worth_48 ⟨Nat.zero_le _, Nat.zero_le _⟩ hS (fun q h => h.elim) (fun zn H1 locs1 hzn hz1 hk1 hS => ?_)
      have hO := hO.k (hk1 _ hO.lt (fun h => h))
      have hM := hM.k (fun q h1 h2 h3 => (hk1 _ h3 (fun h => h)))
      have hMO := hMO.k (hk1 _ hMO.lt (fun h => h))
      have hMC := hMC.k (hk1 _ hMC.lt (fun h => h))
      have hMQ := hMQ.k (hk1 _ hMQ.lt (fun h => h))
      have hAT := hAT.k (fun q h1 h2 h3 => (hk1 _ h3 (fun h => h)))
      have hE := hE.k (fun q h1 h2 h3 => (hk1 _ h3 (fun h => h)))
      have hCx := hCx.k (fun q h1 h2 h3 => (hk1 _ h3 (fun h => h)))
      have hLO := hLO.k (hk1 _ hLO.lt (fun h => h))
      have hLR := hLR.k (fun q h1 h2 h3 => (hk1 _ h3 (fun h => h)))
      have hRW := hRW.k (fun q h1 h2 h3 => (hk1 _ h3 (fun h => h)))
      have hBP := hBP.k (hk1 _ hBP.lt (fun h => h))
      have hQ := hQ.k (hk1 _ hQ.lt (fun h => h))
      have hWS := hWS.k (fun q h1 h2 h3 => (hk1 _ h3 (fun h => h)))
      have hZ := hZ.k (hk1 _ hZ.lt (fun h => h))
      have hT := hT.k (fun q h1 h2 h3 => (hk1 _ h3 (fun h => h)))
      have hW1 := hW1.k (fun q h1 h2 h3 => (hk1 _ h3 (fun h => h)))
      have hW2 := hW2.k (fun q h1 h2 h3 => (hk1 _ h3 (fun h => h)))
      have hW3 := hW3.k (fun q h1 h2 h3 => (hk1 _ h3 (fun h => h)))
      have hF := hF.k (fun q h1 h2 h3 => (hk1 _ h3 (fun h => h)))
      subst hzn
      exact pw_lret hx hb hr hlocks hS ⟨⟨bv, bd, bp, wn, wd, wq, kn, V, B, pk, ⟨hO, hM, hE, hCx, ⟨hLO, hLR⟩, hRW, hBP, hQ, hWS, hZ, hT, ⟨_, _, _, _, _, hF⟩, hW1, hW2, hW3⟩, hINV⟩, Or.inl ⟨fun h => by omega, rfl⟩⟩ dX9_worth_51
    · refine lv_aload_n hx hb dX9_worth_9 rfl (lv_at hl 0 rfl) ?_
      refine pw_get (C := RX9) (T := TX9) (N := 14) hx hb hts hin9 hown hK hO rfl 0 (by decide) lk_10 rfl rfl dX9_worth_10 ?_
      refine lv_iload_n hx hb dX9_worth_13 rfl (lv_at hl 2 rfl) ?_
      refine pw_callVi (As := [.int (iI (st))]) (rest := []) ⟨hx, hb, hml, hown, hts⟩ (c_hasState l D E (o0 + 1) σ st hok (by omega) (by omega)) (cwV 1 hts gX9_worth_X6_hasState rfl rfl rfl (by decide +kernel) ⟨Nat.le_of_ble_eq_true rfl, Nat.le_of_ble_eq_true rfl⟩) hK hMO rfl hM rfl hl.1 rfl (Nat.le_of_ble_eq_true rfl) dX9_worth_14 ⟨Nat.zero_le _, Nat.zero_le _⟩ hS (fun q h => h.elim) (fun z H1 locs1 hz hz1 hk1 hS => ?_)
      have hO := hO.k (hk1 _ hO.lt (fun h => h))
      have hM := hM.k (fun q h1 h2 h3 => (hk1 _ h3 (fun h => h)))
      have hMO := hMO.k (hk1 _ hMO.lt (fun h => h))
      have hMC := hMC.k (hk1 _ hMC.lt (fun h => h))
      have hMQ := hMQ.k (hk1 _ hMQ.lt (fun h => h))
      have hAT := hAT.k (fun q h1 h2 h3 => (hk1 _ h3 (fun h => h)))
      have hE := hE.k (fun q h1 h2 h3 => (hk1 _ h3 (fun h => h)))
      have hCx := hCx.k (fun q h1 h2 h3 => (hk1 _ h3 (fun h => h)))
      have hLO := hLO.k (hk1 _ hLO.lt (fun h => h))
      have hLR := hLR.k (fun q h1 h2 h3 => (hk1 _ h3 (fun h => h)))
      have hRW := hRW.k (fun q h1 h2 h3 => (hk1 _ h3 (fun h => h)))
      have hBP := hBP.k (hk1 _ hBP.lt (fun h => h))
      have hQ := hQ.k (hk1 _ hQ.lt (fun h => h))
      have hWS := hWS.k (fun q h1 h2 h3 => (hk1 _ h3 (fun h => h)))
      have hZ := hZ.k (hk1 _ hZ.lt (fun h => h))
      have hT := hT.k (fun q h1 h2 h3 => (hk1 _ h3 (fun h => h)))
      have hW1 := hW1.k (fun q h1 h2 h3 => (hk1 _ h3 (fun h => h)))
      have hW2 := hW2.k (fun q h1 h2 h3 => (hk1 _ h3 (fun h => h)))
      have hW3 := hW3.k (fun q h1 h2 h3 => (hk1 _ h3 (fun h => h)))
      have hF := hF.k (fun q h1 h2 h3 => (hk1 _ h3 (fun h => h)))
      have hz01 : 0 ≤ z ∧ z ≤ 1 := by rw [hz]; split <;> omega
      refine pw_if_eq (tgt := 29) hx hb dX9_worth_17 (by decide) (fun c_17 => ?_) (fun c_17 => ?_)
      · refine pw_iconst hx hb dX9_worth_29 ?_
        refine lv_istore (lv' := [(4, .int (iI (0))), (0, .ref (o0)), (1, .int (iI (k))), (2, .int (iI (st))), (3, .int (iI (part)))]) hx hb dX9_worth_30 hl (by decide) rfl (fun ls hl => ?_)
        refine lv_iload hx hb dX9_worth_32 (lv_at hl 0 rfl) ?_
        refine pw_if_eq (tgt := 47) hx hb dX9_worth_34 (by decide) (fun c_34 => ?_) (fun c_34 => absurd c_34 (by omega))
        refine lv_iload_n hx hb dX9_worth_47 rfl (lv_at hl 4 rfl) ?_
        refine pw_callSl (As := [.int (iI (part))]) (rest := []) ⟨hx, hb, hml, hown, hts⟩ (c_refusal l D E part part1 part2) (va_cwS 1 hts gX9_worth_X9_refusal rfl rfl rfl (by decide +kernel) ⟨Nat.le_of_ble_eq_true rfl, Nat.le_of_ble_eq_true rfl⟩) hK trivial rfl hl.1 rfl (Nat.le_of_ble_eq_true rfl) dX9_worth_48 ⟨Nat.zero_le _, Nat.zero_le _⟩ hS (fun q h => h.elim) (fun zn H1 locs1 hzn hz1 hk1 hS => ?_)
        have hO := hO.k (hk1 _ hO.lt (fun h => h))
        have hM := hM.k (fun q h1 h2 h3 => (hk1 _ h3 (fun h => h)))
        have hMO := hMO.k (hk1 _ hMO.lt (fun h => h))
        have hMC := hMC.k (hk1 _ hMC.lt (fun h => h))
        have hMQ := hMQ.k (hk1 _ hMQ.lt (fun h => h))
        have hAT := hAT.k (fun q h1 h2 h3 => (hk1 _ h3 (fun h => h)))
        have hE := hE.k (fun q h1 h2 h3 => (hk1 _ h3 (fun h => h)))
        have hCx := hCx.k (fun q h1 h2 h3 => (hk1 _ h3 (fun h => h)))
        have hLO := hLO.k (hk1 _ hLO.lt (fun h => h))
        have hLR := hLR.k (fun q h1 h2 h3 => (hk1 _ h3 (fun h => h)))
        have hRW := hRW.k (fun q h1 h2 h3 => (hk1 _ h3 (fun h => h)))
        have hBP := hBP.k (hk1 _ hBP.lt (fun h => h))
        have hQ := hQ.k (hk1 _ hQ.lt (fun h => h))
        have hWS := hWS.k (fun q h1 h2 h3 => (hk1 _ h3 (fun h => h)))
        have hZ := hZ.k (hk1 _ hZ.lt (fun h => h))
        have hT := hT.k (fun q h1 h2 h3 => (hk1 _ h3 (fun h => h)))
        have hW1 := hW1.k (fun q h1 h2 h3 => (hk1 _ h3 (fun h => h)))
        have hW2 := hW2.k (fun q h1 h2 h3 => (hk1 _ h3 (fun h => h)))
        have hW3 := hW3.k (fun q h1 h2 h3 => (hk1 _ h3 (fun h => h)))
        have hF := hF.k (fun q h1 h2 h3 => (hk1 _ h3 (fun h => h)))
        subst hzn
        exact pw_lret hx hb hr hlocks hS ⟨⟨bv, bd, bp, wn, wd, wq, kn, V, B, pk, ⟨hO, hM, hE, hCx, ⟨hLO, hLR⟩, hRW, hBP, hQ, hWS, hZ, hT, ⟨_, _, _, _, _, hF⟩, hW1, hW2, hW3⟩, hINV⟩, Or.inl ⟨fun h => by rw [if_pos ⟨h.2.2.2.1, h.2.2.2.2.1⟩] at hz; omega, rfl⟩⟩ dX9_worth_51
      · have hkin : 0 ≤ st ∧ st < (mN σ : Int) := by
          by_cases h : 0 ≤ st ∧ st < (mN σ : Int)
          · exact h
          · rw [if_neg h] at hz; omega
        refine lv_iload_n hx hb dX9_worth_20 rfl (lv_at hl 3 rfl) ?_
        refine pw_iconst hx hb dX9_worth_21 ?_
        refine pw_icmp_lt (tgt := 29) hx hb dX9_worth_22 (by decide) (fun c_22 => ?_) (fun c_22 => ?_)
        · refine pw_iconst hx hb dX9_worth_29 ?_
          refine lv_istore (lv' := [(4, .int (iI (0))), (0, .ref (o0)), (1, .int (iI (k))), (2, .int (iI (st))), (3, .int (iI (part)))]) hx hb dX9_worth_30 hl (by decide) rfl (fun ls hl => ?_)
          refine lv_iload hx hb dX9_worth_32 (lv_at hl 0 rfl) ?_
          refine pw_if_eq (tgt := 47) hx hb dX9_worth_34 (by decide) (fun c_34 => ?_) (fun c_34 => absurd c_34 (by omega))
          refine lv_iload_n hx hb dX9_worth_47 rfl (lv_at hl 4 rfl) ?_
          refine pw_callSl (As := [.int (iI (part))]) (rest := []) ⟨hx, hb, hml, hown, hts⟩ (c_refusal l D E part part1 part2) (va_cwS 1 hts gX9_worth_X9_refusal rfl rfl rfl (by decide +kernel) ⟨Nat.le_of_ble_eq_true rfl, Nat.le_of_ble_eq_true rfl⟩) hK trivial rfl hl.1 rfl (Nat.le_of_ble_eq_true rfl) dX9_worth_48 ⟨Nat.zero_le _, Nat.zero_le _⟩ hS (fun q h => h.elim) (fun zn H1 locs1 hzn hz1 hk1 hS => ?_)
          have hO := hO.k (hk1 _ hO.lt (fun h => h))
          have hM := hM.k (fun q h1 h2 h3 => (hk1 _ h3 (fun h => h)))
          have hMO := hMO.k (hk1 _ hMO.lt (fun h => h))
          have hMC := hMC.k (hk1 _ hMC.lt (fun h => h))
          have hMQ := hMQ.k (hk1 _ hMQ.lt (fun h => h))
          have hAT := hAT.k (fun q h1 h2 h3 => (hk1 _ h3 (fun h => h)))
          have hE := hE.k (fun q h1 h2 h3 => (hk1 _ h3 (fun h => h)))
          have hCx := hCx.k (fun q h1 h2 h3 => (hk1 _ h3 (fun h => h)))
          have hLO := hLO.k (hk1 _ hLO.lt (fun h => h))
          have hLR := hLR.k (fun q h1 h2 h3 => (hk1 _ h3 (fun h => h)))
          have hRW := hRW.k (fun q h1 h2 h3 => (hk1 _ h3 (fun h => h)))
          have hBP := hBP.k (hk1 _ hBP.lt (fun h => h))
          have hQ := hQ.k (hk1 _ hQ.lt (fun h => h))
          have hWS := hWS.k (fun q h1 h2 h3 => (hk1 _ h3 (fun h => h)))
          have hZ := hZ.k (hk1 _ hZ.lt (fun h => h))
          have hT := hT.k (fun q h1 h2 h3 => (hk1 _ h3 (fun h => h)))
          have hW1 := hW1.k (fun q h1 h2 h3 => (hk1 _ h3 (fun h => h)))
          have hW2 := hW2.k (fun q h1 h2 h3 => (hk1 _ h3 (fun h => h)))
          have hW3 := hW3.k (fun q h1 h2 h3 => (hk1 _ h3 (fun h => h)))
          have hF := hF.k (fun q h1 h2 h3 => (hk1 _ h3 (fun h => h)))
          subst hzn
          exact pw_lret hx hb hr hlocks hS ⟨⟨bv, bd, bp, wn, wd, wq, kn, V, B, pk, ⟨hO, hM, hE, hCx, ⟨hLO, hLR⟩, hRW, hBP, hQ, hWS, hZ, hT, ⟨_, _, _, _, _, hF⟩, hW1, hW2, hW3⟩, hINV⟩, Or.inl ⟨fun h => by omega, rfl⟩⟩ dX9_worth_51
        · refine pw_iconst hx hb dX9_worth_25 ?_
          refine lv_goto (tgt := 30) hx hb dX9_worth_26 (by decide) ?_
          refine lv_istore (lv' := [(4, .int (iI (1))), (0, .ref (o0)), (1, .int (iI (k))), (2, .int (iI (st))), (3, .int (iI (part)))]) hx hb dX9_worth_30 hl (by decide) rfl (fun ls hl => ?_)
          refine lv_iload hx hb dX9_worth_32 (lv_at hl 0 rfl) ?_
          refine pw_if_eq (tgt := 47) hx hb dX9_worth_34 (by decide) (fun c_34 => absurd c_34 (by omega)) (fun c_34 => ?_)
          refine lv_aload_n hx hb dX9_worth_37 rfl (lv_at hl 1 rfl) ?_
          refine pw_get (C := RX9) (T := TX9) (N := 14) hx hb hts hin9 hown hK hO rfl 0 (by decide) lk_10 rfl rfl dX9_worth_38 ?_
          refine pw_callVi (As := []) (rest := []) ⟨hx, hb, hml, hown, hts⟩ (c_allReady l D E (o0 + 1) σ hok) (cwV 0 hts gX9_worth_X6_allReady rfl rfl rfl (by decide +kernel) ⟨Nat.le_of_ble_eq_true rfl, Nat.le_of_ble_eq_true rfl⟩) hK hMO rfl hM rfl hl.1 rfl (Nat.le_of_ble_eq_true rfl) dX9_worth_41 ⟨Nat.zero_le _, Nat.zero_le _⟩ hS (fun q h => h.elim) (fun zy H1 locs1 ⟨hy01, hyr⟩ hz1 hk1 hS => ?_)
          have hO := hO.k (hk1 _ hO.lt (fun h => h))
          have hM := hM.k (fun q h1 h2 h3 => (hk1 _ h3 (fun h => h)))
          have hMO := hMO.k (hk1 _ hMO.lt (fun h => h))
          have hMC := hMC.k (hk1 _ hMC.lt (fun h => h))
          have hMQ := hMQ.k (hk1 _ hMQ.lt (fun h => h))
          have hAT := hAT.k (fun q h1 h2 h3 => (hk1 _ h3 (fun h => h)))
          have hE := hE.k (fun q h1 h2 h3 => (hk1 _ h3 (fun h => h)))
          have hCx := hCx.k (fun q h1 h2 h3 => (hk1 _ h3 (fun h => h)))
          have hLO := hLO.k (hk1 _ hLO.lt (fun h => h))
          have hLR := hLR.k (fun q h1 h2 h3 => (hk1 _ h3 (fun h => h)))
          have hRW := hRW.k (fun q h1 h2 h3 => (hk1 _ h3 (fun h => h)))
          have hBP := hBP.k (hk1 _ hBP.lt (fun h => h))
          have hQ := hQ.k (hk1 _ hQ.lt (fun h => h))
          have hWS := hWS.k (fun q h1 h2 h3 => (hk1 _ h3 (fun h => h)))
          have hZ := hZ.k (hk1 _ hZ.lt (fun h => h))
          have hT := hT.k (fun q h1 h2 h3 => (hk1 _ h3 (fun h => h)))
          have hW1 := hW1.k (fun q h1 h2 h3 => (hk1 _ h3 (fun h => h)))
          have hW2 := hW2.k (fun q h1 h2 h3 => (hk1 _ h3 (fun h => h)))
          have hW3 := hW3.k (fun q h1 h2 h3 => (hk1 _ h3 (fun h => h)))
          have hF := hF.k (fun q h1 h2 h3 => (hk1 _ h3 (fun h => h)))
          refine pw_if_ne (tgt := 52) hx hb dX9_worth_44 (by decide) (fun c_44 => ?_) (fun c_44 => ?_)
          · have hrd := hyr.mp (by omega)
            refine lv_aload_n hx hb dX9_worth_52 rfl (lv_at hl 1 rfl) ?_
            refine lv_aload_n hx hb dX9_worth_53 rfl (lv_at hl 1 rfl) ?_
            refine lv_iload_n hx hb dX9_worth_54 rfl (lv_at hl 2 rfl) ?_
            refine pw_asi (((k.toNat : Nat) : Int)) (by omega) ?_
            refine pw_callVr (As := [.int (iI (((k.toNat : Nat) : Int)))]) (rest := [.ref (o0)]) ⟨hx, hb, hml, hown, hts⟩ (c_findWorth l D E o0 k.toNat σ rn wn wd wq hok hrd (by omega) hINV.2.2.2.1) (cwV 1 hts gX9_worth_X9_findWorth rfl rfl rfl (by decide +kernel) ⟨Nat.le_of_ble_eq_true rfl, Nat.le_of_ble_eq_true rfl⟩) hK hO rfl ⟨hO, hM, hE, hQ, hWS, hZ, hT⟩ rfl hl.1 rfl (Nat.le_of_ble_eq_true rfl) dX9_worth_55 ⟨Nat.zero_le _, Nat.zero_le _⟩ hS (fun q h => by (try dsimp only at h); (try dsimp only); omega) (fun zf H1 locs1 ⟨hzf, hE, hT, wn, wd, wq, hWS, hZ, hWQ, hPV⟩ hz1 hk1 hS => ?_)
            have hO := hO.k (hk1 _ hO.lt (by (try dsimp only); omega))
            have hM := hM.k (fun q h1 h2 h3 => (hk1 _ h3 (by (try dsimp only); omega)))
            have hMO := hMO.k (hk1 _ hMO.lt (by (try dsimp only); omega))
            have hMC := hMC.k (hk1 _ hMC.lt (by (try dsimp only); omega))
            have hMQ := hMQ.k (hk1 _ hMQ.lt (by (try dsimp only); omega))
            have hAT := hAT.k (fun q h1 h2 h3 => (hk1 _ h3 (by (try dsimp only); omega)))
            have hCx := hCx.k (fun q h1 h2 h3 => (hk1 _ h3 (by (try dsimp only); omega)))
            have hLO := hLO.k (hk1 _ hLO.lt (by (try dsimp only); omega))
            have hLR := hLR.k (fun q h1 h2 h3 => (hk1 _ h3 (by (try dsimp only); omega)))
            have hRW := hRW.k (fun q h1 h2 h3 => (hk1 _ h3 (by (try dsimp only); omega)))
            have hBP := hBP.k (hk1 _ hBP.lt (by (try dsimp only); omega))
            have hQ := hQ.k (hk1 _ hQ.lt (by (try dsimp only); omega))
            have hW1 := hW1.k (fun q h1 h2 h3 => (hk1 _ h3 (by (try dsimp only); omega)))
            have hW2 := hW2.k (fun q h1 h2 h3 => (hk1 _ h3 (by (try dsimp only); omega)))
            have hW3 := hW3.k (fun q h1 h2 h3 => (hk1 _ h3 (by (try dsimp only); omega)))
            have hF := hF.k (fun q h1 h2 h3 => (hk1 _ h3 (by (try dsimp only); omega)))
            subst hzf
            have hw0 : 0 < wd k.toNat := hPV.1
            refine lv_iload_n hx hb dX9_worth_58 rfl (lv_at hl 3 rfl) ?_
            refine pw_asi (((st.toNat : Nat) : Int)) (by omega) ?_
            refine pw_callVv (As := [.ref (o0 + 500 + 16 * k.toNat), .int (iI (((st.toNat : Nat) : Int)))]) (rest := []) ⟨hx, hb, hml, hown, hts⟩ (c_hold l D E o0 (o0 + 500 + 16 * k.toNat) 8 (st.toNat) rn (wn k.toNat) (wd k.toNat) fu fw fo1 fo2 fo3 (by omega) (by omega) (by omega)) (cwV 2 hts gX9_worth_X9_hold rfl rfl rfl (by decide +kernel) ⟨Nat.le_of_ble_eq_true rfl, Nat.le_of_ble_eq_true rfl⟩) hK hO rfl ⟨hO, hF, (hWS k.toNat (by omega) (by omega))⟩ rfl hl.1 rfl (Nat.le_of_ble_eq_true rfl) dX9_worth_59 ⟨Nat.zero_le _, Nat.zero_le _⟩ hS (fun q h => by (try dsimp only at h); (try dsimp only); omega) (fun H1 locs1 hF hz1 hk1 hS => ?_)
            have hO := hO.k (hk1 _ hO.lt (by (try dsimp only); omega))
            have hM := hM.k (fun q h1 h2 h3 => (hk1 _ h3 (by (try dsimp only); omega)))
            have hMO := hMO.k (hk1 _ hMO.lt (by (try dsimp only); omega))
            have hMC := hMC.k (hk1 _ hMC.lt (by (try dsimp only); omega))
            have hMQ := hMQ.k (hk1 _ hMQ.lt (by (try dsimp only); omega))
            have hAT := hAT.k (fun q h1 h2 h3 => (hk1 _ h3 (by (try dsimp only); omega)))
            have hE := hE.k (fun q h1 h2 h3 => (hk1 _ h3 (by (try dsimp only); omega)))
            have hCx := hCx.k (fun q h1 h2 h3 => (hk1 _ h3 (by (try dsimp only); omega)))
            have hLO := hLO.k (hk1 _ hLO.lt (by (try dsimp only); omega))
            have hLR := hLR.k (fun q h1 h2 h3 => (hk1 _ h3 (by (try dsimp only); omega)))
            have hRW := hRW.k (fun q h1 h2 h3 => (hk1 _ h3 (by (try dsimp only); omega)))
            have hBP := hBP.k (hk1 _ hBP.lt (by (try dsimp only); omega))
            have hQ := hQ.k (hk1 _ hQ.lt (by (try dsimp only); omega))
            have hWS := hWS.k (fun q h1 h2 h3 => (hk1 _ h3 (by (try dsimp only); omega)))
            have hZ := hZ.k (hk1 _ hZ.lt (by (try dsimp only); omega))
            have hT := hT.k (fun q h1 h2 h3 => (hk1 _ h3 (by (try dsimp only); omega)))
            have hW1 := hW1.k (fun q h1 h2 h3 => (hk1 _ h3 (by (try dsimp only); omega)))
            have hW2 := hW2.k (fun q h1 h2 h3 => (hk1 _ h3 (by (try dsimp only); omega)))
            have hW3 := hW3.k (fun q h1 h2 h3 => (hk1 _ h3 (by (try dsimp only); omega)))
            refine lv_aload_n hx hb dX9_worth_62 rfl (lv_at hl 1 rfl) ?_
            refine pw_get (C := RX9) (T := TX9) (N := 14) hx hb hts hin9 hown hK hO rfl 9 (by decide) lk_64 rfl rfl dX9_worth_63 ?_
            refine lv_iload_n hx hb dX9_worth_66 rfl (lv_at hl 4 rfl) ?_
            refine pw_callVl (As := [.int (iI (part))]) (rest := []) ⟨hx, hb, hml, hown, hts⟩ (c_tell l D E (o0 + 566) (wn k.toNat st.toNat) (wd k.toNat) _ _ _ part hw0 (by omega) part2) (cwV 1 hts gX9_worth_X3_tell rfl rfl rfl (by decide +kernel) ⟨Nat.le_of_ble_eq_true rfl, Nat.le_of_ble_eq_true rfl⟩) hK hF.1 rfl hF rfl hl.1 rfl (Nat.le_of_ble_eq_true rfl) dX9_worth_67 ⟨Nat.zero_le _, Nat.zero_le _⟩ hS (fun q h => by (try dsimp only at h); (try dsimp only); omega) (fun zt H1 locs1 ⟨hzt, fu, fw, fo1, fo2, fo3, hF⟩ hz1 hk1 hS => ?_)
            have hO := hO.k (hk1 _ hO.lt (by (try dsimp only); omega))
            have hM := hM.k (fun q h1 h2 h3 => (hk1 _ h3 (by (try dsimp only); omega)))
            have hMO := hMO.k (hk1 _ hMO.lt (by (try dsimp only); omega))
            have hMC := hMC.k (hk1 _ hMC.lt (by (try dsimp only); omega))
            have hMQ := hMQ.k (hk1 _ hMQ.lt (by (try dsimp only); omega))
            have hAT := hAT.k (fun q h1 h2 h3 => (hk1 _ h3 (by (try dsimp only); omega)))
            have hE := hE.k (fun q h1 h2 h3 => (hk1 _ h3 (by (try dsimp only); omega)))
            have hCx := hCx.k (fun q h1 h2 h3 => (hk1 _ h3 (by (try dsimp only); omega)))
            have hLO := hLO.k (hk1 _ hLO.lt (by (try dsimp only); omega))
            have hLR := hLR.k (fun q h1 h2 h3 => (hk1 _ h3 (by (try dsimp only); omega)))
            have hRW := hRW.k (fun q h1 h2 h3 => (hk1 _ h3 (by (try dsimp only); omega)))
            have hBP := hBP.k (hk1 _ hBP.lt (by (try dsimp only); omega))
            have hQ := hQ.k (hk1 _ hQ.lt (by (try dsimp only); omega))
            have hWS := hWS.k (fun q h1 h2 h3 => (hk1 _ h3 (by (try dsimp only); omega)))
            have hZ := hZ.k (hk1 _ hZ.lt (by (try dsimp only); omega))
            have hT := hT.k (fun q h1 h2 h3 => (hk1 _ h3 (by (try dsimp only); omega)))
            have hW1 := hW1.k (fun q h1 h2 h3 => (hk1 _ h3 (by (try dsimp only); omega)))
            have hW2 := hW2.k (fun q h1 h2 h3 => (hk1 _ h3 (by (try dsimp only); omega)))
            have hW3 := hW3.k (fun q h1 h2 h3 => (hk1 _ h3 (by (try dsimp only); omega)))
            exact pw_lret hx hb hr hlocks hS ⟨⟨bv, bd, bp, wn, wd, wq, kn, V, B, pk, ⟨hO, hM, hE, hCx, ⟨hLO, hLR⟩, hRW, hBP, hQ, hWS, hZ, hT, ⟨_, _, _, _, _, hF⟩, hW1, hW2, hW3⟩, ⟨hok, hrn, hINV.2.2.1, hWQ, hINV.2.2.2.2⟩⟩, Or.inr ⟨⟨hrd, by omega, by omega, hkin.1, hkin.2, by omega⟩, wn k.toNat, wd k.toNat, hPV, hzt⟩⟩ dX9_worth_70
          · refine lv_iload_n hx hb dX9_worth_47 rfl (lv_at hl 4 rfl) ?_
            refine pw_callSl (As := [.int (iI (part))]) (rest := []) ⟨hx, hb, hml, hown, hts⟩ (c_refusal l D E part part1 part2) (va_cwS 1 hts gX9_worth_X9_refusal rfl rfl rfl (by decide +kernel) ⟨Nat.le_of_ble_eq_true rfl, Nat.le_of_ble_eq_true rfl⟩) hK trivial rfl hl.1 rfl (Nat.le_of_ble_eq_true rfl) dX9_worth_48 ⟨Nat.zero_le _, Nat.zero_le _⟩ hS (fun q h => h.elim) (fun zn H1 locs1 hzn hz1 hk1 hS => ?_)
            have hO := hO.k (hk1 _ hO.lt (fun h => h))
            have hM := hM.k (fun q h1 h2 h3 => (hk1 _ h3 (fun h => h)))
            have hMO := hMO.k (hk1 _ hMO.lt (fun h => h))
            have hMC := hMC.k (hk1 _ hMC.lt (fun h => h))
            have hMQ := hMQ.k (hk1 _ hMQ.lt (fun h => h))
            have hAT := hAT.k (fun q h1 h2 h3 => (hk1 _ h3 (fun h => h)))
            have hE := hE.k (fun q h1 h2 h3 => (hk1 _ h3 (fun h => h)))
            have hCx := hCx.k (fun q h1 h2 h3 => (hk1 _ h3 (fun h => h)))
            have hLO := hLO.k (hk1 _ hLO.lt (fun h => h))
            have hLR := hLR.k (fun q h1 h2 h3 => (hk1 _ h3 (fun h => h)))
            have hRW := hRW.k (fun q h1 h2 h3 => (hk1 _ h3 (fun h => h)))
            have hBP := hBP.k (hk1 _ hBP.lt (fun h => h))
            have hQ := hQ.k (hk1 _ hQ.lt (fun h => h))
            have hWS := hWS.k (fun q h1 h2 h3 => (hk1 _ h3 (fun h => h)))
            have hZ := hZ.k (hk1 _ hZ.lt (fun h => h))
            have hT := hT.k (fun q h1 h2 h3 => (hk1 _ h3 (fun h => h)))
            have hW1 := hW1.k (fun q h1 h2 h3 => (hk1 _ h3 (fun h => h)))
            have hW2 := hW2.k (fun q h1 h2 h3 => (hk1 _ h3 (fun h => h)))
            have hW3 := hW3.k (fun q h1 h2 h3 => (hk1 _ h3 (fun h => h)))
            have hF := hF.k (fun q h1 h2 h3 => (hk1 _ h3 (fun h => h)))
            subst hzn
            exact pw_lret hx hb hr hlocks hS ⟨⟨bv, bd, bp, wn, wd, wq, kn, V, B, pk, ⟨hO, hM, hE, hCx, ⟨hLO, hLR⟩, hRW, hBP, hQ, hWS, hZ, hT, ⟨_, _, _, _, _, hF⟩, hW1, hW2, hW3⟩, hINV⟩, Or.inl ⟨fun h => absurd (hyr.mpr h.1) (by omega), rfl⟩⟩ dX9_worth_51
set_option maxHeartbeats 4000000 in
set_option maxRecDepth 100000 in
/-- steps(n, s, part) -/
theorem c_steps (l : Launch) (D : va_G) (E : Nat → ClassId) (o0 : Nat) (σ : MS) (rn n st part : Int) (n1 : -2147483648 ≤ n) (n2 : n ≤ 2147483647) (st1 : -2147483648 ≤ st) (st2 : st ≤ 2147483647) (part1 : -2147483648 ≤ part) (part2 : part ≤ 2147483647) : pw_M rvL l D E yX9_steps wsX9_steps ({ frames := 6, cells := 0, slots := 0, locals := 169 } : Room) [.ref (o0), .int (iI (n)), .int (iI (st)), .int (iI (part))] (fun H => PO D E o0 σ rn H) (fun z H => PO D E o0 σ rn H ∧ ((¬ (rdy σ ∧ 0 ≤ n ∧ n ≤ 8 ∧ 0 ≤ st ∧ st < (mN σ : Int) ∧ -1 ≤ part) ∧ z = (if part = -1 then -2 else -1)) ∨ ((rdy σ ∧ 0 ≤ n ∧ n ≤ 8 ∧ 0 ≤ st ∧ st < (mN σ : Int) ∧ -1 ≤ part) ∧ ∃ v b, GS σ n.toNat v b ∧ z = tellZ (v st.toNat) b part))) (fun q => o0 ≤ q ∧ q ≤ o0 + 582) (0) (0) := by
  refine pw_of (cc := cX9_steps) (maxL := 5) (ret := (some .long)) (by decide +kernel) rfl (Nat.le_of_ble_eq_true rfl) ?_
  intro p e s m args below meth c hx hb hr hml hts hown hlocks hini hK ⟨bv, bd, bp, wn, wd, wq, kn, V, B, pk, ⟨hO, hM, hE, hCx, hLD, hRW, hBP, hQ, hWS, hZ, hT, hF, hW1, hW2, hW3⟩, hINV⟩ ls hl
  have hown : s.vm.findClass RX9 = some m.cls := hown
  have hl : lv_has ls 5 [(0, .ref (o0)), (1, .int (iI (n))), (2, .int (iI (st))), (3, .int (iI (part)))] := hl
  have hS : va_S (fun q => o0 ≤ q ∧ q ≤ o0 + 582) s.heap s.heap [] := va_S.rf
  have lk_10 := hts (.fieldLink RX9 10 "PolicyWorks" "model" "LPolicyWorks$Model;") (by decide +kernel)
  have lk_26 := hts (.fieldLink RX9 26 "PolicyWorks" "chooser" "LPolicyWorks$Chooser;") (by decide +kernel)
  have lk_33 := hts (.fieldLink RX9 33 "PolicyWorks" "ladder" "LPolicyWorks$Ladder;") (by decide +kernel)
  have lk_64 := hts (.fieldLink RX9 64 "PolicyWorks" "told" "LPolicyWorks$Fraction;") (by decide +kernel)
  have lk_189 := hts (.fieldLink RX9 189 "PolicyWorks$Ladder" "rows" "[LPolicyWorks$Row;") (by decide +kernel)
  have hin5 : ∀ w ∈ wsX50, w ∈ wsX9_steps := by decide +kernel
  have hin9 : ∀ w ∈ wsX90, w ∈ wsX9_steps := by decide +kernel
  have hMO := hM.1
  have hMC := hM.2.1
  have hMQ := hM.2.2.1
  have hAT : ATS D E (o0 + 1) σ s.heap := hM.2.2.2
  have hLO := hLD.1
  have hLR : LDR D E (o0 + 326) V B pk s.heap := hLD.2
  have hok := hINV.1
  have hrn := hINV.2.1
  have hN6 := hok.1
  have hC4 := hok.2.1
  obtain ⟨fu, fw, fo1, fo2, fo3, hF⟩ := hF
  obtain ⟨gb, gr, vb, sb, vr, sr, hCH⟩ := hCx
  refine lv_iload_n hx hb dX9_steps_0 rfl (lv_at hl 1 rfl) ?_
  refine pw_if_lt (tgt := 30) hx hb dX9_steps_1 (by decide) (fun c_1 => ?_) (fun c_1 => ?_)
  · refine pw_iconst hx hb dX9_steps_30 ?_
    refine lv_istore (lv' := [(4, .int (iI (0))), (0, .ref (o0)), (1, .int (iI (n))), (2, .int (iI (st))), (3, .int (iI (part)))]) hx hb dX9_steps_31 hl (by decide) rfl (fun ls hl => ?_)
    refine lv_iload hx hb dX9_steps_33 (lv_at hl 0 rfl) ?_
    refine pw_if_eq (tgt := 48) hx hb dX9_steps_35 (by decide) (fun c_35 => ?_) (fun c_35 => absurd c_35 (by omega))
    refine lv_iload_n hx hb dX9_steps_48 rfl (lv_at hl 4 rfl) ?_
    refine pw_callSl (As := [.int (iI (part))]) (rest := []) ⟨hx, hb, hml, hown, hts⟩ (c_refusal l D E part part1 part2) (va_cwS 1 hts gX9_steps_X9_refusal rfl rfl rfl (by decide +kernel) ⟨Nat.le_of_ble_eq_true rfl, Nat.le_of_ble_eq_true rfl⟩) hK trivial rfl hl.1 rfl (Nat.le_of_ble_eq_true rfl) dX9_steps_49 ⟨Nat.zero_le _, Nat.zero_le _⟩ hS (fun q h => h.elim) (fun zn H1 locs1 hzn hz1 hk1 hS => ?_)
    have hO := hO.k (hk1 _ hO.lt (fun h => h))
    have hM := hM.k (fun q h1 h2 h3 => (hk1 _ h3 (fun h => h)))
    have hMO := hMO.k (hk1 _ hMO.lt (fun h => h))
    have hMC := hMC.k (hk1 _ hMC.lt (fun h => h))
    have hMQ := hMQ.k (hk1 _ hMQ.lt (fun h => h))
    have hAT := hAT.k (fun q h1 h2 h3 => (hk1 _ h3 (fun h => h)))
    have hE := hE.k (fun q h1 h2 h3 => (hk1 _ h3 (fun h => h)))
    have hCH := hCH.k (fun q h1 h2 h3 => (hk1 _ h3 (fun h => h)))
    have hLO := hLO.k (hk1 _ hLO.lt (fun h => h))
    have hLR := hLR.k (fun q h1 h2 h3 => (hk1 _ h3 (fun h => h)))
    have hRW := hRW.k (fun q h1 h2 h3 => (hk1 _ h3 (fun h => h)))
    have hBP := hBP.k (hk1 _ hBP.lt (fun h => h))
    have hQ := hQ.k (hk1 _ hQ.lt (fun h => h))
    have hWS := hWS.k (fun q h1 h2 h3 => (hk1 _ h3 (fun h => h)))
    have hZ := hZ.k (hk1 _ hZ.lt (fun h => h))
    have hT := hT.k (fun q h1 h2 h3 => (hk1 _ h3 (fun h => h)))
    have hW1 := hW1.k (fun q h1 h2 h3 => (hk1 _ h3 (fun h => h)))
    have hW2 := hW2.k (fun q h1 h2 h3 => (hk1 _ h3 (fun h => h)))
    have hW3 := hW3.k (fun q h1 h2 h3 => (hk1 _ h3 (fun h => h)))
    have hF := hF.k (fun q h1 h2 h3 => (hk1 _ h3 (fun h => h)))
    subst hzn
    exact pw_lret hx hb hr hlocks hS ⟨⟨bv, bd, bp, wn, wd, wq, kn, V, B, pk, ⟨hO, hM, hE, ⟨_, _, _, _, _, _, hCH⟩, ⟨hLO, hLR⟩, hRW, hBP, hQ, hWS, hZ, hT, ⟨_, _, _, _, _, hF⟩, hW1, hW2, hW3⟩, hINV⟩, Or.inl ⟨fun h => by omega, rfl⟩⟩ dX9_steps_52
  · refine lv_iload_n hx hb dX9_steps_4 rfl (lv_at hl 1 rfl) ?_
    refine pw_bipush hx hb dX9_steps_5 ?_
    refine pw_icmp_gt (tgt := 30) hx hb dX9_steps_7 (by decide) (fun c_7 => ?_) (fun c_7 => ?_)
    · refine pw_iconst hx hb dX9_steps_30 ?_
      refine lv_istore (lv' := [(4, .int (iI (0))), (0, .ref (o0)), (1, .int (iI (n))), (2, .int (iI (st))), (3, .int (iI (part)))]) hx hb dX9_steps_31 hl (by decide) rfl (fun ls hl => ?_)
      refine lv_iload hx hb dX9_steps_33 (lv_at hl 0 rfl) ?_
      refine pw_if_eq (tgt := 48) hx hb dX9_steps_35 (by decide) (fun c_35 => ?_) (fun c_35 => absurd c_35 (by omega))
      refine lv_iload_n hx hb dX9_steps_48 rfl (lv_at hl 4 rfl) ?_
      refine pw_callSl (As := [.int (iI (part))]) (rest := []) ⟨hx, hb, hml, hown, hts⟩ (c_refusal l D E part part1 part2) (va_cwS 1 hts gX9_steps_X9_refusal rfl rfl rfl (by decide +kernel) ⟨Nat.le_of_ble_eq_true rfl, Nat.le_of_ble_eq_true rfl⟩) hK trivial rfl hl.1 rfl (Nat.le_of_ble_eq_true rfl) dX9_steps_49 ⟨Nat.zero_le _, Nat.zero_le _⟩ hS (fun q h => h.elim) (fun zn H1 locs1 hzn hz1 hk1 hS => ?_)
      have hO := hO.k (hk1 _ hO.lt (fun h => h))
      have hM := hM.k (fun q h1 h2 h3 => (hk1 _ h3 (fun h => h)))
      have hMO := hMO.k (hk1 _ hMO.lt (fun h => h))
      have hMC := hMC.k (hk1 _ hMC.lt (fun h => h))
      have hMQ := hMQ.k (hk1 _ hMQ.lt (fun h => h))
      have hAT := hAT.k (fun q h1 h2 h3 => (hk1 _ h3 (fun h => h)))
      have hE := hE.k (fun q h1 h2 h3 => (hk1 _ h3 (fun h => h)))
      have hCH := hCH.k (fun q h1 h2 h3 => (hk1 _ h3 (fun h => h)))
      have hLO := hLO.k (hk1 _ hLO.lt (fun h => h))
      have hLR := hLR.k (fun q h1 h2 h3 => (hk1 _ h3 (fun h => h)))
      have hRW := hRW.k (fun q h1 h2 h3 => (hk1 _ h3 (fun h => h)))
      have hBP := hBP.k (hk1 _ hBP.lt (fun h => h))
      have hQ := hQ.k (hk1 _ hQ.lt (fun h => h))
      have hWS := hWS.k (fun q h1 h2 h3 => (hk1 _ h3 (fun h => h)))
      have hZ := hZ.k (hk1 _ hZ.lt (fun h => h))
      have hT := hT.k (fun q h1 h2 h3 => (hk1 _ h3 (fun h => h)))
      have hW1 := hW1.k (fun q h1 h2 h3 => (hk1 _ h3 (fun h => h)))
      have hW2 := hW2.k (fun q h1 h2 h3 => (hk1 _ h3 (fun h => h)))
      have hW3 := hW3.k (fun q h1 h2 h3 => (hk1 _ h3 (fun h => h)))
      have hF := hF.k (fun q h1 h2 h3 => (hk1 _ h3 (fun h => h)))
      subst hzn
      exact pw_lret hx hb hr hlocks hS ⟨⟨bv, bd, bp, wn, wd, wq, kn, V, B, pk, ⟨hO, hM, hE, ⟨_, _, _, _, _, _, hCH⟩, ⟨hLO, hLR⟩, hRW, hBP, hQ, hWS, hZ, hT, ⟨_, _, _, _, _, hF⟩, hW1, hW2, hW3⟩, hINV⟩, Or.inl ⟨fun h => by omega, rfl⟩⟩ dX9_steps_52
    · refine lv_aload_n hx hb dX9_steps_10 rfl (lv_at hl 0 rfl) ?_
      refine pw_get (C := RX9) (T := TX9) (N := 14) hx hb hts hin9 hown hK hO rfl 0 (by decide) lk_10 rfl rfl dX9_steps_11 ?_
      refine lv_iload_n hx hb dX9_steps_14 rfl (lv_at hl 2 rfl) ?_
      refine pw_callVi (As := [.int (iI (st))]) (rest := []) ⟨hx, hb, hml, hown, hts⟩ (c_hasState l D E (o0 + 1) σ st hok (by omega) (by omega)) (cwV 1 hts gX9_steps_X6_hasState rfl rfl rfl (by decide +kernel) ⟨Nat.le_of_ble_eq_true rfl, Nat.le_of_ble_eq_true rfl⟩) hK hMO rfl hM rfl hl.1 rfl (Nat.le_of_ble_eq_true rfl) dX9_steps_15 ⟨Nat.zero_le _, Nat.zero_le _⟩ hS (fun q h => h.elim) (fun z H1 locs1 hz hz1 hk1 hS => ?_)
      have hO := hO.k (hk1 _ hO.lt (fun h => h))
      have hM := hM.k (fun q h1 h2 h3 => (hk1 _ h3 (fun h => h)))
      have hMO := hMO.k (hk1 _ hMO.lt (fun h => h))
      have hMC := hMC.k (hk1 _ hMC.lt (fun h => h))
      have hMQ := hMQ.k (hk1 _ hMQ.lt (fun h => h))
      have hAT := hAT.k (fun q h1 h2 h3 => (hk1 _ h3 (fun h => h)))
      have hE := hE.k (fun q h1 h2 h3 => (hk1 _ h3 (fun h => h)))
      have hCH := hCH.k (fun q h1 h2 h3 => (hk1 _ h3 (fun h => h)))
      have hLO := hLO.k (hk1 _ hLO.lt (fun h => h))
      have hLR := hLR.k (fun q h1 h2 h3 => (hk1 _ h3 (fun h => h)))
      have hRW := hRW.k (fun q h1 h2 h3 => (hk1 _ h3 (fun h => h)))
      have hBP := hBP.k (hk1 _ hBP.lt (fun h => h))
      have hQ := hQ.k (hk1 _ hQ.lt (fun h => h))
      have hWS := hWS.k (fun q h1 h2 h3 => (hk1 _ h3 (fun h => h)))
      have hZ := hZ.k (hk1 _ hZ.lt (fun h => h))
      have hT := hT.k (fun q h1 h2 h3 => (hk1 _ h3 (fun h => h)))
      have hW1 := hW1.k (fun q h1 h2 h3 => (hk1 _ h3 (fun h => h)))
      have hW2 := hW2.k (fun q h1 h2 h3 => (hk1 _ h3 (fun h => h)))
      have hW3 := hW3.k (fun q h1 h2 h3 => (hk1 _ h3 (fun h => h)))
      have hF := hF.k (fun q h1 h2 h3 => (hk1 _ h3 (fun h => h)))
      have hz01 : 0 ≤ z ∧ z ≤ 1 := by rw [hz]; split <;> omega
      refine pw_if_eq (tgt := 30) hx hb dX9_steps_18 (by decide) (fun c_18 => ?_) (fun c_18 => ?_)
      · refine pw_iconst hx hb dX9_steps_30 ?_
        refine lv_istore (lv' := [(4, .int (iI (0))), (0, .ref (o0)), (1, .int (iI (n))), (2, .int (iI (st))), (3, .int (iI (part)))]) hx hb dX9_steps_31 hl (by decide) rfl (fun ls hl => ?_)
        refine lv_iload hx hb dX9_steps_33 (lv_at hl 0 rfl) ?_
        refine pw_if_eq (tgt := 48) hx hb dX9_steps_35 (by decide) (fun c_35 => ?_) (fun c_35 => absurd c_35 (by omega))
        refine lv_iload_n hx hb dX9_steps_48 rfl (lv_at hl 4 rfl) ?_
        refine pw_callSl (As := [.int (iI (part))]) (rest := []) ⟨hx, hb, hml, hown, hts⟩ (c_refusal l D E part part1 part2) (va_cwS 1 hts gX9_steps_X9_refusal rfl rfl rfl (by decide +kernel) ⟨Nat.le_of_ble_eq_true rfl, Nat.le_of_ble_eq_true rfl⟩) hK trivial rfl hl.1 rfl (Nat.le_of_ble_eq_true rfl) dX9_steps_49 ⟨Nat.zero_le _, Nat.zero_le _⟩ hS (fun q h => h.elim) (fun zn H1 locs1 hzn hz1 hk1 hS => ?_)
        have hO := hO.k (hk1 _ hO.lt (fun h => h))
        have hM := hM.k (fun q h1 h2 h3 => (hk1 _ h3 (fun h => h)))
        have hMO := hMO.k (hk1 _ hMO.lt (fun h => h))
        have hMC := hMC.k (hk1 _ hMC.lt (fun h => h))
        have hMQ := hMQ.k (hk1 _ hMQ.lt (fun h => h))
        have hAT := hAT.k (fun q h1 h2 h3 => (hk1 _ h3 (fun h => h)))
        have hE := hE.k (fun q h1 h2 h3 => (hk1 _ h3 (fun h => h)))
        have hCH := hCH.k (fun q h1 h2 h3 => (hk1 _ h3 (fun h => h)))
        have hLO := hLO.k (hk1 _ hLO.lt (fun h => h))
        have hLR := hLR.k (fun q h1 h2 h3 => (hk1 _ h3 (fun h => h)))
        have hRW := hRW.k (fun q h1 h2 h3 => (hk1 _ h3 (fun h => h)))
        have hBP := hBP.k (hk1 _ hBP.lt (fun h => h))
        have hQ := hQ.k (hk1 _ hQ.lt (fun h => h))
        have hWS := hWS.k (fun q h1 h2 h3 => (hk1 _ h3 (fun h => h)))
        have hZ := hZ.k (hk1 _ hZ.lt (fun h => h))
        have hT := hT.k (fun q h1 h2 h3 => (hk1 _ h3 (fun h => h)))
        have hW1 := hW1.k (fun q h1 h2 h3 => (hk1 _ h3 (fun h => h)))
        have hW2 := hW2.k (fun q h1 h2 h3 => (hk1 _ h3 (fun h => h)))
        have hW3 := hW3.k (fun q h1 h2 h3 => (hk1 _ h3 (fun h => h)))
        have hF := hF.k (fun q h1 h2 h3 => (hk1 _ h3 (fun h => h)))
        subst hzn
        exact pw_lret hx hb hr hlocks hS ⟨⟨bv, bd, bp, wn, wd, wq, kn, V, B, pk, ⟨hO, hM, hE, ⟨_, _, _, _, _, _, hCH⟩, ⟨hLO, hLR⟩, hRW, hBP, hQ, hWS, hZ, hT, ⟨_, _, _, _, _, hF⟩, hW1, hW2, hW3⟩, hINV⟩, Or.inl ⟨fun h => by rw [if_pos ⟨h.2.2.2.1, h.2.2.2.2.1⟩] at hz; omega, rfl⟩⟩ dX9_steps_52
      · have hkin : 0 ≤ st ∧ st < (mN σ : Int) := by
          by_cases h : 0 ≤ st ∧ st < (mN σ : Int)
          · exact h
          · rw [if_neg h] at hz; omega
        refine lv_iload_n hx hb dX9_steps_21 rfl (lv_at hl 3 rfl) ?_
        refine pw_iconst hx hb dX9_steps_22 ?_
        refine pw_icmp_lt (tgt := 30) hx hb dX9_steps_23 (by decide) (fun c_23 => ?_) (fun c_23 => ?_)
        · refine pw_iconst hx hb dX9_steps_30 ?_
          refine lv_istore (lv' := [(4, .int (iI (0))), (0, .ref (o0)), (1, .int (iI (n))), (2, .int (iI (st))), (3, .int (iI (part)))]) hx hb dX9_steps_31 hl (by decide) rfl (fun ls hl => ?_)
          refine lv_iload hx hb dX9_steps_33 (lv_at hl 0 rfl) ?_
          refine pw_if_eq (tgt := 48) hx hb dX9_steps_35 (by decide) (fun c_35 => ?_) (fun c_35 => absurd c_35 (by omega))
          refine lv_iload_n hx hb dX9_steps_48 rfl (lv_at hl 4 rfl) ?_
          refine pw_callSl (As := [.int (iI (part))]) (rest := []) ⟨hx, hb, hml, hown, hts⟩ (c_refusal l D E part part1 part2) (va_cwS 1 hts gX9_steps_X9_refusal rfl rfl rfl (by decide +kernel) ⟨Nat.le_of_ble_eq_true rfl, Nat.le_of_ble_eq_true rfl⟩) hK trivial rfl hl.1 rfl (Nat.le_of_ble_eq_true rfl) dX9_steps_49 ⟨Nat.zero_le _, Nat.zero_le _⟩ hS (fun q h => h.elim) (fun zn H1 locs1 hzn hz1 hk1 hS => ?_)
          have hO := hO.k (hk1 _ hO.lt (fun h => h))
          have hM := hM.k (fun q h1 h2 h3 => (hk1 _ h3 (fun h => h)))
          have hMO := hMO.k (hk1 _ hMO.lt (fun h => h))
          have hMC := hMC.k (hk1 _ hMC.lt (fun h => h))
          have hMQ := hMQ.k (hk1 _ hMQ.lt (fun h => h))
          have hAT := hAT.k (fun q h1 h2 h3 => (hk1 _ h3 (fun h => h)))
          have hE := hE.k (fun q h1 h2 h3 => (hk1 _ h3 (fun h => h)))
          have hCH := hCH.k (fun q h1 h2 h3 => (hk1 _ h3 (fun h => h)))
          have hLO := hLO.k (hk1 _ hLO.lt (fun h => h))
          have hLR := hLR.k (fun q h1 h2 h3 => (hk1 _ h3 (fun h => h)))
          have hRW := hRW.k (fun q h1 h2 h3 => (hk1 _ h3 (fun h => h)))
          have hBP := hBP.k (hk1 _ hBP.lt (fun h => h))
          have hQ := hQ.k (hk1 _ hQ.lt (fun h => h))
          have hWS := hWS.k (fun q h1 h2 h3 => (hk1 _ h3 (fun h => h)))
          have hZ := hZ.k (hk1 _ hZ.lt (fun h => h))
          have hT := hT.k (fun q h1 h2 h3 => (hk1 _ h3 (fun h => h)))
          have hW1 := hW1.k (fun q h1 h2 h3 => (hk1 _ h3 (fun h => h)))
          have hW2 := hW2.k (fun q h1 h2 h3 => (hk1 _ h3 (fun h => h)))
          have hW3 := hW3.k (fun q h1 h2 h3 => (hk1 _ h3 (fun h => h)))
          have hF := hF.k (fun q h1 h2 h3 => (hk1 _ h3 (fun h => h)))
          subst hzn
          exact pw_lret hx hb hr hlocks hS ⟨⟨bv, bd, bp, wn, wd, wq, kn, V, B, pk, ⟨hO, hM, hE, ⟨_, _, _, _, _, _, hCH⟩, ⟨hLO, hLR⟩, hRW, hBP, hQ, hWS, hZ, hT, ⟨_, _, _, _, _, hF⟩, hW1, hW2, hW3⟩, hINV⟩, Or.inl ⟨fun h => by omega, rfl⟩⟩ dX9_steps_52
        · refine pw_iconst hx hb dX9_steps_26 ?_
          refine lv_goto (tgt := 31) hx hb dX9_steps_27 (by decide) ?_
          refine lv_istore (lv' := [(4, .int (iI (1))), (0, .ref (o0)), (1, .int (iI (n))), (2, .int (iI (st))), (3, .int (iI (part)))]) hx hb dX9_steps_31 hl (by decide) rfl (fun ls hl => ?_)
          refine lv_iload hx hb dX9_steps_33 (lv_at hl 0 rfl) ?_
          refine pw_if_eq (tgt := 48) hx hb dX9_steps_35 (by decide) (fun c_35 => absurd c_35 (by omega)) (fun c_35 => ?_)
          refine lv_aload_n hx hb dX9_steps_38 rfl (lv_at hl 1 rfl) ?_
          refine pw_get (C := RX9) (T := TX9) (N := 14) hx hb hts hin9 hown hK hO rfl 0 (by decide) lk_10 rfl rfl dX9_steps_39 ?_
          refine pw_callVi (As := []) (rest := []) ⟨hx, hb, hml, hown, hts⟩ (c_allReady l D E (o0 + 1) σ hok) (cwV 0 hts gX9_steps_X6_allReady rfl rfl rfl (by decide +kernel) ⟨Nat.le_of_ble_eq_true rfl, Nat.le_of_ble_eq_true rfl⟩) hK hMO rfl hM rfl hl.1 rfl (Nat.le_of_ble_eq_true rfl) dX9_steps_42 ⟨Nat.zero_le _, Nat.zero_le _⟩ hS (fun q h => h.elim) (fun zy H1 locs1 ⟨hy01, hyr⟩ hz1 hk1 hS => ?_)
          have hO := hO.k (hk1 _ hO.lt (fun h => h))
          have hM := hM.k (fun q h1 h2 h3 => (hk1 _ h3 (fun h => h)))
          have hMO := hMO.k (hk1 _ hMO.lt (fun h => h))
          have hMC := hMC.k (hk1 _ hMC.lt (fun h => h))
          have hMQ := hMQ.k (hk1 _ hMQ.lt (fun h => h))
          have hAT := hAT.k (fun q h1 h2 h3 => (hk1 _ h3 (fun h => h)))
          have hE := hE.k (fun q h1 h2 h3 => (hk1 _ h3 (fun h => h)))
          have hCH := hCH.k (fun q h1 h2 h3 => (hk1 _ h3 (fun h => h)))
          have hLO := hLO.k (hk1 _ hLO.lt (fun h => h))
          have hLR := hLR.k (fun q h1 h2 h3 => (hk1 _ h3 (fun h => h)))
          have hRW := hRW.k (fun q h1 h2 h3 => (hk1 _ h3 (fun h => h)))
          have hBP := hBP.k (hk1 _ hBP.lt (fun h => h))
          have hQ := hQ.k (hk1 _ hQ.lt (fun h => h))
          have hWS := hWS.k (fun q h1 h2 h3 => (hk1 _ h3 (fun h => h)))
          have hZ := hZ.k (hk1 _ hZ.lt (fun h => h))
          have hT := hT.k (fun q h1 h2 h3 => (hk1 _ h3 (fun h => h)))
          have hW1 := hW1.k (fun q h1 h2 h3 => (hk1 _ h3 (fun h => h)))
          have hW2 := hW2.k (fun q h1 h2 h3 => (hk1 _ h3 (fun h => h)))
          have hW3 := hW3.k (fun q h1 h2 h3 => (hk1 _ h3 (fun h => h)))
          have hF := hF.k (fun q h1 h2 h3 => (hk1 _ h3 (fun h => h)))
          refine pw_if_ne (tgt := 53) hx hb dX9_steps_45 (by decide) (fun c_45 => ?_) (fun c_45 => ?_)
          · have hrd := hyr.mp (by omega)
            refine lv_aload_n hx hb dX9_steps_53 rfl (lv_at hl 1 rfl) ?_
            refine pw_get (C := RX9) (T := TX9) (N := 14) hx hb hts hin9 hown hK hO rfl 3 (by decide) lk_33 rfl rfl dX9_steps_54 ?_
            refine lv_aload_n hx hb dX9_steps_57 rfl (lv_at hl 1 rfl) ?_
            refine pw_get (C := RX9) (T := TX9) (N := 14) hx hb hts hin9 hown hK hO rfl 0 (by decide) lk_10 rfl rfl dX9_steps_58 ?_
            refine lv_aload_n hx hb dX9_steps_61 rfl (lv_at hl 1 rfl) ?_
            refine pw_get (C := RX9) (T := TX9) (N := 14) hx hb hts hin9 hown hK hO rfl 2 (by decide) lk_26 rfl rfl dX9_steps_62 ?_
            refine lv_iload_n hx hb dX9_steps_65 rfl (lv_at hl 2 rfl) ?_
            refine pw_asi (((n.toNat : Nat) : Int)) (by omega) ?_
            refine pw_callVv (As := [.ref (o0 + 1), .ref (o0 + 317), .int (iI (((n.toNat : Nat) : Int)))]) (rest := []) ⟨hx, hb, hml, hown, hts⟩ (c_climb l D E (o0 + 326) (o0 + 1) (o0 + 317) gb gr (n.toNat) kn σ vb sb vr sr V B pk hok hrd (by omega) hINV.2.2.2.2 (by omega) (by omega) (by omega)) (cwV 3 hts gX9_steps_X5_climb rfl rfl rfl (by decide +kernel) ⟨Nat.le_of_ble_eq_true rfl, Nat.le_of_ble_eq_true rfl⟩) hK hLO rfl ⟨⟨hLO, hLR⟩, hM, hCH⟩ rfl hl.1 rfl (Nat.le_of_ble_eq_true rfl) dX9_steps_66 ⟨Nat.zero_le _, Nat.zero_le _⟩ hS (fun q h => by (try dsimp only at h); (try dsimp only); omega) (fun H1 locs1 ⟨gb, gr, vb, sb, vr, sr, kn, V, B, pk, hCH, hLD, hLV, hkn⟩ hz1 hk1 hS => ?_)
            have hO := hO.k (hk1 _ hO.lt (by (try dsimp only); omega))
            have hM := hM.k (fun q h1 h2 h3 => (hk1 _ h3 (by (try dsimp only); omega)))
            have hMO := hMO.k (hk1 _ hMO.lt (by (try dsimp only); omega))
            have hMC := hMC.k (hk1 _ hMC.lt (by (try dsimp only); omega))
            have hMQ := hMQ.k (hk1 _ hMQ.lt (by (try dsimp only); omega))
            have hAT := hAT.k (fun q h1 h2 h3 => (hk1 _ h3 (by (try dsimp only); omega)))
            have hE := hE.k (fun q h1 h2 h3 => (hk1 _ h3 (by (try dsimp only); omega)))
            have hRW := hRW.k (fun q h1 h2 h3 => (hk1 _ h3 (by (try dsimp only); omega)))
            have hBP := hBP.k (hk1 _ hBP.lt (by (try dsimp only); omega))
            have hQ := hQ.k (hk1 _ hQ.lt (by (try dsimp only); omega))
            have hWS := hWS.k (fun q h1 h2 h3 => (hk1 _ h3 (by (try dsimp only); omega)))
            have hZ := hZ.k (hk1 _ hZ.lt (by (try dsimp only); omega))
            have hT := hT.k (fun q h1 h2 h3 => (hk1 _ h3 (by (try dsimp only); omega)))
            have hW1 := hW1.k (fun q h1 h2 h3 => (hk1 _ h3 (by (try dsimp only); omega)))
            have hW2 := hW2.k (fun q h1 h2 h3 => (hk1 _ h3 (by (try dsimp only); omega)))
            have hW3 := hW3.k (fun q h1 h2 h3 => (hk1 _ h3 (by (try dsimp only); omega)))
            have hF := hF.k (fun q h1 h2 h3 => (hk1 _ h3 (by (try dsimp only); omega)))
            have hLO := hLD.1
            have hLR : LDR D E (o0 + 326) V B pk _ := hLD.2
            clear hLD
            have hLQ := hLR.1
            have hPQ := hLR.2.2.1
            refine lv_aload_n hx hb dX9_steps_69 rfl (lv_at hl 1 rfl) ?_
            refine lv_aload_n hx hb dX9_steps_70 rfl (lv_at hl 1 rfl) ?_
            refine pw_get (C := RX9) (T := TX9) (N := 14) hx hb hts hin9 hown hK hO rfl 3 (by decide) lk_33 rfl rfl dX9_steps_71 ?_
            refine pw_get (C := RX5) (T := TX5) (N := 3) hx hb hts hin5 hown hK hLO rfl 0 (by decide) lk_189 rfl rfl dX9_steps_74 ?_
            refine lv_iload_n hx hb dX9_steps_77 rfl (lv_at hl 2 rfl) ?_
            refine pw_qald hx hb hK hLQ rfl (n.toNat) (by omega) (by omega) (by omega) rfl dX9_steps_78 ?_
            have hw0 : 0 < B n.toNat := (hLV.gs hN6 n.toNat (by omega)).pos
            refine lv_iload_n hx hb dX9_steps_79 rfl (lv_at hl 3 rfl) ?_
            refine pw_asi (((st.toNat : Nat) : Int)) (by omega) ?_
            refine pw_callVv (As := [.ref (o0 + 326 + 2 + 16 * n.toNat), .int (iI (((st.toNat : Nat) : Int)))]) (rest := []) ⟨hx, hb, hml, hown, hts⟩ (c_hold l D E o0 (o0 + 326 + 2 + 16 * n.toNat) 24 (st.toNat) rn (V n.toNat) (B n.toNat) fu fw fo1 fo2 fo3 (by omega) (by omega) (by omega)) (cwV 2 hts gX9_steps_X9_hold rfl rfl rfl (by decide +kernel) ⟨Nat.le_of_ble_eq_true rfl, Nat.le_of_ble_eq_true rfl⟩) hK hO rfl ⟨hO, hF, (hLR.2.1 n.toNat (by omega) (by omega))⟩ rfl hl.1 rfl (Nat.le_of_ble_eq_true rfl) dX9_steps_80 ⟨Nat.zero_le _, Nat.zero_le _⟩ hS (fun q h => by (try dsimp only at h); (try dsimp only); omega) (fun H1 locs1 hF hz1 hk1 hS => ?_)
            have hO := hO.k (hk1 _ hO.lt (by (try dsimp only); omega))
            have hM := hM.k (fun q h1 h2 h3 => (hk1 _ h3 (by (try dsimp only); omega)))
            have hMO := hMO.k (hk1 _ hMO.lt (by (try dsimp only); omega))
            have hMC := hMC.k (hk1 _ hMC.lt (by (try dsimp only); omega))
            have hMQ := hMQ.k (hk1 _ hMQ.lt (by (try dsimp only); omega))
            have hAT := hAT.k (fun q h1 h2 h3 => (hk1 _ h3 (by (try dsimp only); omega)))
            have hE := hE.k (fun q h1 h2 h3 => (hk1 _ h3 (by (try dsimp only); omega)))
            have hCH := hCH.k (fun q h1 h2 h3 => (hk1 _ h3 (by (try dsimp only); omega)))
            have hLO := hLO.k (hk1 _ hLO.lt (by (try dsimp only); omega))
            have hLR := hLR.k (fun q h1 h2 h3 => (hk1 _ h3 (by (try dsimp only); omega)))
            have hRW := hRW.k (fun q h1 h2 h3 => (hk1 _ h3 (by (try dsimp only); omega)))
            have hBP := hBP.k (hk1 _ hBP.lt (by (try dsimp only); omega))
            have hQ := hQ.k (hk1 _ hQ.lt (by (try dsimp only); omega))
            have hWS := hWS.k (fun q h1 h2 h3 => (hk1 _ h3 (by (try dsimp only); omega)))
            have hZ := hZ.k (hk1 _ hZ.lt (by (try dsimp only); omega))
            have hT := hT.k (fun q h1 h2 h3 => (hk1 _ h3 (by (try dsimp only); omega)))
            have hW1 := hW1.k (fun q h1 h2 h3 => (hk1 _ h3 (by (try dsimp only); omega)))
            have hW2 := hW2.k (fun q h1 h2 h3 => (hk1 _ h3 (by (try dsimp only); omega)))
            have hW3 := hW3.k (fun q h1 h2 h3 => (hk1 _ h3 (by (try dsimp only); omega)))
            have hLQ := hLQ.k (hk1 _ hLQ.lt (by (try dsimp only); omega))
            have hPQ := hPQ.k (hk1 _ hPQ.lt (by (try dsimp only); omega))
            refine lv_aload_n hx hb dX9_steps_83 rfl (lv_at hl 1 rfl) ?_
            refine pw_get (C := RX9) (T := TX9) (N := 14) hx hb hts hin9 hown hK hO rfl 9 (by decide) lk_64 rfl rfl dX9_steps_84 ?_
            refine lv_iload_n hx hb dX9_steps_87 rfl (lv_at hl 4 rfl) ?_
            refine pw_callVl (As := [.int (iI (part))]) (rest := []) ⟨hx, hb, hml, hown, hts⟩ (c_tell l D E (o0 + 566) (V n.toNat st.toNat) (B n.toNat) _ _ _ part hw0 (by omega) part2) (cwV 1 hts gX9_steps_X3_tell rfl rfl rfl (by decide +kernel) ⟨Nat.le_of_ble_eq_true rfl, Nat.le_of_ble_eq_true rfl⟩) hK hF.1 rfl hF rfl hl.1 rfl (Nat.le_of_ble_eq_true rfl) dX9_steps_88 ⟨Nat.zero_le _, Nat.zero_le _⟩ hS (fun q h => by (try dsimp only at h); (try dsimp only); omega) (fun zt H1 locs1 ⟨hzt, fu, fw, fo1, fo2, fo3, hF⟩ hz1 hk1 hS => ?_)
            have hO := hO.k (hk1 _ hO.lt (by (try dsimp only); omega))
            have hM := hM.k (fun q h1 h2 h3 => (hk1 _ h3 (by (try dsimp only); omega)))
            have hMO := hMO.k (hk1 _ hMO.lt (by (try dsimp only); omega))
            have hMC := hMC.k (hk1 _ hMC.lt (by (try dsimp only); omega))
            have hMQ := hMQ.k (hk1 _ hMQ.lt (by (try dsimp only); omega))
            have hAT := hAT.k (fun q h1 h2 h3 => (hk1 _ h3 (by (try dsimp only); omega)))
            have hE := hE.k (fun q h1 h2 h3 => (hk1 _ h3 (by (try dsimp only); omega)))
            have hCH := hCH.k (fun q h1 h2 h3 => (hk1 _ h3 (by (try dsimp only); omega)))
            have hLO := hLO.k (hk1 _ hLO.lt (by (try dsimp only); omega))
            have hLR := hLR.k (fun q h1 h2 h3 => (hk1 _ h3 (by (try dsimp only); omega)))
            have hRW := hRW.k (fun q h1 h2 h3 => (hk1 _ h3 (by (try dsimp only); omega)))
            have hBP := hBP.k (hk1 _ hBP.lt (by (try dsimp only); omega))
            have hQ := hQ.k (hk1 _ hQ.lt (by (try dsimp only); omega))
            have hWS := hWS.k (fun q h1 h2 h3 => (hk1 _ h3 (by (try dsimp only); omega)))
            have hZ := hZ.k (hk1 _ hZ.lt (by (try dsimp only); omega))
            have hT := hT.k (fun q h1 h2 h3 => (hk1 _ h3 (by (try dsimp only); omega)))
            have hW1 := hW1.k (fun q h1 h2 h3 => (hk1 _ h3 (by (try dsimp only); omega)))
            have hW2 := hW2.k (fun q h1 h2 h3 => (hk1 _ h3 (by (try dsimp only); omega)))
            have hW3 := hW3.k (fun q h1 h2 h3 => (hk1 _ h3 (by (try dsimp only); omega)))
            have hLQ := hLQ.k (hk1 _ hLQ.lt (by (try dsimp only); omega))
            have hPQ := hPQ.k (hk1 _ hPQ.lt (by (try dsimp only); omega))
            exact pw_lret hx hb hr hlocks hS ⟨⟨bv, bd, bp, wn, wd, wq, kn, V, B, pk, ⟨hO, hM, hE, ⟨_, _, _, _, _, _, hCH⟩, ⟨hLO, hLR⟩, hRW, hBP, hQ, hWS, hZ, hT, ⟨_, _, _, _, _, hF⟩, hW1, hW2, hW3⟩, ⟨hok, hrn, hINV.2.2.1, hINV.2.2.2.1, hLV⟩⟩, Or.inr ⟨⟨hrd, by omega, by omega, hkin.1, hkin.2, by omega⟩, V n.toNat, B n.toNat, hLV.gs hN6 n.toNat (by omega), hzt⟩⟩ dX9_steps_91
          · refine lv_iload_n hx hb dX9_steps_48 rfl (lv_at hl 4 rfl) ?_
            refine pw_callSl (As := [.int (iI (part))]) (rest := []) ⟨hx, hb, hml, hown, hts⟩ (c_refusal l D E part part1 part2) (va_cwS 1 hts gX9_steps_X9_refusal rfl rfl rfl (by decide +kernel) ⟨Nat.le_of_ble_eq_true rfl, Nat.le_of_ble_eq_true rfl⟩) hK trivial rfl hl.1 rfl (Nat.le_of_ble_eq_true rfl) dX9_steps_49 ⟨Nat.zero_le _, Nat.zero_le _⟩ hS (fun q h => h.elim) (fun zn H1 locs1 hzn hz1 hk1 hS => ?_)
            have hO := hO.k (hk1 _ hO.lt (fun h => h))
            have hM := hM.k (fun q h1 h2 h3 => (hk1 _ h3 (fun h => h)))
            have hMO := hMO.k (hk1 _ hMO.lt (fun h => h))
            have hMC := hMC.k (hk1 _ hMC.lt (fun h => h))
            have hMQ := hMQ.k (hk1 _ hMQ.lt (fun h => h))
            have hAT := hAT.k (fun q h1 h2 h3 => (hk1 _ h3 (fun h => h)))
            have hE := hE.k (fun q h1 h2 h3 => (hk1 _ h3 (fun h => h)))
            have hCH := hCH.k (fun q h1 h2 h3 => (hk1 _ h3 (fun h => h)))
            have hLO := hLO.k (hk1 _ hLO.lt (fun h => h))
            have hLR := hLR.k (fun q h1 h2 h3 => (hk1 _ h3 (fun h => h)))
            have hRW := hRW.k (fun q h1 h2 h3 => (hk1 _ h3 (fun h => h)))
            have hBP := hBP.k (hk1 _ hBP.lt (fun h => h))
            have hQ := hQ.k (hk1 _ hQ.lt (fun h => h))
            have hWS := hWS.k (fun q h1 h2 h3 => (hk1 _ h3 (fun h => h)))
            have hZ := hZ.k (hk1 _ hZ.lt (fun h => h))
            have hT := hT.k (fun q h1 h2 h3 => (hk1 _ h3 (fun h => h)))
            have hW1 := hW1.k (fun q h1 h2 h3 => (hk1 _ h3 (fun h => h)))
            have hW2 := hW2.k (fun q h1 h2 h3 => (hk1 _ h3 (fun h => h)))
            have hW3 := hW3.k (fun q h1 h2 h3 => (hk1 _ h3 (fun h => h)))
            have hF := hF.k (fun q h1 h2 h3 => (hk1 _ h3 (fun h => h)))
            subst hzn
            exact pw_lret hx hb hr hlocks hS ⟨⟨bv, bd, bp, wn, wd, wq, kn, V, B, pk, ⟨hO, hM, hE, ⟨_, _, _, _, _, _, hCH⟩, ⟨hLO, hLR⟩, hRW, hBP, hQ, hWS, hZ, hT, ⟨_, _, _, _, _, hF⟩, hW1, hW2, hW3⟩, hINV⟩, Or.inl ⟨fun h => absurd (hyr.mpr h.1) (by omega), rfl⟩⟩ dX9_steps_52
set_option maxHeartbeats 4000000 in
set_option maxRecDepth 100000 in
/-- plan(n, s) -/
theorem c_plan (l : Launch) (D : va_G) (E : Nat → ClassId) (o0 : Nat) (σ : MS) (rn n st : Int) (n1 : -2147483648 ≤ n) (n2 : n ≤ 2147483647) (st1 : -2147483648 ≤ st) (st2 : st ≤ 2147483647) : pw_M rvI l D E yX9_plan wsX9_plan ({ frames := 6, cells := 0, slots := 0, locals := 169 } : Room) [.ref (o0), .int (iI (n)), .int (iI (st))] (fun H => PO D E o0 σ rn H) (fun z H => PO D E o0 σ rn H ∧ ((¬ (rdy σ ∧ 1 ≤ n ∧ n ≤ 8 ∧ 0 ≤ st ∧ st < (mN σ : Int)) ∧ z = -1) ∨ ((rdy σ ∧ 1 ≤ n ∧ n ≤ 8 ∧ 0 ≤ st ∧ st < (mN σ : Int)) ∧ ∃ v b, GS σ (n.toNat - 1) v b ∧ z = (spk σ v b st.toNat : Int)))) (fun q => o0 ≤ q ∧ q ≤ o0 + 582) (0) (0) := by
  refine pw_of (cc := cX9_plan) (maxL := 4) (ret := (some .int)) (by decide +kernel) rfl (Nat.le_of_ble_eq_true rfl) ?_
  intro p e s m args below meth c hx hb hr hml hts hown hlocks hini hK ⟨bv, bd, bp, wn, wd, wq, kn, V, B, pk, ⟨hO, hM, hE, hCx, hLD, hRW, hBP, hQ, hWS, hZ, hT, hF, hW1, hW2, hW3⟩, hINV⟩ ls hl
  have hown : s.vm.findClass RX9 = some m.cls := hown
  have hl : lv_has ls 4 [(0, .ref (o0)), (1, .int (iI (n))), (2, .int (iI (st)))] := hl
  have hS : va_S (fun q => o0 ≤ q ∧ q ≤ o0 + 582) s.heap s.heap [] := va_S.rf
  have lk_10 := hts (.fieldLink RX9 10 "PolicyWorks" "model" "LPolicyWorks$Model;") (by decide +kernel)
  have lk_26 := hts (.fieldLink RX9 26 "PolicyWorks" "chooser" "LPolicyWorks$Chooser;") (by decide +kernel)
  have lk_33 := hts (.fieldLink RX9 33 "PolicyWorks" "ladder" "LPolicyWorks$Ladder;") (by decide +kernel)
  have lk_192 := hts (.fieldLink RX9 192 "PolicyWorks$Ladder" "picks" "[[I") (by decide +kernel)
  have hin5 : ∀ w ∈ wsX50, w ∈ wsX9_plan := by decide +kernel
  have hin9 : ∀ w ∈ wsX90, w ∈ wsX9_plan := by decide +kernel
  have hMO := hM.1
  have hMC := hM.2.1
  have hMQ := hM.2.2.1
  have hAT : ATS D E (o0 + 1) σ s.heap := hM.2.2.2
  have hLO := hLD.1
  have hLR : LDR D E (o0 + 326) V B pk s.heap := hLD.2
  have hok := hINV.1
  have hrn := hINV.2.1
  have hN6 := hok.1
  have hC4 := hok.2.1
  obtain ⟨fu, fw, fo1, fo2, fo3, hF⟩ := hF
  obtain ⟨gb, gr, vb, sb, vr, sr, hCH⟩ := hCx
  refine lv_iload_n hx hb dX9_plan_0 rfl (lv_at hl 1 rfl) ?_
  refine pw_iconst hx hb dX9_plan_1 ?_
  refine pw_icmp_lt (tgt := 26) hx hb dX9_plan_2 (by decide) (fun c_2 => ?_) (fun c_2 => ?_)
  · refine pw_iconst hx hb dX9_plan_26 ?_
    refine lv_istore_n (lv' := [(3, .int (iI (0))), (0, .ref (o0)), (1, .int (iI (n))), (2, .int (iI (st)))]) hx hb dX9_plan_27 rfl hl (by decide) rfl (fun ls hl => ?_)
    refine lv_iload_n hx hb dX9_plan_28 rfl (lv_at hl 0 rfl) ?_
    refine pw_if_eq (tgt := 42) hx hb dX9_plan_29 (by decide) (fun c_29 => ?_) (fun c_29 => absurd c_29 (by omega))
    refine pw_iconst hx hb dX9_plan_42 ?_
    exact pw_iret hx hb hr hlocks hS ⟨⟨bv, bd, bp, wn, wd, wq, kn, V, B, pk, ⟨hO, hM, hE, ⟨_, _, _, _, _, _, hCH⟩, ⟨hLO, hLR⟩, hRW, hBP, hQ, hWS, hZ, hT, ⟨_, _, _, _, _, hF⟩, hW1, hW2, hW3⟩, hINV⟩, Or.inl ⟨fun h => by omega, rfl⟩⟩ dX9_plan_43
  · refine lv_iload_n hx hb dX9_plan_5 rfl (lv_at hl 1 rfl) ?_
    refine pw_bipush hx hb dX9_plan_6 ?_
    refine pw_icmp_gt (tgt := 26) hx hb dX9_plan_8 (by decide) (fun c_8 => ?_) (fun c_8 => ?_)
    · refine pw_iconst hx hb dX9_plan_26 ?_
      refine lv_istore_n (lv' := [(3, .int (iI (0))), (0, .ref (o0)), (1, .int (iI (n))), (2, .int (iI (st)))]) hx hb dX9_plan_27 rfl hl (by decide) rfl (fun ls hl => ?_)
      refine lv_iload_n hx hb dX9_plan_28 rfl (lv_at hl 0 rfl) ?_
      refine pw_if_eq (tgt := 42) hx hb dX9_plan_29 (by decide) (fun c_29 => ?_) (fun c_29 => absurd c_29 (by omega))
      refine pw_iconst hx hb dX9_plan_42 ?_
      exact pw_iret hx hb hr hlocks hS ⟨⟨bv, bd, bp, wn, wd, wq, kn, V, B, pk, ⟨hO, hM, hE, ⟨_, _, _, _, _, _, hCH⟩, ⟨hLO, hLR⟩, hRW, hBP, hQ, hWS, hZ, hT, ⟨_, _, _, _, _, hF⟩, hW1, hW2, hW3⟩, hINV⟩, Or.inl ⟨fun h => by omega, rfl⟩⟩ dX9_plan_43
    · refine lv_aload_n hx hb dX9_plan_11 rfl (lv_at hl 0 rfl) ?_
      refine pw_get (C := RX9) (T := TX9) (N := 14) hx hb hts hin9 hown hK hO rfl 0 (by decide) lk_10 rfl rfl dX9_plan_12 ?_
      refine lv_iload_n hx hb dX9_plan_15 rfl (lv_at hl 2 rfl) ?_
      refine pw_callVi (As := [.int (iI (st))]) (rest := []) ⟨hx, hb, hml, hown, hts⟩ (c_hasState l D E (o0 + 1) σ st hok (by omega) (by omega)) (cwV 1 hts gX9_plan_X6_hasState rfl rfl rfl (by decide +kernel) ⟨Nat.le_of_ble_eq_true rfl, Nat.le_of_ble_eq_true rfl⟩) hK hMO rfl hM rfl hl.1 rfl (Nat.le_of_ble_eq_true rfl) dX9_plan_16 ⟨Nat.zero_le _, Nat.zero_le _⟩ hS (fun q h => h.elim) (fun z H1 locs1 hz hz1 hk1 hS => ?_)
      have hO := hO.k (hk1 _ hO.lt (fun h => h))
      have hM := hM.k (fun q h1 h2 h3 => (hk1 _ h3 (fun h => h)))
      have hMO := hMO.k (hk1 _ hMO.lt (fun h => h))
      have hMC := hMC.k (hk1 _ hMC.lt (fun h => h))
      have hMQ := hMQ.k (hk1 _ hMQ.lt (fun h => h))
      have hAT := hAT.k (fun q h1 h2 h3 => (hk1 _ h3 (fun h => h)))
      have hE := hE.k (fun q h1 h2 h3 => (hk1 _ h3 (fun h => h)))
      have hCH := hCH.k (fun q h1 h2 h3 => (hk1 _ h3 (fun h => h)))
      have hLO := hLO.k (hk1 _ hLO.lt (fun h => h))
      have hLR := hLR.k (fun q h1 h2 h3 => (hk1 _ h3 (fun h => h)))
      have hRW := hRW.k (fun q h1 h2 h3 => (hk1 _ h3 (fun h => h)))
      have hBP := hBP.k (hk1 _ hBP.lt (fun h => h))
      have hQ := hQ.k (hk1 _ hQ.lt (fun h => h))
      have hWS := hWS.k (fun q h1 h2 h3 => (hk1 _ h3 (fun h => h)))
      have hZ := hZ.k (hk1 _ hZ.lt (fun h => h))
      have hT := hT.k (fun q h1 h2 h3 => (hk1 _ h3 (fun h => h)))
      have hW1 := hW1.k (fun q h1 h2 h3 => (hk1 _ h3 (fun h => h)))
      have hW2 := hW2.k (fun q h1 h2 h3 => (hk1 _ h3 (fun h => h)))
      have hW3 := hW3.k (fun q h1 h2 h3 => (hk1 _ h3 (fun h => h)))
      have hF := hF.k (fun q h1 h2 h3 => (hk1 _ h3 (fun h => h)))
      have hz01 : 0 ≤ z ∧ z ≤ 1 := by rw [hz]; split <;> omega
      refine pw_if_eq (tgt := 26) hx hb dX9_plan_19 (by decide) (fun c_19 => ?_) (fun c_19 => ?_)
      · refine pw_iconst hx hb dX9_plan_26 ?_
        refine lv_istore_n (lv' := [(3, .int (iI (0))), (0, .ref (o0)), (1, .int (iI (n))), (2, .int (iI (st)))]) hx hb dX9_plan_27 rfl hl (by decide) rfl (fun ls hl => ?_)
        refine lv_iload_n hx hb dX9_plan_28 rfl (lv_at hl 0 rfl) ?_
        refine pw_if_eq (tgt := 42) hx hb dX9_plan_29 (by decide) (fun c_29 => ?_) (fun c_29 => absurd c_29 (by omega))
        refine pw_iconst hx hb dX9_plan_42 ?_
        exact pw_iret hx hb hr hlocks hS ⟨⟨bv, bd, bp, wn, wd, wq, kn, V, B, pk, ⟨hO, hM, hE, ⟨_, _, _, _, _, _, hCH⟩, ⟨hLO, hLR⟩, hRW, hBP, hQ, hWS, hZ, hT, ⟨_, _, _, _, _, hF⟩, hW1, hW2, hW3⟩, hINV⟩, Or.inl ⟨fun h => by rw [if_pos ⟨h.2.2.2.1, h.2.2.2.2⟩] at hz; omega, rfl⟩⟩ dX9_plan_43
      · have hkin : 0 ≤ st ∧ st < (mN σ : Int) := by
          by_cases h : 0 ≤ st ∧ st < (mN σ : Int)
          · exact h
          · rw [if_neg h] at hz; omega
        refine pw_iconst hx hb dX9_plan_22 ?_
        refine lv_goto (tgt := 27) hx hb dX9_plan_23 (by decide) ?_
        refine lv_istore_n (lv' := [(3, .int (iI (1))), (0, .ref (o0)), (1, .int (iI (n))), (2, .int (iI (st)))]) hx hb dX9_plan_27 rfl hl (by decide) rfl (fun ls hl => ?_)
        refine lv_iload_n hx hb dX9_plan_28 rfl (lv_at hl 0 rfl) ?_
        refine pw_if_eq (tgt := 42) hx hb dX9_plan_29 (by decide) (fun c_29 => absurd c_29 (by omega)) (fun c_29 => ?_)
        refine lv_aload_n hx hb dX9_plan_32 rfl (lv_at hl 1 rfl) ?_
        refine pw_get (C := RX9) (T := TX9) (N := 14) hx hb hts hin9 hown hK hO rfl 0 (by decide) lk_10 rfl rfl dX9_plan_33 ?_
        refine pw_callVi (As := []) (rest := []) ⟨hx, hb, hml, hown, hts⟩ (c_allReady l D E (o0 + 1) σ hok) (cwV 0 hts gX9_plan_X6_allReady rfl rfl rfl (by decide +kernel) ⟨Nat.le_of_ble_eq_true rfl, Nat.le_of_ble_eq_true rfl⟩) hK hMO rfl hM rfl hl.1 rfl (Nat.le_of_ble_eq_true rfl) dX9_plan_36 ⟨Nat.zero_le _, Nat.zero_le _⟩ hS (fun q h => h.elim) (fun zy H1 locs1 ⟨hy01, hyr⟩ hz1 hk1 hS => ?_)
        have hO := hO.k (hk1 _ hO.lt (fun h => h))
        have hM := hM.k (fun q h1 h2 h3 => (hk1 _ h3 (fun h => h)))
        have hMO := hMO.k (hk1 _ hMO.lt (fun h => h))
        have hMC := hMC.k (hk1 _ hMC.lt (fun h => h))
        have hMQ := hMQ.k (hk1 _ hMQ.lt (fun h => h))
        have hAT := hAT.k (fun q h1 h2 h3 => (hk1 _ h3 (fun h => h)))
        have hE := hE.k (fun q h1 h2 h3 => (hk1 _ h3 (fun h => h)))
        have hCH := hCH.k (fun q h1 h2 h3 => (hk1 _ h3 (fun h => h)))
        have hLO := hLO.k (hk1 _ hLO.lt (fun h => h))
        have hLR := hLR.k (fun q h1 h2 h3 => (hk1 _ h3 (fun h => h)))
        have hRW := hRW.k (fun q h1 h2 h3 => (hk1 _ h3 (fun h => h)))
        have hBP := hBP.k (hk1 _ hBP.lt (fun h => h))
        have hQ := hQ.k (hk1 _ hQ.lt (fun h => h))
        have hWS := hWS.k (fun q h1 h2 h3 => (hk1 _ h3 (fun h => h)))
        have hZ := hZ.k (hk1 _ hZ.lt (fun h => h))
        have hT := hT.k (fun q h1 h2 h3 => (hk1 _ h3 (fun h => h)))
        have hW1 := hW1.k (fun q h1 h2 h3 => (hk1 _ h3 (fun h => h)))
        have hW2 := hW2.k (fun q h1 h2 h3 => (hk1 _ h3 (fun h => h)))
        have hW3 := hW3.k (fun q h1 h2 h3 => (hk1 _ h3 (fun h => h)))
        have hF := hF.k (fun q h1 h2 h3 => (hk1 _ h3 (fun h => h)))
        refine pw_if_ne (tgt := 44) hx hb dX9_plan_39 (by decide) (fun c_39 => ?_) (fun c_39 => ?_)
        · have hrd := hyr.mp (by omega)
          refine lv_aload_n hx hb dX9_plan_44 rfl (lv_at hl 1 rfl) ?_
          refine pw_get (C := RX9) (T := TX9) (N := 14) hx hb hts hin9 hown hK hO rfl 3 (by decide) lk_33 rfl rfl dX9_plan_45 ?_
          refine lv_aload_n hx hb dX9_plan_48 rfl (lv_at hl 1 rfl) ?_
          refine pw_get (C := RX9) (T := TX9) (N := 14) hx hb hts hin9 hown hK hO rfl 0 (by decide) lk_10 rfl rfl dX9_plan_49 ?_
          refine lv_aload_n hx hb dX9_plan_52 rfl (lv_at hl 1 rfl) ?_
          refine pw_get (C := RX9) (T := TX9) (N := 14) hx hb hts hin9 hown hK hO rfl 2 (by decide) lk_26 rfl rfl dX9_plan_53 ?_
          refine lv_iload_n hx hb dX9_plan_56 rfl (lv_at hl 2 rfl) ?_
          refine pw_asi (((n.toNat : Nat) : Int)) (by omega) ?_
          refine pw_callVv (As := [.ref (o0 + 1), .ref (o0 + 317), .int (iI (((n.toNat : Nat) : Int)))]) (rest := []) ⟨hx, hb, hml, hown, hts⟩ (c_climb l D E (o0 + 326) (o0 + 1) (o0 + 317) gb gr (n.toNat) kn σ vb sb vr sr V B pk hok hrd (by omega) hINV.2.2.2.2 (by omega) (by omega) (by omega)) (cwV 3 hts gX9_plan_X5_climb rfl rfl rfl (by decide +kernel) ⟨Nat.le_of_ble_eq_true rfl, Nat.le_of_ble_eq_true rfl⟩) hK hLO rfl ⟨⟨hLO, hLR⟩, hM, hCH⟩ rfl hl.1 rfl (Nat.le_of_ble_eq_true rfl) dX9_plan_57 ⟨Nat.zero_le _, Nat.zero_le _⟩ hS (fun q h => by (try dsimp only at h); (try dsimp only); omega) (fun H1 locs1 ⟨gb, gr, vb, sb, vr, sr, kn, V, B, pk, hCH, hLD, hLV, hkn⟩ hz1 hk1 hS => ?_)
          have hO := hO.k (hk1 _ hO.lt (by (try dsimp only); omega))
          have hM := hM.k (fun q h1 h2 h3 => (hk1 _ h3 (by (try dsimp only); omega)))
          have hMO := hMO.k (hk1 _ hMO.lt (by (try dsimp only); omega))
          have hMC := hMC.k (hk1 _ hMC.lt (by (try dsimp only); omega))
          have hMQ := hMQ.k (hk1 _ hMQ.lt (by (try dsimp only); omega))
          have hAT := hAT.k (fun q h1 h2 h3 => (hk1 _ h3 (by (try dsimp only); omega)))
          have hE := hE.k (fun q h1 h2 h3 => (hk1 _ h3 (by (try dsimp only); omega)))
          have hRW := hRW.k (fun q h1 h2 h3 => (hk1 _ h3 (by (try dsimp only); omega)))
          have hBP := hBP.k (hk1 _ hBP.lt (by (try dsimp only); omega))
          have hQ := hQ.k (hk1 _ hQ.lt (by (try dsimp only); omega))
          have hWS := hWS.k (fun q h1 h2 h3 => (hk1 _ h3 (by (try dsimp only); omega)))
          have hZ := hZ.k (hk1 _ hZ.lt (by (try dsimp only); omega))
          have hT := hT.k (fun q h1 h2 h3 => (hk1 _ h3 (by (try dsimp only); omega)))
          have hW1 := hW1.k (fun q h1 h2 h3 => (hk1 _ h3 (by (try dsimp only); omega)))
          have hW2 := hW2.k (fun q h1 h2 h3 => (hk1 _ h3 (by (try dsimp only); omega)))
          have hW3 := hW3.k (fun q h1 h2 h3 => (hk1 _ h3 (by (try dsimp only); omega)))
          have hF := hF.k (fun q h1 h2 h3 => (hk1 _ h3 (by (try dsimp only); omega)))
          have hLO := hLD.1
          have hLR : LDR D E (o0 + 326) V B pk _ := hLD.2
          clear hLD
          have hLQ := hLR.1
          have hPQ := hLR.2.2.1
          refine lv_aload_n hx hb dX9_plan_60 rfl (lv_at hl 1 rfl) ?_
          refine pw_get (C := RX9) (T := TX9) (N := 14) hx hb hts hin9 hown hK hO rfl 3 (by decide) lk_33 rfl rfl dX9_plan_61 ?_
          refine pw_get (C := RX5) (T := TX5) (N := 3) hx hb hts hin5 hown hK hLO rfl 1 (by decide) lk_192 rfl rfl dX9_plan_64 ?_
          refine lv_iload_n hx hb dX9_plan_67 rfl (lv_at hl 2 rfl) ?_
          refine pw_qalda hx hb hK hPQ (n.toNat) (by omega) (by omega) (by omega) rfl dX9_plan_68 ?_
          have hPK := hLR.2.2.2 n.toNat (by omega) (by omega)
          have hpk := hLV.pk (k := n.toNat - 1) (by omega) (show st.toNat < mN σ by omega)
          rw [show n.toNat - 1 + 1 = n.toNat by omega] at hpk
          refine lv_iload_n hx hb dX9_plan_69 rfl (lv_at hl 3 rfl) ?_
          refine pw_iald hx hb hK hPK (st.toNat) (by omega) (by omega) (by omega) dX9_plan_70 ?_
          exact pw_iret hx hb hr hlocks hS ⟨⟨bv, bd, bp, wn, wd, wq, kn, V, B, pk, ⟨hO, hM, hE, ⟨_, _, _, _, _, _, hCH⟩, ⟨hLO, hLR⟩, hRW, hBP, hQ, hWS, hZ, hT, ⟨_, _, _, _, _, hF⟩, hW1, hW2, hW3⟩, ⟨hok, hrn, hINV.2.2.1, hINV.2.2.2.1, hLV⟩⟩, Or.inr ⟨⟨hrd, by omega, by omega, hkin.1, hkin.2⟩, V (n.toNat - 1), B (n.toNat - 1), hLV.gs hN6 (n.toNat - 1) (by omega), hpk⟩⟩ dX9_plan_71
        · refine pw_iconst hx hb dX9_plan_42 ?_
          exact pw_iret hx hb hr hlocks hS ⟨⟨bv, bd, bp, wn, wd, wq, kn, V, B, pk, ⟨hO, hM, hE, ⟨_, _, _, _, _, _, hCH⟩, ⟨hLO, hLR⟩, hRW, hBP, hQ, hWS, hZ, hT, ⟨_, _, _, _, _, hF⟩, hW1, hW2, hW3⟩, hINV⟩, Or.inl ⟨fun h => absurd (hyr.mpr h.1) (by omega), rfl⟩⟩ dX9_plan_43
