/-! the reference: a policy's values, by elimination -/
theorem qm_s {σ : MS} {π : Nat → Nat} {cm : Nat} (h : mOK σ) (hπ : ∀ s, s < mN σ → π s < mC σ s) {i c : Nat} (hi : i < mN σ) (hc : c < mN σ) : -2800 ≤ qm σ π cm i c ∧ qm σ π cm i c ≤ 2800 := by
  unfold qm
  rw [if_pos ⟨hi, by omega⟩, if_neg (by omega)]
  have hN := h.1
  have hC := h.2.1 i (by omega)
  have hp := hπ i hi
  obtain ⟨u1, u2, d1, d2, w1⟩ := h.2.2.1 (4 * i + π i) (by omega)
  have hT := mT_b h (show 4 * i + π i < 24 by omega)
  have hB := h.2.2.2.2.1
  have hA := h.2.2.2.1
  have hbt : mB σ * mT σ (4 * i + π i) ≤ 20 * 120 := Nat.mul_le_mul hB hT
  have haw : mA σ * mW σ (4 * i + π i) c ≤ 20 * 20 := Nat.mul_le_mul (by omega) (w1 c (by omega))
  have e1 : (mA σ : Int) * (mW σ (4 * i + π i) c : Int) = ((mA σ * mW σ (4 * i + π i) c : Nat) : Int) := (Int.natCast_mul _ _).symm
  have e2 : (mB σ : Int) * (mT σ (4 * i + π i) : Int) = ((mB σ * mT σ (4 * i + π i) : Nat) : Int) := (Int.natCast_mul _ _).symm
  rw [e1, e2]
  split <;> omega
theorem qm_N {σ : MS} {π : Nat → Nat} {cm i : Nat} (hi : i < mN σ) : qm σ π cm i (mN σ) = (mB σ : Int) * (mT σ (4 * i + π i) : Int) * mU σ (4 * i + π i) * ((cm / mD σ (4 * i + π i) : Nat) : Int) := by
  unfold qm
  rw [if_pos ⟨hi, Nat.le_refl _⟩, if_pos rfl]
theorem qm_c {σ : MS} {π : Nat → Nat} {cm i c : Nat} (hi : i < mN σ) (hc : c < mN σ) : qm σ π cm i c = (if i = c then (mB σ : Int) * (mT σ (4 * i + π i) : Int) else 0) - (mA σ : Int) * (mW σ (4 * i + π i) c : Int) := by
  unfold qm
  rw [if_pos ⟨hi, by omega⟩, if_neg (by omega)]
set_option maxHeartbeats 4000000 in
set_option maxRecDepth 100000 in
/-- valuePolicy() -/
theorem r_valuePolicy (l : Launch) (D : va_G) (E : Nat → ClassId) (r0 : Nat) (σ : MS) (th so rn co : Int) (gU gD gW ch vs0 : Nat → Int) (π : Nat → Nat) (hok : mOK σ) (hrd : rdy σ) (hm : mR σ gU gD gW) (hπ : ∀ s, s < mN σ → π s < mC σ s) (hch : ∀ s, s < mN σ → ch s = (π s : Int)) : pw_M rvV l D E yX10_valuePolicy wsX10_valuePolicy ({ frames := 4, cells := 0, slots := 0, locals := 104 } : Room) [.ref (r0)] (fun H => OA D r0 10 [.int (iI (th)), .int (iI ((mN σ : Int))), .ref (r0 + 1), .ref (r0 + 2), .ref (r0 + 3), .ref (r0 + 4), .int (iI ((mA σ : Int))), .int (iI ((mB σ : Int))), .int (iI (so)), .int (iI (rn)), .ref (r0 + 5), .ref (r0 + 6), .ref (r0 + 7), .ref (r0 + 8), .ref (r0 + 9), .ref (r0 + 10), .ref (r0 + 11), .ref (r0 + 12), .ref (r0 + 13), .int (iI (co))] H ∧ IA E (r0 + 2) 24 gU H ∧ IA E (r0 + 3) 24 gD H ∧ IA E (r0 + 4) 144 gW H ∧ IA E (r0 + 6) 6 ch H ∧ BN E r0 vs0 H) (fun _ H => ∃ (cm : Nat) (vs : Nat → Int), OA D r0 10 [.int (iI (th)), .int (iI ((mN σ : Int))), .ref (r0 + 1), .ref (r0 + 2), .ref (r0 + 3), .ref (r0 + 4), .int (iI ((mA σ : Int))), .int (iI ((mB σ : Int))), .int (iI (so)), .int (iI (rn)), .ref (r0 + 5), .ref (r0 + 6), .ref (r0 + 7), .ref (r0 + 8), .ref (r0 + 9), .ref (r0 + 10), .ref (r0 + 11), .ref (r0 + 12), .ref (r0 + 13), .int (iI ((cm : Int)))] H ∧ BN E r0 vs H ∧ (0 < cm ∧ cm ≤ 232792560 ∧ ∀ s, s < mN σ → mD σ (4 * s + π s) ∣ cm) ∧ vs 48 = eP (qm σ π cm) (mN σ) ∧ (∀ s, s < mN σ → vs (42 + s) = eY (qm σ π cm) (mN σ) (mN σ) s) ∧ ∀ c, 52 < c → vs c = vs0 c) (fun q => q = r0 ∨ (r0 + 8 ≤ q ∧ q ≤ r0 + 10)) (0) (0) := by
  refine pw_of (cc := cX10_valuePolicy) (maxL := 6) (ret := none) (by decide +kernel) rfl (Nat.le_of_ble_eq_true rfl) ?_
  intro p e s m args below meth c hx hb hr hml hts hown hlocks hini hK ⟨hO, hU, hDn, hW, hCh, f, g, h, ⟨hf, hg, hh⟩, hN⟩ ls hl
  have hown : s.vm.findClass RX10 = some m.cls := hown
  have hl : lv_has ls 6 [(0, .ref (r0))] := hl
  have hS : va_S (fun q => q = r0 ∨ (r0 + 8 ≤ q ∧ q ≤ r0 + 10)) s.heap s.heap [] := va_S.rf
  have lk_13 := hts (.fieldLink RX10 13 "PolicyWorksModel" "ups" "[I") (by decide +kernel)
  have lk_16 := hts (.fieldLink RX10 16 "PolicyWorksModel" "downs" "[I") (by decide +kernel)
  have lk_19 := hts (.fieldLink RX10 19 "PolicyWorksModel" "weights" "[I") (by decide +kernel)
  have lk_22 := hts (.fieldLink RX10 22 "PolicyWorksModel" "discountUp" "I") (by decide +kernel)
  have lk_26 := hts (.fieldLink RX10 26 "PolicyWorksModel" "discountDown" "I") (by decide +kernel)
  have lk_32 := hts (.fieldLink RX10 32 "PolicyWorksModel" "chosen" "[I") (by decide +kernel)
  have lk_103 := hts (.fieldLink RX10 103 "PolicyWorksModel" "states" "I") (by decide +kernel)
  have lk_138 := hts (.fieldLink RX10 138 "PolicyWorksModel" "common" "I") (by decide +kernel)
  have hin10 : ∀ w ∈ wsX100, w ∈ wsX10_valuePolicy := by decide +kernel
  have hN6 := hok.1
  have hN0 := hrd.1
  have hC4 := hok.2.1
  obtain ⟨w1, w2⟩ := bdW_b
  have p63 := rb_s 62
  have loop6 : ∀ (cm : Nat), 0 < cm → cm ≤ 232792560 → (∀ s, s < mN σ → mD σ (4 * s + π s) ∣ cm) → ∀ (n : Nat) (vs f g h : Nat → Int) (H : Heap) (locs : List Loc) (ls : Array Slot), n ≤ mN σ → (∀ q, n ≤ q ∧ q < mN σ → vs (42 + q) = eY (qm σ π cm) (mN σ) (mN σ) q) → RA (qm σ π cm) (mN σ) vs (fun q _ => q) → vs (48) = eP (qm σ π cm) (mN σ) → (∀ c, 52 < c → vs (c) = vs0 c) → OA D r0 10 [.int (iI (th)), .int (iI ((mN σ : Int))), .ref (r0 + 1), .ref (r0 + 2), .ref (r0 + 3), .ref (r0 + 4), .int (iI ((mA σ : Int))), .int (iI ((mB σ : Int))), .int (iI (so)), .int (iI (rn)), .ref (r0 + 5), .ref (r0 + 6), .ref (r0 + 7), .ref (r0 + 8), .ref (r0 + 9), .ref (r0 + 10), .ref (r0 + 11), .ref (r0 + 12), .ref (r0 + 13), .int (iI ((cm : Int)))] H → IA E (r0 + 2) 24 gU H → IA E (r0 + 3) 24 gD H → IA E (r0 + 4) 144 gW H → IA E (r0 + 6) 6 ch H → IA E (r0 + 8) 5120 f H → IA E (r0 + 9) 80 g H → IA E (r0 + 10) 80 h H → (∀ c, c < 80 → Num f g h c (vs c)) → va_S (fun q => q = r0 ∨ (r0 + 8 ≤ q ∧ q ≤ r0 + 10)) s.heap H locs → lv_has ls 6 [(0, .ref (r0)), (1, .int (iI ((n : Int) - 1)))] → W p l e ({ frames := 4, cells := 0, slots := 0, locals := 104 } : Room) s m args below meth c H locs (0) (0) (MQ below (pw_Q rvV (fun _ H => ∃ (cm : Nat) (vs : Nat → Int), OA D r0 10 [.int (iI (th)), .int (iI ((mN σ : Int))), .ref (r0 + 1), .ref (r0 + 2), .ref (r0 + 3), .ref (r0 + 4), .int (iI ((mA σ : Int))), .int (iI ((mB σ : Int))), .int (iI (so)), .int (iI (rn)), .ref (r0 + 5), .ref (r0 + 6), .ref (r0 + 7), .ref (r0 + 8), .ref (r0 + 9), .ref (r0 + 10), .ref (r0 + 11), .ref (r0 + 12), .ref (r0 + 13), .int (iI ((cm : Int)))] H ∧ BN E r0 vs H ∧ (0 < cm ∧ cm ≤ 232792560 ∧ ∀ s, s < mN σ → mD σ (4 * s + π s) ∣ cm) ∧ vs 48 = eP (qm σ π cm) (mN σ) ∧ (∀ s, s < mN σ → vs (42 + s) = eY (qm σ π cm) (mN σ) (mN σ) s) ∧ ∀ c, 52 < c → vs c = vs0 c) (fun q => q = r0 ∨ (r0 + 8 ≤ q ∧ q ≤ r0 + 10))) args s (0) (0) (fun q => q = r0 ∨ (r0 + 8 ≤ q ∧ q ≤ r0 + 10))) (F0 m 319 ls []) := by
    intro cm hcm1 hcm2 hcm3
    have hz := qm_z (cm := cm) hok hrd hπ
    have hRb := qm_b hok hcm2 hπ
    have eb : ∀ k i j, k ≤ 6 → (eE (qm σ π cm) k i j).natAbs ≤ bdW := fun k i j hk => eE_b (by omega) hRb hk i j
    have pb : ∀ k, k ≤ 6 → (eP (qm σ π cm) k).natAbs ≤ bdW := fun k hk => eP_b (by omega) hRb hk
    have yb : ∀ k j q, k ≤ 6 → (eY (qm σ π cm) k j q).natAbs ≤ bdW := fun k j q hk => eY_b (by omega) hRb hk j q
    have pp : ∀ k, k ≤ mN σ → 0 < eP (qm σ π cm) k := fun k hk => det_pos hz k hk
    intro n
    induction n with
    | zero =>
      intro vs f g h H locs ls hn hX hRA h48 hvc hO hU hDn hW hCh hf hg hh hN hS hl
      refine lv_iload_n hx hb dX10_valuePolicy_319 rfl (lv_at hl 1 rfl) ?_
      refine pw_if_lt (tgt := 403) hx hb dX10_valuePolicy_320 (by decide) (fun c_320 => ?_) (fun c_320 => absurd c_320 (by omega))
      exact pw_vret hx hb hr hlocks hS ⟨cm, vs, hO, ⟨f, g, h, ⟨hf, hg, hh⟩, hN⟩, ⟨hcm1, hcm2, hcm3⟩, h48, fun s hs => hX s ⟨Nat.zero_le s, hs⟩, hvc⟩ dX10_valuePolicy_403
    | succ n ih =>
      have sb : n + 1 ≤ mN σ → ∀ j, j ≤ mN σ → (sI (fun c => eE (qm σ π cm) n n c * eY (qm σ π cm) (mN σ) (mN σ) c) j).natAbs ≤ 6 * (bdW * bdW) := fun hn1 j hj => Nat.le_trans (sI_bW (fun c _ => mul_bW (eb n n c (by omega)) (yb (mN σ) (mN σ) c hN6))) (Nat.mul_le_mul_right _ (by omega))
      have loop7 : n + 1 ≤ mN σ → ∀ (kk j : Nat) (vs f g h : Nat → Int) (H : Heap) (locs : List Loc) (ls : Array Slot), j + kk = mN σ → n + 1 ≤ j → vs (42 + n) = eE (qm σ π cm) n n (mN σ) * eP (qm σ π cm) (mN σ) - (sI (fun c => eE (qm σ π cm) n n c * eY (qm σ π cm) (mN σ) (mN σ) c) j - sI (fun c => eE (qm σ π cm) n n c * eY (qm σ π cm) (mN σ) (mN σ) c) (n + 1)) → (∀ q, n + 1 ≤ q ∧ q < mN σ → vs (42 + q) = eY (qm σ π cm) (mN σ) (mN σ) q) → RA (qm σ π cm) (mN σ) vs (fun q _ => q) → vs (48) = eP (qm σ π cm) (mN σ) → (∀ c, 52 < c → vs (c) = vs0 c) → OA D r0 10 [.int (iI (th)), .int (iI ((mN σ : Int))), .ref (r0 + 1), .ref (r0 + 2), .ref (r0 + 3), .ref (r0 + 4), .int (iI ((mA σ : Int))), .int (iI ((mB σ : Int))), .int (iI (so)), .int (iI (rn)), .ref (r0 + 5), .ref (r0 + 6), .ref (r0 + 7), .ref (r0 + 8), .ref (r0 + 9), .ref (r0 + 10), .ref (r0 + 11), .ref (r0 + 12), .ref (r0 + 13), .int (iI ((cm : Int)))] H → IA E (r0 + 2) 24 gU H → IA E (r0 + 3) 24 gD H → IA E (r0 + 4) 144 gW H → IA E (r0 + 6) 6 ch H → IA E (r0 + 8) 5120 f H → IA E (r0 + 9) 80 g H → IA E (r0 + 10) 80 h H → (∀ c, c < 80 → Num f g h c (vs c)) → va_S (fun q => q = r0 ∨ (r0 + 8 ≤ q ∧ q ≤ r0 + 10)) s.heap H locs → lv_has ls 6 [(0, .ref (r0)), (1, .int (iI (((n + 1 : Nat) : Int) - 1))), (2, .int (iI ((j : Int))))] → W p l e ({ frames := 4, cells := 0, slots := 0, locals := 104 } : Room) s m args below meth c H locs (0) (0) (MQ below (pw_Q rvV (fun _ H => ∃ (cm : Nat) (vs : Nat → Int), OA D r0 10 [.int (iI (th)), .int (iI ((mN σ : Int))), .ref (r0 + 1), .ref (r0 + 2), .ref (r0 + 3), .ref (r0 + 4), .int (iI ((mA σ : Int))), .int (iI ((mB σ : Int))), .int (iI (so)), .int (iI (rn)), .ref (r0 + 5), .ref (r0 + 6), .ref (r0 + 7), .ref (r0 + 8), .ref (r0 + 9), .ref (r0 + 10), .ref (r0 + 11), .ref (r0 + 12), .ref (r0 + 13), .int (iI ((cm : Int)))] H ∧ BN E r0 vs H ∧ (0 < cm ∧ cm ≤ 232792560 ∧ ∀ s, s < mN σ → mD σ (4 * s + π s) ∣ cm) ∧ vs 48 = eP (qm σ π cm) (mN σ) ∧ (∀ s, s < mN σ → vs (42 + s) = eY (qm σ π cm) (mN σ) (mN σ) s) ∧ ∀ c, 52 < c → vs c = vs0 c) (fun q => q = r0 ∨ (r0 + 8 ≤ q ∧ q ≤ r0 + 10))) args s (0) (0) (fun q => q = r0 ∨ (r0 + 8 ≤ q ∧ q ≤ r0 + 10))) (F0 m 344 ls []) := by
        intro hn1 kk
        induction kk with
        | zero =>
          intro j vs f g h H locs ls hj hj1 hv hX hRA h48 hvc hO hU hDn hW hCh hf hg hh hN hS hl
          have ej : j = mN σ := by omega
          subst ej
          have hpiv : vs (8 * n) = eE (qm σ π cm) n n n := by have := hRA n n (by omega) (by omega) (Nat.le_refl n); rw [cl_lt (by omega)] at this; rw [show 8 * n = 7 * n + n by omega]; exact this
          have hpos : 0 < eE (qm σ π cm) n n n := by rw [← eP_s]; exact pp (n + 1) hn1
          have hs1 := eE_sol hz (show n ≤ mN σ by omega) (show n < mN σ by omega)
          have hs2 : sI (fun c => eE (qm σ π cm) n n c * eY (qm σ π cm) (mN σ) (mN σ) c) (n + 1) = eE (qm σ π cm) n n n * eY (qm σ π cm) (mN σ) (mN σ) n := by
            show sI (fun c => eE (qm σ π cm) n n c * eY (qm σ π cm) (mN σ) (mN σ) c) n + eE (qm σ π cm) n n n * eY (qm σ π cm) (mN σ) (mN σ) n = _
            rw [sI_congr (g := fun _ => 0) (fun c hc => by rw [eE_col hz (by omega) n hc, Int.zero_mul]), sI_zero]
            omega
          have hv2 : vs (42 + n) = eY (qm σ π cm) (mN σ) (mN σ) n * eE (qm σ π cm) n n n := by
            rw [hv, hs1, hs2, Int.mul_comm (eP (qm σ π cm) (mN σ)), Int.mul_comm (eY (qm σ π cm) (mN σ) (mN σ) n)]
            omega
          have eb1 := eb n n n (by omega)
          refine lv_iload_n hx hb dX10_valuePolicy_344 rfl (lv_at hl 2 rfl) ?_
          refine lv_aload_n hx hb dX10_valuePolicy_345 rfl (lv_at hl 0 rfl) ?_
          refine pw_get (C := RX10) (T := TX10) (N := 20) hx hb hts hin10 hown hK hO rfl 1 (by decide) lk_103 rfl rfl dX10_valuePolicy_346 ?_
          refine pw_icmp_ge (tgt := 385) hx hb dX10_valuePolicy_349 (by decide) (fun c_349 => ?_) (fun c_349 => absurd c_349 (by omega))
          refine lv_aload_n hx hb dX10_valuePolicy_385 rfl (lv_at hl 0 rfl) ?_
          refine pw_bipush hx hb dX10_valuePolicy_386 ?_
          refine lv_iload_n hx hb dX10_valuePolicy_388 rfl (lv_at hl 1 rfl) ?_
          refine pw_asi ((n : Int)) (by omega) ?_
          refine pw_iadd hx hb dX10_valuePolicy_389 ?_
          refine pw_asi (((42 + n : Nat) : Int)) (by omega) ?_
          refine pw_bipush hx hb dX10_valuePolicy_390 ?_
          refine lv_iload_n hx hb dX10_valuePolicy_392 rfl (lv_at hl 1 rfl) ?_
          refine pw_asi ((n : Int)) (by omega) ?_
          refine pw_imul hx hb dX10_valuePolicy_393 ?_
          refine pw_asi (((8 * n : Nat) : Int)) (by omega) ?_
          refine pw_callVv (As := [.int (iI (((42 + n : Nat) : Int))), .int (iI (((8 * n : Nat) : Int)))]) (rest := []) ⟨hx, hb, hml, hown, hts⟩ (r_over l D E r0 (oV th σ so rn (cm : Int)) f g h (42 + n) (8 * n) (eY (qm σ π cm) (mN σ) (mN σ) n * eE (qm σ π cm) n n n) (eE (qm σ π cm) n n n) (eY (qm σ π cm) (mN σ) (mN σ) n) (by omega) (by omega) (by omega) (by omega) (by omega) (num_at (hN (42 + n) (by omega)) hv2) (num_at (hN (8 * n) (by omega)) hpiv) hpos rfl (by omega)) (cwV 2 hts gX10_valuePolicy_X10_over rfl rfl rfl (by decide +kernel) ⟨Nat.le_of_ble_eq_true rfl, Nat.le_of_ble_eq_true rfl⟩) hK hO rfl ⟨hO, hf, hg, hh⟩ rfl hl.1 rfl (Nat.le_of_ble_eq_true rfl) dX10_valuePolicy_394 ⟨Nat.zero_le _, Nat.zero_le _⟩ hS (fun q h => by (try dsimp only at h); (try dsimp only); omega) (fun H1 locs1 ⟨f, g, h, ⟨hf, hg, hh⟩, hn1, hn4, ho1⟩ hz1 hk1 hS => ?_)
          have hO := hO.k (hk1 _ hO.lt (by (try dsimp only); omega))
          have hU := hU.k (hk1 _ hU.lt (by (try dsimp only); omega))
          have hDn := hDn.k (hk1 _ hDn.lt (by (try dsimp only); omega))
          have hW := hW.k (hk1 _ hW.lt (by (try dsimp only); omega))
          have hCh := hCh.k (hk1 _ hCh.lt (by (try dsimp only); omega))
          obtain ⟨vs, hva0, hvo, hN⟩ := bn_nq hN hn1 hn4 ho1
          clear hn1 hn4 ho1
          have hv2 : vs (42 + n) = eY (qm σ π cm) (mN σ) (mN σ) n := hva0
          have hX : ∀ q, n + 1 ≤ q ∧ q < mN σ → vs (42 + q) = eY (qm σ π cm) (mN σ) (mN σ) q := fun q hq => (hvo _ (by omega) (by omega)).trans (hX q hq)
          have h48 : vs (48) = eP (qm σ π cm) (mN σ) := (hvo _ (by omega) (by omega)).trans h48
          have hvc : ∀ c, 52 < c → vs (c) = vs0 c := fun c hq => (hvo _ (by omega) (by omega)).trans (hvc c hq)
          have hRA := hRA.o2 hN6 (by omega) hvo
          clear hva0 hvo
          refine lv_iinc (v := iI (((n : Nat) : Int) - 1)) (lv' := [(1, .int (iI (((n : Nat) : Int) - 1))), (0, .ref (r0)), (2, .int (iI ((mN σ : Int))))]) hx hb dX10_valuePolicy_397 hl (k := 1) rfl (by show iI _ + iI _ = _; exact (iI_add _ _).trans (by first | rfl | (congr 1; omega))) (by decide) rfl (fun ls hl => ?_)
          refine lv_goto (tgt := 319) hx hb dX10_valuePolicy_400 (by decide) ?_
          exact ih vs f g h _ _ _ (by omega) (fun q hq => by
            by_cases e : q = n
            · rw [e]; exact hv2
            · exact hX q ⟨by omega, hq.2⟩) hRA h48 hvc hO hU hDn hW hCh hf hg hh hN hS (lv_sub hl [1, 0] rfl)
        | succ kk ih2 =>
          intro j vs f g h H locs ls hj hj1 hv hX hRA h48 hvc hO hU hDn hW hCh hf hg hh hN hS hl
          have hnj : vs (7 * n + j) = eE (qm σ π cm) n n j := by have := hRA n j (by omega) (by omega) (show n ≤ j by omega); rw [cl_lt (by omega)] at this; exact this
          have hxj := hX j ⟨by omega, by omega⟩
          have eb1 := eb n n j (by omega)
          have yb1 := yb (mN σ) (mN σ) j hN6
          have eb2 := mul_bW (eb n n (mN σ) (by omega)) (pb (mN σ) hN6)
          have sb1 := sb hn1 j (by omega)
          have sb2 := sb hn1 (n + 1) hn1
          have mb := mul_bW eb1 yb1
          have hsj : sI (fun c => eE (qm σ π cm) n n c * eY (qm σ π cm) (mN σ) (mN σ) c) (j + 1) = sI (fun c => eE (qm σ π cm) n n c * eY (qm σ π cm) (mN σ) (mN σ) c) j + eE (qm σ π cm) n n j * eY (qm σ π cm) (mN σ) (mN σ) j := rfl
          refine lv_iload_n hx hb dX10_valuePolicy_344 rfl (lv_at hl 2 rfl) ?_
          refine lv_aload_n hx hb dX10_valuePolicy_345 rfl (lv_at hl 0 rfl) ?_
          refine pw_get (C := RX10) (T := TX10) (N := 20) hx hb hts hin10 hown hK hO rfl 1 (by decide) lk_103 rfl rfl dX10_valuePolicy_346 ?_
          refine pw_icmp_ge (tgt := 385) hx hb dX10_valuePolicy_349 (by decide) (fun c_349 => absurd c_349 (by omega)) (fun c_349 => ?_)
          refine lv_aload_n hx hb dX10_valuePolicy_352 rfl (lv_at hl 0 rfl) ?_
          refine pw_bipush hx hb dX10_valuePolicy_353 ?_
          refine lv_iload_n hx hb dX10_valuePolicy_355 rfl (lv_at hl 1 rfl) ?_
          refine pw_asi ((n : Int)) (by omega) ?_
          refine pw_imul hx hb dX10_valuePolicy_356 ?_
          refine lv_iload_n hx hb dX10_valuePolicy_357 rfl (lv_at hl 2 rfl) ?_
          refine pw_iadd hx hb dX10_valuePolicy_358 ?_
          refine pw_asi (((7 * n + j : Nat) : Int)) (by omega) ?_
          refine pw_bipush hx hb dX10_valuePolicy_359 ?_
          refine lv_iload_n hx hb dX10_valuePolicy_361 rfl (lv_at hl 2 rfl) ?_
          refine pw_iadd hx hb dX10_valuePolicy_362 ?_
          refine pw_asi (((42 + j : Nat) : Int)) (by omega) ?_
          refine pw_bipush hx hb dX10_valuePolicy_363 ?_
          refine pw_callVv (As := [.int (iI (((7 * n + j : Nat) : Int))), .int (iI (((42 + j : Nat) : Int))), .int (iI (49))]) (rest := []) ⟨hx, hb, hml, hown, hts⟩ (r_multiply l D E r0 (oV th σ so rn (cm : Int)) f g h (7 * n + j) (42 + j) 49 14 14 (eE (qm σ π cm) n n j) (eY (qm σ π cm) (mN σ) (mN σ) j) (by omega) (by omega) (by omega) (by omega) (by omega) (num_at (hN (7 * n + j) (by omega)) hnj) (num_at (hN (42 + j) (by omega)) hxj) (by omega) (by omega) (by omega)) (cwV 3 hts gX10_valuePolicy_X10_multiply rfl rfl rfl (by decide +kernel) ⟨Nat.le_of_ble_eq_true rfl, Nat.le_of_ble_eq_true rfl⟩) hK hO rfl ⟨hO, hf, hg, hh⟩ rfl hl.1 rfl (Nat.le_of_ble_eq_true rfl) dX10_valuePolicy_365 ⟨Nat.zero_le _, Nat.zero_le _⟩ hS (fun q h => by (try dsimp only at h); (try dsimp only); omega) (fun H1 locs1 ⟨f, g, h, ⟨hf, hg, hh⟩, hn1, ho1⟩ hz1 hk1 hS => ?_)
          have hO := hO.k (hk1 _ hO.lt (by (try dsimp only); omega))
          have hU := hU.k (hk1 _ hU.lt (by (try dsimp only); omega))
          have hDn := hDn.k (hk1 _ hDn.lt (by (try dsimp only); omega))
          have hW := hW.k (hk1 _ hW.lt (by (try dsimp only); omega))
          have hCh := hCh.k (hk1 _ hCh.lt (by (try dsimp only); omega))
          obtain ⟨vs, hva0, hvo, hN⟩ := bn_np hN hn1 ho1
          clear hn1 ho1
          have hv : vs (42 + n) = eE (qm σ π cm) n n (mN σ) * eP (qm σ π cm) (mN σ) - (sI (fun c => eE (qm σ π cm) n n c * eY (qm σ π cm) (mN σ) (mN σ) c) j - sI (fun c => eE (qm σ π cm) n n c * eY (qm σ π cm) (mN σ) (mN σ) c) (n + 1)) := (hvo _ (by omega)).trans hv
          have hX : ∀ q, n + 1 ≤ q ∧ q < mN σ → vs (42 + q) = eY (qm σ π cm) (mN σ) (mN σ) q := fun q hq => (hvo _ (by omega)).trans (hX q hq)
          have h48 : vs (48) = eP (qm σ π cm) (mN σ) := (hvo _ (by omega)).trans h48
          have hvc : ∀ c, 52 < c → vs (c) = vs0 c := fun c hq => (hvo _ (by omega)).trans (hvc c hq)
          have h49 : vs (49) = eE (qm σ π cm) n n j * eY (qm σ π cm) (mN σ) (mN σ) j := hva0
          have hRA := hRA.o hN6 (by omega) hvo
          clear hva0 hvo
          refine lv_aload_n hx hb dX10_valuePolicy_368 rfl (lv_at hl 0 rfl) ?_
          refine pw_bipush hx hb dX10_valuePolicy_369 ?_
          refine lv_iload_n hx hb dX10_valuePolicy_371 rfl (lv_at hl 1 rfl) ?_
          refine pw_asi ((n : Int)) (by omega) ?_
          refine pw_iadd hx hb dX10_valuePolicy_372 ?_
          refine pw_asi (((42 + n : Nat) : Int)) (by omega) ?_
          refine pw_bipush hx hb dX10_valuePolicy_373 ?_
          refine pw_iconst hx hb dX10_valuePolicy_375 ?_
          refine pw_callVv (As := [.int (iI (((42 + n : Nat) : Int))), .int (iI (49)), .int (iI (-1))]) (rest := []) ⟨hx, hb, hml, hown, hts⟩ (r_plus l D E r0 (oV th σ so rn (cm : Int)) f g h (42 + n) 49 (eE (qm σ π cm) n n (mN σ) * eP (qm σ π cm) (mN σ) - (sI (fun c => eE (qm σ π cm) n n c * eY (qm σ π cm) (mN σ) (mN σ) c) j - sI (fun c => eE (qm σ π cm) n n c * eY (qm σ π cm) (mN σ) (mN σ) c) (n + 1))) (eE (qm σ π cm) n n j * eY (qm σ π cm) (mN σ) (mN σ) j) (-1) (by omega) (by omega) (by omega) (Or.inr rfl) (num_at (hN (42 + n) (by omega)) hv) (num_at (hN (49) (by omega)) h49) (by omega) (by omega)) (cwV 3 hts gX10_valuePolicy_X10_plus rfl rfl rfl (by decide +kernel) ⟨Nat.le_of_ble_eq_true rfl, Nat.le_of_ble_eq_true rfl⟩) hK hO rfl ⟨hO, hf, hg, hh⟩ rfl hl.1 rfl (Nat.le_of_ble_eq_true rfl) dX10_valuePolicy_376 ⟨Nat.zero_le _, Nat.zero_le _⟩ hS (fun q h => by (try dsimp only at h); (try dsimp only); omega) (fun H1 locs1 ⟨f, g, h, ⟨hf, hg, hh⟩, hn1, ho1⟩ hz1 hk1 hS => ?_)
          have hO := hO.k (hk1 _ hO.lt (by (try dsimp only); omega))
          have hU := hU.k (hk1 _ hU.lt (by (try dsimp only); omega))
          have hDn := hDn.k (hk1 _ hDn.lt (by (try dsimp only); omega))
          have hW := hW.k (hk1 _ hW.lt (by (try dsimp only); omega))
          have hCh := hCh.k (hk1 _ hCh.lt (by (try dsimp only); omega))
          obtain ⟨vs, hva0, hvo, hN⟩ := bn_np hN hn1 ho1
          clear hn1 ho1
          have hX : ∀ q, n + 1 ≤ q ∧ q < mN σ → vs (42 + q) = eY (qm σ π cm) (mN σ) (mN σ) q := fun q hq => (hvo _ (by omega)).trans (hX q hq)
          have h48 : vs (48) = eP (qm σ π cm) (mN σ) := (hvo _ (by omega)).trans h48
          have hvc : ∀ c, 52 < c → vs (c) = vs0 c := fun c hq => (hvo _ (by omega)).trans (hvc c hq)
          have h49 : vs (49) = eE (qm σ π cm) n n j * eY (qm σ π cm) (mN σ) (mN σ) j := (hvo _ (by omega)).trans h49
          have hv : vs (42 + n) = eE (qm σ π cm) n n (mN σ) * eP (qm σ π cm) (mN σ) - (sI (fun c => eE (qm σ π cm) n n c * eY (qm σ π cm) (mN σ) (mN σ) c) (j + 1) - sI (fun c => eE (qm σ π cm) n n c * eY (qm σ π cm) (mN σ) (mN σ) c) (n + 1)) := (hva0.trans (by rw [hsj]; omega))
          have hRA := hRA.o hN6 (by omega) hvo
          clear hva0 hvo
          refine lv_iinc (v := iI (((j + 1 : Nat) : Int))) (lv' := [(2, .int (iI (((j + 1 : Nat) : Int)))), (0, .ref (r0)), (1, .int (iI (((n + 1 : Nat) : Int) - 1)))]) hx hb dX10_valuePolicy_379 hl (k := 2) rfl (by show iI _ + iI _ = _; exact (iI_add _ _).trans (by first | rfl | (congr 1; omega))) (by decide) rfl (fun ls hl => ?_)
          refine lv_goto (tgt := 344) hx hb dX10_valuePolicy_382 (by decide) ?_
          exact ih2 (j + 1) vs f g h _ _ _ (by omega) (by omega) hv hX hRA h48 hvc hO hU hDn hW hCh hf hg hh hN hS (lv_sub hl [1, 2, 0] rfl)
      intro vs f g h H locs ls hn hX hRA h48 hvc hO hU hDn hW hCh hf hg hh hN hS hl
      have h6 : vs (7 * n + 6) = eE (qm σ π cm) n n (mN σ) := by have := hRA n (mN σ) (by omega) (Nat.le_refl _) (show n ≤ mN σ by omega); rw [cl_N] at this; exact this
      have eb1 := eb n n (mN σ) (by omega)
      have pb1 := pb (mN σ) hN6
      refine lv_iload_n hx hb dX10_valuePolicy_319 rfl (lv_at hl 1 rfl) ?_
      refine pw_if_lt (tgt := 403) hx hb dX10_valuePolicy_320 (by decide) (fun c_320 => absurd c_320 (by omega)) (fun c_320 => ?_)
      refine lv_aload_n hx hb dX10_valuePolicy_323 rfl (lv_at hl 0 rfl) ?_
      refine pw_bipush hx hb dX10_valuePolicy_324 ?_
      refine lv_iload_n hx hb dX10_valuePolicy_326 rfl (lv_at hl 1 rfl) ?_
      refine pw_asi ((n : Int)) (by omega) ?_
      refine pw_imul hx hb dX10_valuePolicy_327 ?_
      refine pw_bipush hx hb dX10_valuePolicy_328 ?_
      refine pw_iadd hx hb dX10_valuePolicy_330 ?_
      refine pw_asi (((7 * n + 6 : Nat) : Int)) (by omega) ?_
      refine pw_bipush hx hb dX10_valuePolicy_331 ?_
      refine pw_bipush hx hb dX10_valuePolicy_333 ?_
      refine lv_iload_n hx hb dX10_valuePolicy_335 rfl (lv_at hl 1 rfl) ?_
      refine pw_asi ((n : Int)) (by omega) ?_
      refine pw_iadd hx hb dX10_valuePolicy_336 ?_
      refine pw_asi (((42 + n : Nat) : Int)) (by omega) ?_
      refine pw_callVv (As := [.int (iI (((7 * n + 6 : Nat) : Int))), .int (iI (48)), .int (iI (((42 + n : Nat) : Int)))]) (rest := []) ⟨hx, hb, hml, hown, hts⟩ (r_multiply l D E r0 (oV th σ so rn (cm : Int)) f g h (7 * n + 6) 48 (42 + n) 14 14 (eE (qm σ π cm) n n (mN σ)) (eP (qm σ π cm) (mN σ)) (by omega) (by omega) (by omega) (by omega) (by omega) (num_at (hN (7 * n + 6) (by omega)) h6) (num_at (hN (48) (by omega)) h48) (by omega) (by omega) (by omega)) (cwV 3 hts gX10_valuePolicy_X10_multiply rfl rfl rfl (by decide +kernel) ⟨Nat.le_of_ble_eq_true rfl, Nat.le_of_ble_eq_true rfl⟩) hK hO rfl ⟨hO, hf, hg, hh⟩ rfl hl.1 rfl (Nat.le_of_ble_eq_true rfl) dX10_valuePolicy_337 ⟨Nat.zero_le _, Nat.zero_le _⟩ hS (fun q h => by (try dsimp only at h); (try dsimp only); omega) (fun H1 locs1 ⟨f, g, h, ⟨hf, hg, hh⟩, hn1, ho1⟩ hz1 hk1 hS => ?_)
      have hO := hO.k (hk1 _ hO.lt (by (try dsimp only); omega))
      have hU := hU.k (hk1 _ hU.lt (by (try dsimp only); omega))
      have hDn := hDn.k (hk1 _ hDn.lt (by (try dsimp only); omega))
      have hW := hW.k (hk1 _ hW.lt (by (try dsimp only); omega))
      have hCh := hCh.k (hk1 _ hCh.lt (by (try dsimp only); omega))
      obtain ⟨vs, hva0, hvo, hN⟩ := bn_np hN hn1 ho1
      clear hn1 ho1
      have hX : ∀ q, n + 1 ≤ q ∧ q < mN σ → vs (42 + q) = eY (qm σ π cm) (mN σ) (mN σ) q := fun q hq => (hvo _ (by omega)).trans (hX q hq)
      have h48 : vs (48) = eP (qm σ π cm) (mN σ) := (hvo _ (by omega)).trans h48
      have hvc : ∀ c, 52 < c → vs (c) = vs0 c := fun c hq => (hvo _ (by omega)).trans (hvc c hq)
      have hv : vs (42 + n) = eE (qm σ π cm) n n (mN σ) * eP (qm σ π cm) (mN σ) := hva0
      have hRA := hRA.o hN6 (by omega) hvo
      clear hva0 hvo
      refine lv_iload_n hx hb dX10_valuePolicy_340 rfl (lv_at hl 1 rfl) ?_
      refine pw_asi ((n : Int)) (by omega) ?_
      refine pw_iconst hx hb dX10_valuePolicy_341 ?_
      refine pw_iadd hx hb dX10_valuePolicy_342 ?_
      refine pw_asi (((n + 1 : Nat) : Int)) (by omega) ?_
      refine lv_istore_n (lv' := [(2, .int (iI (((n + 1 : Nat) : Int)))), (0, .ref (r0)), (1, .int (iI (((n + 1 : Nat) : Int) - 1)))]) hx hb dX10_valuePolicy_343 rfl hl (by decide) rfl (fun ls hl => ?_)
      exact loop7 hn (mN σ - (n + 1)) (n + 1) vs f g h _ _ _ (by omega) (Nat.le_refl _) (by rw [hv]; omega) hX hRA h48 hvc hO hU hDn hW hCh hf hg hh hN hS (lv_sub hl [1, 2, 0] rfl)
  have k297 : ∀ (cm : Nat), 0 < cm → cm ≤ 232792560 → (∀ s, s < mN σ → mD σ (4 * s + π s) ∣ cm) → ∀ (vs f g h : Nat → Int) (H : Heap) (locs : List Loc) (ls : Array Slot), RA (qm σ π cm) (mN σ) vs (fun q _ => q) → (∀ c, 52 < c → vs (c) = vs0 c) → OA D r0 10 [.int (iI (th)), .int (iI ((mN σ : Int))), .ref (r0 + 1), .ref (r0 + 2), .ref (r0 + 3), .ref (r0 + 4), .int (iI ((mA σ : Int))), .int (iI ((mB σ : Int))), .int (iI (so)), .int (iI (rn)), .ref (r0 + 5), .ref (r0 + 6), .ref (r0 + 7), .ref (r0 + 8), .ref (r0 + 9), .ref (r0 + 10), .ref (r0 + 11), .ref (r0 + 12), .ref (r0 + 13), .int (iI ((cm : Int)))] H → IA E (r0 + 2) 24 gU H → IA E (r0 + 3) 24 gD H → IA E (r0 + 4) 144 gW H → IA E (r0 + 6) 6 ch H → IA E (r0 + 8) 5120 f H → IA E (r0 + 9) 80 g H → IA E (r0 + 10) 80 h H → (∀ c, c < 80 → Num f g h c (vs c)) → va_S (fun q => q = r0 ∨ (r0 + 8 ≤ q ∧ q ≤ r0 + 10)) s.heap H locs → lv_has ls 6 [(0, .ref (r0))] → W p l e ({ frames := 4, cells := 0, slots := 0, locals := 104 } : Room) s m args below meth c H locs (0) (0) (MQ below (pw_Q rvV (fun _ H => ∃ (cm : Nat) (vs : Nat → Int), OA D r0 10 [.int (iI (th)), .int (iI ((mN σ : Int))), .ref (r0 + 1), .ref (r0 + 2), .ref (r0 + 3), .ref (r0 + 4), .int (iI ((mA σ : Int))), .int (iI ((mB σ : Int))), .int (iI (so)), .int (iI (rn)), .ref (r0 + 5), .ref (r0 + 6), .ref (r0 + 7), .ref (r0 + 8), .ref (r0 + 9), .ref (r0 + 10), .ref (r0 + 11), .ref (r0 + 12), .ref (r0 + 13), .int (iI ((cm : Int)))] H ∧ BN E r0 vs H ∧ (0 < cm ∧ cm ≤ 232792560 ∧ ∀ s, s < mN σ → mD σ (4 * s + π s) ∣ cm) ∧ vs 48 = eP (qm σ π cm) (mN σ) ∧ (∀ s, s < mN σ → vs (42 + s) = eY (qm σ π cm) (mN σ) (mN σ) s) ∧ ∀ c, 52 < c → vs c = vs0 c) (fun q => q = r0 ∨ (r0 + 8 ≤ q ∧ q ≤ r0 + 10))) args s (0) (0) (fun q => q = r0 ∨ (r0 + 8 ≤ q ∧ q ≤ r0 + 10))) (F0 m 297 ls []) := by
    intro cm hcm1 hcm2 hcm3 vs f g h H locs ls hRA hvc hO hU hDn hW hCh hf hg hh hN hS hl
    have hpiv : vs (8 * (mN σ - 1)) = eP (qm σ π cm) (mN σ) := by
      have := hRA (mN σ - 1) (mN σ - 1) (by omega) (by omega) (Nat.le_refl _)
      rw [cl_lt (by omega)] at this
      rw [show 8 * (mN σ - 1) = 7 * (mN σ - 1) + (mN σ - 1) by omega, this, ← eP_s]
      rw [show mN σ - 1 + 1 = mN σ by omega]
    refine lv_aload_n hx hb dX10_valuePolicy_297 rfl (lv_at hl 0 rfl) ?_
    refine pw_bipush hx hb dX10_valuePolicy_298 ?_
    refine lv_aload_n hx hb dX10_valuePolicy_300 rfl (lv_at hl 0 rfl) ?_
    refine pw_get (C := RX10) (T := TX10) (N := 20) hx hb hts hin10 hown hK hO rfl 1 (by decide) lk_103 rfl rfl dX10_valuePolicy_301 ?_
    refine pw_iconst hx hb dX10_valuePolicy_304 ?_
    refine pw_isub hx hb dX10_valuePolicy_305 ?_
    refine pw_imul hx hb dX10_valuePolicy_306 ?_
    refine pw_asi (((8 * (mN σ - 1) : Nat) : Int)) (by omega) ?_
    refine pw_bipush hx hb dX10_valuePolicy_307 ?_
    refine pw_callVv (As := [.int (iI (((8 * (mN σ - 1) : Nat) : Int))), .int (iI (48))]) (rest := []) ⟨hx, hb, hml, hown, hts⟩ (r_copy l D E r0 (oV th σ so rn (cm : Int)) f g h (8 * (mN σ - 1)) 48 (eP (qm σ π cm) (mN σ)) (by omega) (by omega) (by omega) (num_at (hN (8 * (mN σ - 1)) (by omega)) hpiv)) (cwV 2 hts gX10_valuePolicy_X10_copy rfl rfl rfl (by decide +kernel) ⟨Nat.le_of_ble_eq_true rfl, Nat.le_of_ble_eq_true rfl⟩) hK hO rfl ⟨hO, hf, hg, hh⟩ rfl hl.1 rfl (Nat.le_of_ble_eq_true rfl) dX10_valuePolicy_309 ⟨Nat.zero_le _, Nat.zero_le _⟩ hS (fun q h => by (try dsimp only at h); (try dsimp only); omega) (fun H1 locs1 ⟨f, g, h, ⟨hf, hg, hh⟩, hn1, ho1⟩ hz1 hk1 hS => ?_)
    have hO := hO.k (hk1 _ hO.lt (by (try dsimp only); omega))
    have hU := hU.k (hk1 _ hU.lt (by (try dsimp only); omega))
    have hDn := hDn.k (hk1 _ hDn.lt (by (try dsimp only); omega))
    have hW := hW.k (hk1 _ hW.lt (by (try dsimp only); omega))
    have hCh := hCh.k (hk1 _ hCh.lt (by (try dsimp only); omega))
    obtain ⟨vs, hva0, hvo, hN⟩ := bn_np hN hn1 ho1
    clear hn1 ho1
    have hvc : ∀ c, 52 < c → vs (c) = vs0 c := fun c hq => (hvo _ (by omega)).trans (hvc c hq)
    have h48 : vs (48) = eP (qm σ π cm) (mN σ) := hva0
    have hRA := hRA.o hN6 (by omega) hvo
    clear hva0 hvo
    refine lv_aload_n hx hb dX10_valuePolicy_312 rfl (lv_at hl 0 rfl) ?_
    refine pw_get (C := RX10) (T := TX10) (N := 20) hx hb hts hin10 hown hK hO rfl 1 (by decide) lk_103 rfl rfl dX10_valuePolicy_313 ?_
    refine pw_iconst hx hb dX10_valuePolicy_316 ?_
    refine pw_isub hx hb dX10_valuePolicy_317 ?_
    refine lv_istore_n (lv' := [(1, .int (iI (((mN σ : Int)) - (1)))), (0, .ref (r0))]) hx hb dX10_valuePolicy_318 rfl hl (by decide) rfl (fun ls hl => ?_)
    exact loop6 cm hcm1 hcm2 hcm3 (mN σ) vs f g h _ _ _ (Nat.le_refl _) (fun q hq => by omega) hRA h48 hvc hO hU hDn hW hCh hf hg hh hN hS (lv_sub hl [1, 0] rfl)
  have loopK : ∀ (cm : Nat), 0 < cm → cm ≤ 232792560 → (∀ s, s < mN σ → mD σ (4 * s + π s) ∣ cm) → ∀ (kk k : Nat) (vs f g h : Nat → Int) (H : Heap) (locs : List Loc) (ls : Array Slot), k + kk + 1 = mN σ → vs (48) = eP (qm σ π cm) k → RA (qm σ π cm) (mN σ) vs (fun q _ => min k q) → (∀ c, 52 < c → vs (c) = vs0 c) → OA D r0 10 [.int (iI (th)), .int (iI ((mN σ : Int))), .ref (r0 + 1), .ref (r0 + 2), .ref (r0 + 3), .ref (r0 + 4), .int (iI ((mA σ : Int))), .int (iI ((mB σ : Int))), .int (iI (so)), .int (iI (rn)), .ref (r0 + 5), .ref (r0 + 6), .ref (r0 + 7), .ref (r0 + 8), .ref (r0 + 9), .ref (r0 + 10), .ref (r0 + 11), .ref (r0 + 12), .ref (r0 + 13), .int (iI ((cm : Int)))] H → IA E (r0 + 2) 24 gU H → IA E (r0 + 3) 24 gD H → IA E (r0 + 4) 144 gW H → IA E (r0 + 6) 6 ch H → IA E (r0 + 8) 5120 f H → IA E (r0 + 9) 80 g H → IA E (r0 + 10) 80 h H → (∀ c, c < 80 → Num f g h c (vs c)) → va_S (fun q => q = r0 ∨ (r0 + 8 ≤ q ∧ q ≤ r0 + 10)) s.heap H locs → lv_has ls 6 [(0, .ref (r0)), (1, .int (iI ((k : Int))))] → W p l e ({ frames := 4, cells := 0, slots := 0, locals := 104 } : Room) s m args below meth c H locs (0) (0) (MQ below (pw_Q rvV (fun _ H => ∃ (cm : Nat) (vs : Nat → Int), OA D r0 10 [.int (iI (th)), .int (iI ((mN σ : Int))), .ref (r0 + 1), .ref (r0 + 2), .ref (r0 + 3), .ref (r0 + 4), .int (iI ((mA σ : Int))), .int (iI ((mB σ : Int))), .int (iI (so)), .int (iI (rn)), .ref (r0 + 5), .ref (r0 + 6), .ref (r0 + 7), .ref (r0 + 8), .ref (r0 + 9), .ref (r0 + 10), .ref (r0 + 11), .ref (r0 + 12), .ref (r0 + 13), .int (iI ((cm : Int)))] H ∧ BN E r0 vs H ∧ (0 < cm ∧ cm ≤ 232792560 ∧ ∀ s, s < mN σ → mD σ (4 * s + π s) ∣ cm) ∧ vs 48 = eP (qm σ π cm) (mN σ) ∧ (∀ s, s < mN σ → vs (42 + s) = eY (qm σ π cm) (mN σ) (mN σ) s) ∧ ∀ c, 52 < c → vs c = vs0 c) (fun q => q = r0 ∨ (r0 + 8 ≤ q ∧ q ≤ r0 + 10))) args s (0) (0) (fun q => q = r0 ∨ (r0 + 8 ≤ q ∧ q ≤ r0 + 10))) (F0 m 215 ls []) := by
    intro cm hcm1 hcm2 hcm3
    have hz := qm_z (cm := cm) hok hrd hπ
    have hRb := qm_b hok hcm2 hπ
    have eb : ∀ k i j, k ≤ 6 → (eE (qm σ π cm) k i j).natAbs ≤ bdW := fun k i j hk => eE_b (by omega) hRb hk i j
    have pb : ∀ k, k ≤ 6 → (eP (qm σ π cm) k).natAbs ≤ bdW := fun k hk => eP_b (by omega) hRb hk
    have yb : ∀ k j q, k ≤ 6 → (eY (qm σ π cm) k j q).natAbs ≤ bdW := fun k j q hk => eY_b (by omega) hRb hk j q
    have pp : ∀ k, k ≤ mN σ → 0 < eP (qm σ π cm) k := fun k hk => det_pos hz k hk
    intro kk
    induction kk with
    | zero =>
      intro k vs f g h H locs ls hk h48 hRA hvc hO hU hDn hW hCh hf hg hh hN hS hl
      refine lv_iload_n hx hb dX10_valuePolicy_215 rfl (lv_at hl 1 rfl) ?_
      refine pw_iconst hx hb dX10_valuePolicy_216 ?_
      refine pw_iadd hx hb dX10_valuePolicy_217 ?_
      refine lv_aload_n hx hb dX10_valuePolicy_218 rfl (lv_at hl 0 rfl) ?_
      refine pw_get (C := RX10) (T := TX10) (N := 20) hx hb hts hin10 hown hK hO rfl 1 (by decide) lk_103 rfl rfl dX10_valuePolicy_219 ?_
      refine pw_icmp_ge (tgt := 297) hx hb dX10_valuePolicy_222 (by decide) (fun c_222 => ?_) (fun c_222 => absurd c_222 (by omega))
      exact k297 cm hcm1 hcm2 hcm3 vs f g h _ _ _ (hRA.to (fun q c hq _ _ => by show min k q = q; omega)) hvc hO hU hDn hW hCh hf hg hh hN hS (lv_sub hl [0] rfl)
    | succ kk ih =>
      intro k vs f g h H locs ls hk
      have loopI : ∀ (ii i : Nat) (vs f g h : Nat → Int) (H : Heap) (locs : List Loc) (ls : Array Slot), i + ii = mN σ → k + 1 ≤ i → vs (48) = eP (qm σ π cm) k → RA (qm σ π cm) (mN σ) vs (lv1 k i 0) → (∀ c, 52 < c → vs (c) = vs0 c) → OA D r0 10 [.int (iI (th)), .int (iI ((mN σ : Int))), .ref (r0 + 1), .ref (r0 + 2), .ref (r0 + 3), .ref (r0 + 4), .int (iI ((mA σ : Int))), .int (iI ((mB σ : Int))), .int (iI (so)), .int (iI (rn)), .ref (r0 + 5), .ref (r0 + 6), .ref (r0 + 7), .ref (r0 + 8), .ref (r0 + 9), .ref (r0 + 10), .ref (r0 + 11), .ref (r0 + 12), .ref (r0 + 13), .int (iI ((cm : Int)))] H → IA E (r0 + 2) 24 gU H → IA E (r0 + 3) 24 gD H → IA E (r0 + 4) 144 gW H → IA E (r0 + 6) 6 ch H → IA E (r0 + 8) 5120 f H → IA E (r0 + 9) 80 g H → IA E (r0 + 10) 80 h H → (∀ c, c < 80 → Num f g h c (vs c)) → va_S (fun q => q = r0 ∨ (r0 + 8 ≤ q ∧ q ≤ r0 + 10)) s.heap H locs → lv_has ls 6 [(0, .ref (r0)), (1, .int (iI ((k : Int)))), (2, .int (iI ((i : Int))))] → W p l e ({ frames := 4, cells := 0, slots := 0, locals := 104 } : Room) s m args below meth c H locs (0) (0) (MQ below (pw_Q rvV (fun _ H => ∃ (cm : Nat) (vs : Nat → Int), OA D r0 10 [.int (iI (th)), .int (iI ((mN σ : Int))), .ref (r0 + 1), .ref (r0 + 2), .ref (r0 + 3), .ref (r0 + 4), .int (iI ((mA σ : Int))), .int (iI ((mB σ : Int))), .int (iI (so)), .int (iI (rn)), .ref (r0 + 5), .ref (r0 + 6), .ref (r0 + 7), .ref (r0 + 8), .ref (r0 + 9), .ref (r0 + 10), .ref (r0 + 11), .ref (r0 + 12), .ref (r0 + 13), .int (iI ((cm : Int)))] H ∧ BN E r0 vs H ∧ (0 < cm ∧ cm ≤ 232792560 ∧ ∀ s, s < mN σ → mD σ (4 * s + π s) ∣ cm) ∧ vs 48 = eP (qm σ π cm) (mN σ) ∧ (∀ s, s < mN σ → vs (42 + s) = eY (qm σ π cm) (mN σ) (mN σ) s) ∧ ∀ c, 52 < c → vs c = vs0 c) (fun q => q = r0 ∨ (r0 + 8 ≤ q ∧ q ≤ r0 + 10))) args s (0) (0) (fun q => q = r0 ∨ (r0 + 8 ≤ q ∧ q ≤ r0 + 10))) (F0 m 229 ls []) := by
        intro ii
        induction ii with
        | zero =>
          intro i vs f g h H locs ls hi hi1 h48 hRA hvc hO hU hDn hW hCh hf hg hh hN hS hl
          have ei : i = mN σ := by omega
          subst ei
          have hpiv : vs (8 * k) = eP (qm σ π cm) (k + 1) := by
            have e0 : lv1 k (mN σ) 0 k k = k := by unfold lv1; rw [if_pos (Nat.le_refl k)]
            have := hRA k k (by omega) (by omega) (by omega)
            rw [cl_lt (by omega), e0] at this
            rw [show 8 * k = 7 * k + k by omega, this, ← eP_s]
          refine lv_iload_n hx hb dX10_valuePolicy_229 rfl (lv_at hl 2 rfl) ?_
          refine lv_aload_n hx hb dX10_valuePolicy_230 rfl (lv_at hl 0 rfl) ?_
          refine pw_get (C := RX10) (T := TX10) (N := 20) hx hb hts hin10 hown hK hO rfl 1 (by decide) lk_103 rfl rfl dX10_valuePolicy_231 ?_
          refine pw_icmp_ge (tgt := 281) hx hb dX10_valuePolicy_234 (by decide) (fun c_234 => ?_) (fun c_234 => absurd c_234 (by omega))
          refine lv_aload_n hx hb dX10_valuePolicy_281 rfl (lv_at hl 0 rfl) ?_
          refine pw_bipush hx hb dX10_valuePolicy_282 ?_
          refine lv_iload_n hx hb dX10_valuePolicy_284 rfl (lv_at hl 1 rfl) ?_
          refine pw_imul hx hb dX10_valuePolicy_285 ?_
          refine pw_asi (((8 * k : Nat) : Int)) (by omega) ?_
          refine pw_bipush hx hb dX10_valuePolicy_286 ?_
          refine pw_callVv (As := [.int (iI (((8 * k : Nat) : Int))), .int (iI (48))]) (rest := []) ⟨hx, hb, hml, hown, hts⟩ (r_copy l D E r0 (oV th σ so rn (cm : Int)) f g h (8 * k) 48 (eP (qm σ π cm) (k + 1)) (by omega) (by omega) (by omega) (num_at (hN (8 * k) (by omega)) hpiv)) (cwV 2 hts gX10_valuePolicy_X10_copy rfl rfl rfl (by decide +kernel) ⟨Nat.le_of_ble_eq_true rfl, Nat.le_of_ble_eq_true rfl⟩) hK hO rfl ⟨hO, hf, hg, hh⟩ rfl hl.1 rfl (Nat.le_of_ble_eq_true rfl) dX10_valuePolicy_288 ⟨Nat.zero_le _, Nat.zero_le _⟩ hS (fun q h => by (try dsimp only at h); (try dsimp only); omega) (fun H1 locs1 ⟨f, g, h, ⟨hf, hg, hh⟩, hn1, ho1⟩ hz1 hk1 hS => ?_)
          have hO := hO.k (hk1 _ hO.lt (by (try dsimp only); omega))
          have hU := hU.k (hk1 _ hU.lt (by (try dsimp only); omega))
          have hDn := hDn.k (hk1 _ hDn.lt (by (try dsimp only); omega))
          have hW := hW.k (hk1 _ hW.lt (by (try dsimp only); omega))
          have hCh := hCh.k (hk1 _ hCh.lt (by (try dsimp only); omega))
          obtain ⟨vs, hva0, hvo, hN⟩ := bn_np hN hn1 ho1
          clear hn1 ho1
          have hvc : ∀ c, 52 < c → vs (c) = vs0 c := fun c hq => (hvo _ (by omega)).trans (hvc c hq)
          have h48 : vs (48) = eP (qm σ π cm) (k + 1) := hva0
          have hRA := hRA.o hN6 (by omega) hvo
          clear hva0 hvo
          refine lv_iinc (v := iI (((k + 1 : Nat) : Int))) (lv' := [(1, .int (iI (((k + 1 : Nat) : Int)))), (0, .ref (r0)), (2, .int (iI ((mN σ : Int))))]) hx hb dX10_valuePolicy_291 hl (k := 1) rfl (by show iI _ + iI _ = _; exact (iI_add _ _).trans (by first | rfl | (congr 1; omega))) (by decide) rfl (fun ls hl => ?_)
          refine lv_goto (tgt := 215) hx hb dX10_valuePolicy_294 (by decide) ?_
          exact ih (k + 1) vs f g h _ _ _ (by omega) h48 (hRA.to (fun q c hq _ _ => by
            unfold lv1
            by_cases e : q ≤ k
            · rw [if_pos e]; omega
            · rw [if_neg e, if_pos hq]; omega)) hvc hO hU hDn hW hCh hf hg hh hN hS (lv_sub hl [1, 0] rfl)
        | succ ii ih2 =>
          intro i vs f g h H locs ls hi hi1
          have loopJ : ∀ (jj j : Nat) (vs f g h : Nat → Int) (H : Heap) (locs : List Loc) (ls : Array Slot), j + jj = mN σ + 1 → k + 1 ≤ j → vs (48) = eP (qm σ π cm) k → RA (qm σ π cm) (mN σ) vs (lv1 k i j) → (∀ c, 52 < c → vs (c) = vs0 c) → OA D r0 10 [.int (iI (th)), .int (iI ((mN σ : Int))), .ref (r0 + 1), .ref (r0 + 2), .ref (r0 + 3), .ref (r0 + 4), .int (iI ((mA σ : Int))), .int (iI ((mB σ : Int))), .int (iI (so)), .int (iI (rn)), .ref (r0 + 5), .ref (r0 + 6), .ref (r0 + 7), .ref (r0 + 8), .ref (r0 + 9), .ref (r0 + 10), .ref (r0 + 11), .ref (r0 + 12), .ref (r0 + 13), .int (iI ((cm : Int)))] H → IA E (r0 + 2) 24 gU H → IA E (r0 + 3) 24 gD H → IA E (r0 + 4) 144 gW H → IA E (r0 + 6) 6 ch H → IA E (r0 + 8) 5120 f H → IA E (r0 + 9) 80 g H → IA E (r0 + 10) 80 h H → (∀ c, c < 80 → Num f g h c (vs c)) → va_S (fun q => q = r0 ∨ (r0 + 8 ≤ q ∧ q ≤ r0 + 10)) s.heap H locs → lv_has ls 6 [(0, .ref (r0)), (1, .int (iI ((k : Int)))), (2, .int (iI ((i : Int)))), (3, .int (iI ((j : Int))))] → W p l e ({ frames := 4, cells := 0, slots := 0, locals := 104 } : Room) s m args below meth c H locs (0) (0) (MQ below (pw_Q rvV (fun _ H => ∃ (cm : Nat) (vs : Nat → Int), OA D r0 10 [.int (iI (th)), .int (iI ((mN σ : Int))), .ref (r0 + 1), .ref (r0 + 2), .ref (r0 + 3), .ref (r0 + 4), .int (iI ((mA σ : Int))), .int (iI ((mB σ : Int))), .int (iI (so)), .int (iI (rn)), .ref (r0 + 5), .ref (r0 + 6), .ref (r0 + 7), .ref (r0 + 8), .ref (r0 + 9), .ref (r0 + 10), .ref (r0 + 11), .ref (r0 + 12), .ref (r0 + 13), .int (iI ((cm : Int)))] H ∧ BN E r0 vs H ∧ (0 < cm ∧ cm ≤ 232792560 ∧ ∀ s, s < mN σ → mD σ (4 * s + π s) ∣ cm) ∧ vs 48 = eP (qm σ π cm) (mN σ) ∧ (∀ s, s < mN σ → vs (42 + s) = eY (qm σ π cm) (mN σ) (mN σ) s) ∧ ∀ c, 52 < c → vs c = vs0 c) (fun q => q = r0 ∨ (r0 + 8 ≤ q ∧ q ≤ r0 + 10))) args s (0) (0) (fun q => q = r0 ∨ (r0 + 8 ≤ q ∧ q ≤ r0 + 10))) (F0 m 241 ls []) := by
            intro jj
            induction jj with
            | zero =>
              intro j vs f g h H locs ls hj hj1 h48 hRA hvc hO hU hDn hW hCh hf hg hh hN hS hl
              have ej : j = mN σ + 1 := by omega
              refine lv_iload_n hx hb dX10_valuePolicy_241 rfl (lv_at hl 3 rfl) ?_
              refine lv_aload_n hx hb dX10_valuePolicy_242 rfl (lv_at hl 0 rfl) ?_
              refine pw_get (C := RX10) (T := TX10) (N := 20) hx hb hts hin10 hown hK hO rfl 1 (by decide) lk_103 rfl rfl dX10_valuePolicy_243 ?_
              refine pw_icmp_gt (tgt := 275) hx hb dX10_valuePolicy_246 (by decide) (fun c_246 => ?_) (fun c_246 => absurd c_246 (by omega))
              refine lv_iinc (v := iI (((i + 1 : Nat) : Int))) (lv' := [(2, .int (iI (((i + 1 : Nat) : Int)))), (0, .ref (r0)), (1, .int (iI ((k : Int)))), (3, .int (iI ((j : Int))))]) hx hb dX10_valuePolicy_275 hl (k := 2) rfl (by show iI _ + iI _ = _; exact (iI_add _ _).trans (by first | rfl | (congr 1; omega))) (by decide) rfl (fun ls hl => ?_)
              refine lv_goto (tgt := 229) hx hb dX10_valuePolicy_278 (by decide) ?_
              exact ih2 (i + 1) vs f g h _ _ _ (by omega) (by omega) h48 (hRA.to (fun q c hq hc hl => by
                unfold lv1 at hl ⊢
                by_cases e : q ≤ k
                · rw [if_pos e, if_pos e]
                · rw [if_neg e] at hl ⊢
                  rw [if_neg e]
                  by_cases e2 : q < i
                  · rw [if_pos e2, if_pos (by omega)]
                  · rw [if_neg e2]
                    by_cases e3 : q = i
                    · rw [if_pos (show q < i + 1 by omega)] at hl ⊢
                      rw [if_pos (by omega)]
                    · rw [if_neg (by omega), if_neg (by omega), if_neg (by omega)])) hvc hO hU hDn hW hCh hf hg hh hN hS (lv_sub hl [1, 2, 0] rfl)
            | succ jj ih3 =>
              intro j vs f g h H locs ls hj hj1 h48 hRA hvc hO hU hDn hW hCh hf hg hh hN hS hl
              have hclj := cl_le hN6 (show j ≤ mN σ by omega)
              have l0 : lv1 k i j k k = k := by unfold lv1; rw [if_pos (Nat.le_refl k)]
              have l1 : lv1 k i j k j = k := by unfold lv1; rw [if_pos (Nat.le_refl k)]
              have l2 : lv1 k i j i j = k := by unfold lv1; rw [if_neg (by omega), if_neg (by omega), if_neg (by omega)]
              have l3 : lv1 k i j i k = k := by unfold lv1; rw [if_neg (by omega), if_neg (by omega), if_neg (by omega)]
              have e1 : vs (8 * k) = eE (qm σ π cm) k k k := by
                have := hRA k k (by omega) (by omega) (by omega)
                rw [cl_lt (by omega), l0] at this
                rw [show 8 * k = 7 * k + k by omega]; exact this
              have e2 : vs (7 * i + cl (mN σ) j) = eE (qm σ π cm) k i j := by
                have := hRA i j (by omega) (by omega) (by omega)
                rw [l2] at this; exact this
              have e3 : vs (7 * i + k) = eE (qm σ π cm) k i k := by
                have := hRA i k (by omega) (by omega) (by omega)
                rw [cl_lt (by omega), l3] at this; exact this
              have e4 : vs (7 * k + cl (mN σ) j) = eE (qm σ π cm) k k j := by
                have := hRA k j (by omega) (by omega) (by omega)
                rw [l1] at this; exact this
              have hck : cl (mN σ) j ≠ k := fun e => by
                have := cl_inj hN6 (show j ≤ mN σ by omega) (show k ≤ mN σ by omega) (by rw [e, cl_lt (by omega)])
                omega
              have hnx : eE (qm σ π cm) k k k * eE (qm σ π cm) k i j - eE (qm σ π cm) k i k * eE (qm σ π cm) k k j = eE (qm σ π cm) (k + 1) i j * eP (qm σ π cm) k := by
                have := eE_next hz (show k + 1 ≤ mN σ by omega) i j
                rw [eP_s] at this
                rw [Int.mul_comm (eE (qm σ π cm) (k + 1) i j)]
                omega
              refine lv_iload_n hx hb dX10_valuePolicy_241 rfl (lv_at hl 3 rfl) ?_
              refine lv_aload_n hx hb dX10_valuePolicy_242 rfl (lv_at hl 0 rfl) ?_
              refine pw_get (C := RX10) (T := TX10) (N := 20) hx hb hts hin10 hown hK hO rfl 1 (by decide) lk_103 rfl rfl dX10_valuePolicy_243 ?_
              refine pw_icmp_gt (tgt := 275) hx hb dX10_valuePolicy_246 (by decide) (fun c_246 => absurd c_246 (by omega)) (fun c_246 => ?_)
              refine lv_aload_n hx hb dX10_valuePolicy_249 rfl (lv_at hl 0 rfl) ?_
              refine lv_iload_n hx hb dX10_valuePolicy_250 rfl (lv_at hl 1 rfl) ?_
              refine lv_iload_n hx hb dX10_valuePolicy_251 rfl (lv_at hl 2 rfl) ?_
              refine lv_iload_n hx hb dX10_valuePolicy_252 rfl (lv_at hl 3 rfl) ?_
              refine lv_aload_n hx hb dX10_valuePolicy_253 rfl (lv_at hl 0 rfl) ?_
              refine pw_get (C := RX10) (T := TX10) (N := 20) hx hb hts hin10 hown hK hO rfl 1 (by decide) lk_103 rfl rfl dX10_valuePolicy_254 ?_
              refine pw_icmp_ne (tgt := 265) hx hb dX10_valuePolicy_257 (by decide) (fun c_257 => ?_) (fun c_257 => ?_)
              · refine lv_iload_n hx hb dX10_valuePolicy_265 rfl (lv_at hl 3 rfl) ?_
                refine pw_asi (((cl (mN σ) j : Nat) : Int)) (by rw [cl_lt (by omega)]) ?_
                refine pw_callVv (As := [.int (iI ((k : Int))), .int (iI ((i : Int))), .int (iI (((cl (mN σ) j : Nat) : Int)))]) (rest := []) ⟨hx, hb, hml, hown, hts⟩ (r_putRight l D E r0 k i (cl (mN σ) j) (oV th σ so rn (cm : Int)) vs _ _ _ _ _ _ (by omega) (by omega) hclj hck e1 e2 e3 e4 h48 (pp k (by omega)) hnx (eb _ _ _ (by omega)) (eb _ _ _ (by omega)) (eb _ _ _ (by omega)) (eb _ _ _ (by omega)) (pb _ (by omega))) (cwV 3 hts gX10_valuePolicy_X10_putRight rfl rfl rfl (by decide +kernel) ⟨Nat.le_of_ble_eq_true rfl, Nat.le_of_ble_eq_true rfl⟩) hK hO rfl ⟨hO, f, g, h, ⟨hf, hg, hh⟩, hN⟩ rfl hl.1 rfl (Nat.le_of_ble_eq_true rfl) dX10_valuePolicy_266 ⟨Nat.zero_le _, Nat.zero_le _⟩ hS (fun q h => by (try dsimp only at h); (try dsimp only); omega) (fun H1 locs1 ⟨vs1, ⟨f, g, h, ⟨hf, hg, hh⟩, hN⟩, hnew, hvo⟩ hz1 hk1 hS => ?_)
                have hO := hO.k (hk1 _ hO.lt (by (try dsimp only); omega))
                have hU := hU.k (hk1 _ hU.lt (by (try dsimp only); omega))
                have hDn := hDn.k (hk1 _ hDn.lt (by (try dsimp only); omega))
                have hW := hW.k (hk1 _ hW.lt (by (try dsimp only); omega))
                have hCh := hCh.k (hk1 _ hCh.lt (by (try dsimp only); omega))
                have hRA2 := hRA.up hN6 (by omega) (by omega) hnew hvo
                have h482 : vs1 (48) = _ := (hvo 48 (by omega) (by omega)).trans h48
                have hvc2 : ∀ c, 52 < c → vs1 (c) = vs0 c := fun c hc => (hvo c (by omega) (by omega)).trans (hvc c hc)
                refine lv_iinc (v := iI (((j + 1 : Nat) : Int))) (lv' := [(3, .int (iI (((j + 1 : Nat) : Int)))), (0, .ref (r0)), (1, .int (iI ((k : Int)))), (2, .int (iI ((i : Int))))]) hx hb dX10_valuePolicy_269 hl (k := 3) rfl (by show iI _ + iI _ = _; exact (iI_add _ _).trans (by first | rfl | (congr 1; omega))) (by decide) rfl (fun ls hl => ?_)
                refine lv_goto (tgt := 241) hx hb dX10_valuePolicy_272 (by decide) ?_
                exact ih3 (j + 1) vs1 f g h _ _ _ (by omega) (by omega) h482 (hRA2.to (fun q c hq hc hl => by
                  unfold lv1 at hl ⊢
                  by_cases e : q ≤ k
                  · rw [if_pos e, if_pos e, if_neg (by omega)]
                  · rw [if_neg e] at hl
                    rw [if_neg e, if_neg e]
                    by_cases e2 : q < i
                    · rw [if_pos e2, if_pos e2, if_neg (by omega)]
                    · rw [if_neg e2] at hl
                      rw [if_neg e2, if_neg e2]
                      by_cases e3 : q = i ∧ c = j
                      · rw [if_pos e3, if_pos (by omega)]
                      · rw [if_neg e3]
                        by_cases e4 : q = i ∧ k + 1 ≤ c ∧ c < j
                        · rw [if_pos e4, if_pos (by omega)]
                        · rw [if_neg e4, if_neg (by omega)])) hvc2 hO hU hDn hW hCh hf hg hh hN hS (lv_sub hl [1, 2, 3, 0] rfl)
              · refine pw_bipush hx hb dX10_valuePolicy_260 ?_
                refine pw_asi (((cl (mN σ) j : Nat) : Int)) (by rw [show j = mN σ by omega, cl_N]; rfl) ?_
                refine lv_goto (tgt := 266) hx hb dX10_valuePolicy_262 (by decide) ?_
                refine pw_callVv (As := [.int (iI ((k : Int))), .int (iI ((i : Int))), .int (iI (((cl (mN σ) j : Nat) : Int)))]) (rest := []) ⟨hx, hb, hml, hown, hts⟩ (r_putRight l D E r0 k i (cl (mN σ) j) (oV th σ so rn (cm : Int)) vs _ _ _ _ _ _ (by omega) (by omega) hclj hck e1 e2 e3 e4 h48 (pp k (by omega)) hnx (eb _ _ _ (by omega)) (eb _ _ _ (by omega)) (eb _ _ _ (by omega)) (eb _ _ _ (by omega)) (pb _ (by omega))) (cwV 3 hts gX10_valuePolicy_X10_putRight rfl rfl rfl (by decide +kernel) ⟨Nat.le_of_ble_eq_true rfl, Nat.le_of_ble_eq_true rfl⟩) hK hO rfl ⟨hO, f, g, h, ⟨hf, hg, hh⟩, hN⟩ rfl hl.1 rfl (Nat.le_of_ble_eq_true rfl) dX10_valuePolicy_266 ⟨Nat.zero_le _, Nat.zero_le _⟩ hS (fun q h => by (try dsimp only at h); (try dsimp only); omega) (fun H1 locs1 ⟨vs1, ⟨f, g, h, ⟨hf, hg, hh⟩, hN⟩, hnew, hvo⟩ hz1 hk1 hS => ?_)
                have hO := hO.k (hk1 _ hO.lt (by (try dsimp only); omega))
                have hU := hU.k (hk1 _ hU.lt (by (try dsimp only); omega))
                have hDn := hDn.k (hk1 _ hDn.lt (by (try dsimp only); omega))
                have hW := hW.k (hk1 _ hW.lt (by (try dsimp only); omega))
                have hCh := hCh.k (hk1 _ hCh.lt (by (try dsimp only); omega))
                have hRA2 := hRA.up hN6 (by omega) (by omega) hnew hvo
                have h482 : vs1 (48) = _ := (hvo 48 (by omega) (by omega)).trans h48
                have hvc2 : ∀ c, 52 < c → vs1 (c) = vs0 c := fun c hc => (hvo c (by omega) (by omega)).trans (hvc c hc)
                refine lv_iinc (v := iI (((j + 1 : Nat) : Int))) (lv' := [(3, .int (iI (((j + 1 : Nat) : Int)))), (0, .ref (r0)), (1, .int (iI ((k : Int)))), (2, .int (iI ((i : Int))))]) hx hb dX10_valuePolicy_269 hl (k := 3) rfl (by show iI _ + iI _ = _; exact (iI_add _ _).trans (by first | rfl | (congr 1; omega))) (by decide) rfl (fun ls hl => ?_)
                refine lv_goto (tgt := 241) hx hb dX10_valuePolicy_272 (by decide) ?_
                exact ih3 (j + 1) vs1 f g h _ _ _ (by omega) (by omega) h482 (hRA2.to (fun q c hq hc hl => by
                  unfold lv1 at hl ⊢
                  by_cases e : q ≤ k
                  · rw [if_pos e, if_pos e, if_neg (by omega)]
                  · rw [if_neg e] at hl
                    rw [if_neg e, if_neg e]
                    by_cases e2 : q < i
                    · rw [if_pos e2, if_pos e2, if_neg (by omega)]
                    · rw [if_neg e2] at hl
                      rw [if_neg e2, if_neg e2]
                      by_cases e3 : q = i ∧ c = j
                      · rw [if_pos e3, if_pos (by omega)]
                      · rw [if_neg e3]
                        by_cases e4 : q = i ∧ k + 1 ≤ c ∧ c < j
                        · rw [if_pos e4, if_pos (by omega)]
                        · rw [if_neg e4, if_neg (by omega)])) hvc2 hO hU hDn hW hCh hf hg hh hN hS (lv_sub hl [1, 2, 3, 0] rfl)
          intro h48 hRA hvc hO hU hDn hW hCh hf hg hh hN hS hl
          refine lv_iload_n hx hb dX10_valuePolicy_229 rfl (lv_at hl 2 rfl) ?_
          refine lv_aload_n hx hb dX10_valuePolicy_230 rfl (lv_at hl 0 rfl) ?_
          refine pw_get (C := RX10) (T := TX10) (N := 20) hx hb hts hin10 hown hK hO rfl 1 (by decide) lk_103 rfl rfl dX10_valuePolicy_231 ?_
          refine pw_icmp_ge (tgt := 281) hx hb dX10_valuePolicy_234 (by decide) (fun c_234 => absurd c_234 (by omega)) (fun c_234 => ?_)
          refine lv_iload_n hx hb dX10_valuePolicy_237 rfl (lv_at hl 1 rfl) ?_
          refine pw_iconst hx hb dX10_valuePolicy_238 ?_
          refine pw_iadd hx hb dX10_valuePolicy_239 ?_
          refine pw_asi (((k + 1 : Nat) : Int)) (by omega) ?_
          refine lv_istore_n (lv' := [(3, .int (iI (((k + 1 : Nat) : Int)))), (0, .ref (r0)), (1, .int (iI ((k : Int)))), (2, .int (iI ((i : Int))))]) hx hb dX10_valuePolicy_240 rfl hl (by decide) rfl (fun ls hl => ?_)
          exact loopJ (mN σ - k) (k + 1) vs f g h _ _ _ (by omega) (Nat.le_refl _) h48 (hRA.to (fun q c _ _ _ => (lv1_a k i q c).symm)) hvc hO hU hDn hW hCh hf hg hh hN hS (lv_sub hl [1, 2, 3, 0] rfl)
      intro h48 hRA hvc hO hU hDn hW hCh hf hg hh hN hS hl
      refine lv_iload_n hx hb dX10_valuePolicy_215 rfl (lv_at hl 1 rfl) ?_
      refine pw_iconst hx hb dX10_valuePolicy_216 ?_
      refine pw_iadd hx hb dX10_valuePolicy_217 ?_
      refine lv_aload_n hx hb dX10_valuePolicy_218 rfl (lv_at hl 0 rfl) ?_
      refine pw_get (C := RX10) (T := TX10) (N := 20) hx hb hts hin10 hown hK hO rfl 1 (by decide) lk_103 rfl rfl dX10_valuePolicy_219 ?_
      refine pw_icmp_ge (tgt := 297) hx hb dX10_valuePolicy_222 (by decide) (fun c_222 => absurd c_222 (by omega)) (fun c_222 => ?_)
      refine lv_iload_n hx hb dX10_valuePolicy_225 rfl (lv_at hl 1 rfl) ?_
      refine pw_iconst hx hb dX10_valuePolicy_226 ?_
      refine pw_iadd hx hb dX10_valuePolicy_227 ?_
      refine pw_asi (((k + 1 : Nat) : Int)) (by omega) ?_
      refine lv_istore_n (lv' := [(2, .int (iI (((k + 1 : Nat) : Int)))), (0, .ref (r0)), (1, .int (iI ((k : Int))))]) hx hb dX10_valuePolicy_228 rfl hl (by decide) rfl (fun ls hl => ?_)
      exact loopI (mN σ - (k + 1)) (k + 1) vs f g h _ _ _ (by omega) (Nat.le_refl _) h48 (hRA.to (fun q c hq _ _ => by
        unfold lv1
        by_cases e : q ≤ k
        · rw [if_pos e]; omega
        · rw [if_neg e, if_neg (by omega), if_neg (by omega)]; omega)) hvc hO hU hDn hW hCh hf hg hh hN hS (lv_sub hl [1, 2, 0] rfl)
  have loopS : ∀ (cm : Nat), 0 < cm → cm ≤ 232792560 → (∀ s, s < mN σ → mD σ (4 * s + π s) ∣ cm) → ∀ (kk n : Nat) (vs f g h : Nat → Int) (H : Heap) (locs : List Loc) (ls : Array Slot), n + kk = mN σ → (∀ q c, q < n ∧ c ≤ mN σ → vs (7 * q + cl (mN σ) c) = (qm σ π cm) q c) → (∀ c, 52 < c → vs (c) = vs0 c) → OA D r0 10 [.int (iI (th)), .int (iI ((mN σ : Int))), .ref (r0 + 1), .ref (r0 + 2), .ref (r0 + 3), .ref (r0 + 4), .int (iI ((mA σ : Int))), .int (iI ((mB σ : Int))), .int (iI (so)), .int (iI (rn)), .ref (r0 + 5), .ref (r0 + 6), .ref (r0 + 7), .ref (r0 + 8), .ref (r0 + 9), .ref (r0 + 10), .ref (r0 + 11), .ref (r0 + 12), .ref (r0 + 13), .int (iI ((cm : Int)))] H → IA E (r0 + 2) 24 gU H → IA E (r0 + 3) 24 gD H → IA E (r0 + 4) 144 gW H → IA E (r0 + 6) 6 ch H → IA E (r0 + 8) 5120 f H → IA E (r0 + 9) 80 g H → IA E (r0 + 10) 80 h H → (∀ c, c < 80 → Num f g h c (vs c)) → va_S (fun q => q = r0 ∨ (r0 + 8 ≤ q ∧ q ≤ r0 + 10)) s.heap H locs → lv_has ls 6 [(0, .ref (r0)), (1, .int (iI ((n : Int))))] → W p l e ({ frames := 4, cells := 0, slots := 0, locals := 104 } : Room) s m args below meth c H locs (0) (0) (MQ below (pw_Q rvV (fun _ H => ∃ (cm : Nat) (vs : Nat → Int), OA D r0 10 [.int (iI (th)), .int (iI ((mN σ : Int))), .ref (r0 + 1), .ref (r0 + 2), .ref (r0 + 3), .ref (r0 + 4), .int (iI ((mA σ : Int))), .int (iI ((mB σ : Int))), .int (iI (so)), .int (iI (rn)), .ref (r0 + 5), .ref (r0 + 6), .ref (r0 + 7), .ref (r0 + 8), .ref (r0 + 9), .ref (r0 + 10), .ref (r0 + 11), .ref (r0 + 12), .ref (r0 + 13), .int (iI ((cm : Int)))] H ∧ BN E r0 vs H ∧ (0 < cm ∧ cm ≤ 232792560 ∧ ∀ s, s < mN σ → mD σ (4 * s + π s) ∣ cm) ∧ vs 48 = eP (qm σ π cm) (mN σ) ∧ (∀ s, s < mN σ → vs (42 + s) = eY (qm σ π cm) (mN σ) (mN σ) s) ∧ ∀ c, 52 < c → vs c = vs0 c) (fun q => q = r0 ∨ (r0 + 8 ≤ q ∧ q ≤ r0 + 10))) args s (0) (0) (fun q => q = r0 ∨ (r0 + 8 ≤ q ∧ q ≤ r0 + 10))) (F0 m 58 ls []) := by
    intro cm hcm1 hcm2 hcm3 kk
    induction kk with
    | zero =>
      intro n vs f g h H locs ls hn hrow hvc hO hU hDn hW hCh hf hg hh hN hS hl
      refine lv_iload_n hx hb dX10_valuePolicy_58 rfl (lv_at hl 1 rfl) ?_
      refine lv_aload_n hx hb dX10_valuePolicy_59 rfl (lv_at hl 0 rfl) ?_
      refine pw_get (C := RX10) (T := TX10) (N := 20) hx hb hts hin10 hown hK hO rfl 1 (by decide) lk_103 rfl rfl dX10_valuePolicy_60 ?_
      refine pw_icmp_ge (tgt := 206) hx hb dX10_valuePolicy_63 (by decide) (fun c_63 => ?_) (fun c_63 => absurd c_63 (by omega))
      refine lv_aload_n hx hb dX10_valuePolicy_206 rfl (lv_at hl 0 rfl) ?_
      refine pw_bipush hx hb dX10_valuePolicy_207 ?_
      refine pw_lconst (z := 1) hx hb dX10_valuePolicy_209 ?_
      refine pw_callVv (As := [.int (iI (48)), .long (lI (1))]) (rest := []) ⟨hx, hb, hml, hown, hts⟩ (r_setSmall l D E r0 (oV th σ so rn (cm : Int)) f g h 48 1 (by omega) (by omega) (by omega)) (cwV 2 hts gX10_valuePolicy_X10_setSmall rfl rfl rfl (by decide +kernel) ⟨Nat.le_of_ble_eq_true rfl, Nat.le_of_ble_eq_true rfl⟩) hK hO rfl ⟨hO, hf, hg, hh⟩ rfl hl.1 rfl (Nat.le_of_ble_eq_true rfl) dX10_valuePolicy_210 ⟨Nat.zero_le _, Nat.zero_le _⟩ hS (fun q h => by (try dsimp only at h); (try dsimp only); omega) (fun H1 locs1 ⟨f, g, h, ⟨hf, hg, hh⟩, hn1, ho1⟩ hz1 hk1 hS => ?_)
      have hO := hO.k (hk1 _ hO.lt (by (try dsimp only); omega))
      have hU := hU.k (hk1 _ hU.lt (by (try dsimp only); omega))
      have hDn := hDn.k (hk1 _ hDn.lt (by (try dsimp only); omega))
      have hW := hW.k (hk1 _ hW.lt (by (try dsimp only); omega))
      have hCh := hCh.k (hk1 _ hCh.lt (by (try dsimp only); omega))
      obtain ⟨vs, hva0, hvo, hN⟩ := bn_np hN hn1 ho1
      clear hn1 ho1
      have hrow : ∀ q c, q < n ∧ c ≤ mN σ → vs (7 * q + cl (mN σ) c) = (qm σ π cm) q c := fun q c hq => by have := cl_le hN6 hq.2; exact (hvo _ (by omega)).trans (hrow q c hq)
      have hvc : ∀ c, 52 < c → vs (c) = vs0 c := fun c hq => (hvo _ (by omega)).trans (hvc c hq)
      have h48 : vs (48) = 1 := hva0
      clear hva0 hvo
      refine pw_iconst hx hb dX10_valuePolicy_213 ?_
      refine pw_asi (((0 : Nat) : Int)) rfl ?_
      refine lv_istore_n (lv' := [(1, .int (iI (((0 : Nat) : Int)))), (0, .ref (r0))]) hx hb dX10_valuePolicy_214 rfl hl (by decide) rfl (fun ls hl => ?_)
      exact loopK cm hcm1 hcm2 hcm3 (mN σ - 1) 0 vs f g h _ _ _ (by omega) h48 (fun q c hq hc _ => by rw [hrow q c ⟨by omega, hc⟩]; show _ = eE _ (min 0 q) q c; rw [Nat.zero_min, eE_0]) hvc hO hU hDn hW hCh hf hg hh hN hS (lv_sub hl [1, 0] rfl)
    | succ kk ih =>
      intro n vs f g h H locs ls hn
      have hpn := hπ n (by omega)
      have hcn := hC4 n (by omega)
      have hmn := hm n (π n) (by omega) hpn
      obtain ⟨u1, u2, d1, d2, ww⟩ := hok.2.2.1 (4 * n + π n) (by omega)
      have hTb := mT_b hok (show (4 * n + π n) < 24 by omega)
      have hB20 := hok.2.2.2.2.1
      have hAB := hok.2.2.2.1
      have loopT : ∀ (jj t : Nat) (vs f g h : Nat → Int) (H : Heap) (locs : List Loc) (ls : Array Slot), t + jj = mN σ → (∀ q c, q < n ∧ c ≤ mN σ → vs (7 * q + cl (mN σ) c) = (qm σ π cm) q c) → (∀ c, c < t → vs (7 * n + c) = (qm σ π cm) n c) → (∀ c, 52 < c → vs (c) = vs0 c) → OA D r0 10 [.int (iI (th)), .int (iI ((mN σ : Int))), .ref (r0 + 1), .ref (r0 + 2), .ref (r0 + 3), .ref (r0 + 4), .int (iI ((mA σ : Int))), .int (iI ((mB σ : Int))), .int (iI (so)), .int (iI (rn)), .ref (r0 + 5), .ref (r0 + 6), .ref (r0 + 7), .ref (r0 + 8), .ref (r0 + 9), .ref (r0 + 10), .ref (r0 + 11), .ref (r0 + 12), .ref (r0 + 13), .int (iI ((cm : Int)))] H → IA E (r0 + 2) 24 gU H → IA E (r0 + 3) 24 gD H → IA E (r0 + 4) 144 gW H → IA E (r0 + 6) 6 ch H → IA E (r0 + 8) 5120 f H → IA E (r0 + 9) 80 g H → IA E (r0 + 10) 80 h H → (∀ c, c < 80 → Num f g h c (vs c)) → va_S (fun q => q = r0 ∨ (r0 + 8 ≤ q ∧ q ≤ r0 + 10)) s.heap H locs → lv_has ls 6 [(0, .ref (r0)), (1, .int (iI ((n : Int)))), (2, .int (iI (((4 * n + π n) : Int)))), (3, .int (iI ((mT σ (4 * n + π n) : Int)))), (4, .int (iI ((t : Int))))] → W p l e ({ frames := 4, cells := 0, slots := 0, locals := 104 } : Room) s m args below meth c H locs (0) (0) (MQ below (pw_Q rvV (fun _ H => ∃ (cm : Nat) (vs : Nat → Int), OA D r0 10 [.int (iI (th)), .int (iI ((mN σ : Int))), .ref (r0 + 1), .ref (r0 + 2), .ref (r0 + 3), .ref (r0 + 4), .int (iI ((mA σ : Int))), .int (iI ((mB σ : Int))), .int (iI (so)), .int (iI (rn)), .ref (r0 + 5), .ref (r0 + 6), .ref (r0 + 7), .ref (r0 + 8), .ref (r0 + 9), .ref (r0 + 10), .ref (r0 + 11), .ref (r0 + 12), .ref (r0 + 13), .int (iI ((cm : Int)))] H ∧ BN E r0 vs H ∧ (0 < cm ∧ cm ≤ 232792560 ∧ ∀ s, s < mN σ → mD σ (4 * s + π s) ∣ cm) ∧ vs 48 = eP (qm σ π cm) (mN σ) ∧ (∀ s, s < mN σ → vs (42 + s) = eY (qm σ π cm) (mN σ) (mN σ) s) ∧ ∀ c, 52 < c → vs c = vs0 c) (fun q => q = r0 ∨ (r0 + 8 ≤ q ∧ q ≤ r0 + 10))) args s (0) (0) (fun q => q = r0 ∨ (r0 + 8 ≤ q ∧ q ≤ r0 + 10))) (F0 m 86 ls []) := by
        intro jj
        induction jj with
        | zero =>
          intro t vs f g h H locs ls ht hrow hcur hvc hO hU hDn hW hCh hf hg hh hN hS hl
          have et : t = mN σ := by omega
          subst et
          have hbt : mB σ * mT σ (4 * n + π n) ≤ 20 * 120 := Nat.mul_le_mul hB20 hTb
          have hbu : ((mB σ : Int) * (mT σ (4 * n + π n) : Int) * mU σ (4 * n + π n)).natAbs ≤ 2400 * 1000 := by rw [Int.natAbs_mul, Int.natAbs_mul]; exact Nat.mul_le_mul hbt (show (mU σ (4 * n + π n)).natAbs ≤ 1000 by omega)
          have hcd : cm / mD σ (4 * n + π n) ≤ cm := Nat.div_le_self _ _
          have hcd2 : 0 ≤ ((cm / mD σ (4 * n + π n) : Nat) : Int) := Int.natCast_nonneg _
          have hcd3 : ((cm / mD σ (4 * n + π n) : Nat) : Int) ≤ 232792560 := Int.le_trans (Int.ofNat_le.mpr hcd) (by omega)
          refine lv_iload hx hb dX10_valuePolicy_86 (lv_at hl 4 rfl) ?_
          refine lv_aload_n hx hb dX10_valuePolicy_88 rfl (lv_at hl 0 rfl) ?_
          refine pw_get (C := RX10) (T := TX10) (N := 20) hx hb hts hin10 hown hK hO rfl 1 (by decide) lk_103 rfl rfl dX10_valuePolicy_89 ?_
          refine pw_icmp_ge (tgt := 151) hx hb dX10_valuePolicy_92 (by decide) (fun c_92 => ?_) (fun c_92 => absurd c_92 (by omega))
          refine lv_aload_n hx hb dX10_valuePolicy_151 rfl (lv_at hl 0 rfl) ?_
          refine pw_bipush hx hb dX10_valuePolicy_152 ?_
          refine lv_iload_n hx hb dX10_valuePolicy_154 rfl (lv_at hl 1 rfl) ?_
          refine pw_imul hx hb dX10_valuePolicy_155 ?_
          refine pw_bipush hx hb dX10_valuePolicy_156 ?_
          refine pw_iadd hx hb dX10_valuePolicy_158 ?_
          refine pw_asi (((7 * n + 6 : Nat) : Int)) (by omega) ?_
          refine lv_aload_n hx hb dX10_valuePolicy_159 rfl (lv_at hl 0 rfl) ?_
          refine pw_get (C := RX10) (T := TX10) (N := 20) hx hb hts hin10 hown hK hO rfl 7 (by decide) lk_26 rfl rfl dX10_valuePolicy_160 ?_
          refine pw_i2l hx hb dX10_valuePolicy_163 ?_
          refine lv_iload_n hx hb dX10_valuePolicy_164 rfl (lv_at hl 3 rfl) ?_
          refine pw_i2l hx hb dX10_valuePolicy_165 ?_
          refine pw_lmul hx hb dX10_valuePolicy_166 ?_
          refine lv_aload_n hx hb dX10_valuePolicy_167 rfl (lv_at hl 0 rfl) ?_
          refine pw_get (C := RX10) (T := TX10) (N := 20) hx hb hts hin10 hown hK hO rfl 3 (by decide) lk_13 rfl rfl dX10_valuePolicy_168 ?_
          refine lv_iload_n hx hb dX10_valuePolicy_171 rfl (lv_at hl 2 rfl) ?_
          refine pw_iald hx hb hK hU ((4 * n + π n)) rfl (by omega) (by omega) dX10_valuePolicy_172 ?_
          refine pw_asi (mU σ (4 * n + π n)) hmn.1 ?_
          refine pw_i2l hx hb dX10_valuePolicy_173 ?_
          refine pw_lmul hx hb dX10_valuePolicy_174 ?_
          refine pw_callVv (As := [.int (iI (((7 * n + 6 : Nat) : Int))), .long (lI ((((mB σ : Int)) * ((mT σ (4 * n + π n) : Int))) * (mU σ (4 * n + π n))))]) (rest := []) ⟨hx, hb, hml, hown, hts⟩ (r_setSmall l D E r0 (oV th σ so rn (cm : Int)) f g h (7 * n + 6) ((mB σ : Int) * (mT σ (4 * n + π n) : Int) * mU σ (4 * n + π n)) (by omega) (by omega) (by omega)) (cwV 2 hts gX10_valuePolicy_X10_setSmall rfl rfl rfl (by decide +kernel) ⟨Nat.le_of_ble_eq_true rfl, Nat.le_of_ble_eq_true rfl⟩) hK hO rfl ⟨hO, hf, hg, hh⟩ rfl hl.1 rfl (Nat.le_of_ble_eq_true rfl) dX10_valuePolicy_175 ⟨Nat.zero_le _, Nat.zero_le _⟩ hS (fun q h => by (try dsimp only at h); (try dsimp only); omega) (fun H1 locs1 ⟨f, g, h, ⟨hf, hg, hh⟩, hn1, ho1⟩ hz1 hk1 hS => ?_)
          have hO := hO.k (hk1 _ hO.lt (by (try dsimp only); omega))
          have hU := hU.k (hk1 _ hU.lt (by (try dsimp only); omega))
          have hDn := hDn.k (hk1 _ hDn.lt (by (try dsimp only); omega))
          have hW := hW.k (hk1 _ hW.lt (by (try dsimp only); omega))
          have hCh := hCh.k (hk1 _ hCh.lt (by (try dsimp only); omega))
          obtain ⟨vs, hva0, hvo, hN⟩ := bn_np hN hn1 ho1
          clear hn1 ho1
          have hrow : ∀ q c, q < n ∧ c ≤ mN σ → vs (7 * q + cl (mN σ) c) = (qm σ π cm) q c := fun q c hq => by have := cl_le hN6 hq.2; exact (hvo _ (by omega)).trans (hrow q c hq)
          have hcur : ∀ c, c < mN σ → vs (7 * n + c) = (qm σ π cm) n c := fun c hq => (hvo _ (by omega)).trans (hcur c hq)
          have hvc : ∀ c, 52 < c → vs (c) = vs0 c := fun c hq => (hvo _ (by omega)).trans (hvc c hq)
          have h6 : vs (7 * n + 6) = (mB σ : Int) * (mT σ (4 * n + π n) : Int) * mU σ (4 * n + π n) := hva0
          clear hva0 hvo
          refine lv_aload_n hx hb dX10_valuePolicy_178 rfl (lv_at hl 0 rfl) ?_
          refine pw_bipush hx hb dX10_valuePolicy_179 ?_
          refine lv_iload_n hx hb dX10_valuePolicy_181 rfl (lv_at hl 1 rfl) ?_
          refine pw_imul hx hb dX10_valuePolicy_182 ?_
          refine pw_bipush hx hb dX10_valuePolicy_183 ?_
          refine pw_iadd hx hb dX10_valuePolicy_185 ?_
          refine pw_asi (((7 * n + 6 : Nat) : Int)) (by omega) ?_
          refine lv_aload_n hx hb dX10_valuePolicy_186 rfl (lv_at hl 0 rfl) ?_
          refine pw_get (C := RX10) (T := TX10) (N := 20) hx hb hts hin10 hown hK hO rfl 19 (by decide) lk_138 rfl rfl dX10_valuePolicy_187 ?_
          refine lv_aload_n hx hb dX10_valuePolicy_190 rfl (lv_at hl 0 rfl) ?_
          refine pw_get (C := RX10) (T := TX10) (N := 20) hx hb hts hin10 hown hK hO rfl 4 (by decide) lk_16 rfl rfl dX10_valuePolicy_191 ?_
          refine lv_iload_n hx hb dX10_valuePolicy_194 rfl (lv_at hl 2 rfl) ?_
          refine pw_iald hx hb hK hDn ((4 * n + π n)) rfl (by omega) (by omega) dX10_valuePolicy_195 ?_
          refine pw_asi ((mD σ (4 * n + π n) : Int)) hmn.2.1 ?_
          refine pw_idiv hx hb dX10_valuePolicy_196 (by omega) ?_
          refine pw_asi (((cm / mD σ (4 * n + π n) : Nat) : Int)) rfl ?_
          refine pw_callVv (As := [.int (iI (((7 * n + 6 : Nat) : Int))), .int (iI (((cm / mD σ (4 * n + π n) : Nat) : Int)))]) (rest := []) ⟨hx, hb, hml, hown, hts⟩ (r_times l D E r0 (oV th σ so rn (cm : Int)) f g h (7 * n + 6) ((mB σ : Int) * (mT σ (4 * n + π n) : Int) * mU σ (4 * n + π n)) ((cm / mD σ (4 * n + π n) : Nat) : Int) (by omega) (by omega) (by omega) (num_at (hN (7 * n + 6) (by omega)) h6) (by rw [← qm_N (cm := cm) (by omega)]; exact Nat.lt_of_le_of_lt (qm_b hok hcm2 hπ n (mN σ)) (by decide +kernel))) (cwV 2 hts gX10_valuePolicy_X10_times rfl rfl rfl (by decide +kernel) ⟨Nat.le_of_ble_eq_true rfl, Nat.le_of_ble_eq_true rfl⟩) hK hO rfl ⟨hO, hf, hg, hh⟩ rfl hl.1 rfl (Nat.le_of_ble_eq_true rfl) dX10_valuePolicy_197 ⟨Nat.zero_le _, Nat.zero_le _⟩ hS (fun q h => by (try dsimp only at h); (try dsimp only); omega) (fun H1 locs1 ⟨f, g, h, ⟨hf, hg, hh⟩, hn1, ho1⟩ hz1 hk1 hS => ?_)
          have hO := hO.k (hk1 _ hO.lt (by (try dsimp only); omega))
          have hU := hU.k (hk1 _ hU.lt (by (try dsimp only); omega))
          have hDn := hDn.k (hk1 _ hDn.lt (by (try dsimp only); omega))
          have hW := hW.k (hk1 _ hW.lt (by (try dsimp only); omega))
          have hCh := hCh.k (hk1 _ hCh.lt (by (try dsimp only); omega))
          obtain ⟨vs, hva0, hvo, hN⟩ := bn_np hN hn1 ho1
          clear hn1 ho1
          have hrow : ∀ q c, q < n ∧ c ≤ mN σ → vs (7 * q + cl (mN σ) c) = (qm σ π cm) q c := fun q c hq => by have := cl_le hN6 hq.2; exact (hvo _ (by omega)).trans (hrow q c hq)
          have hcur : ∀ c, c < mN σ → vs (7 * n + c) = (qm σ π cm) n c := fun c hq => (hvo _ (by omega)).trans (hcur c hq)
          have hvc : ∀ c, 52 < c → vs (c) = vs0 c := fun c hq => (hvo _ (by omega)).trans (hvc c hq)
          have h6 : vs (7 * n + 6) = (qm σ π cm) n (mN σ) := (hva0.trans (qm_N (by omega)).symm)
          clear hva0 hvo
          refine lv_iinc (v := iI (((n + 1 : Nat) : Int))) (lv' := [(1, .int (iI (((n + 1 : Nat) : Int)))), (0, .ref (r0)), (2, .int (iI (((4 * n + π n) : Int)))), (3, .int (iI ((mT σ (4 * n + π n) : Int)))), (4, .int (iI ((mN σ : Int))))]) hx hb dX10_valuePolicy_200 hl (k := 1) rfl (by show iI _ + iI _ = _; exact (iI_add _ _).trans (by first | rfl | (congr 1; omega))) (by decide) rfl (fun ls hl => ?_)
          refine lv_goto (tgt := 58) hx hb dX10_valuePolicy_203 (by decide) ?_
          exact ih (n + 1) vs f g h _ _ _ (by omega) (fun q c hq => by
            by_cases e : q = n
            · rw [e]
              by_cases e2 : c = mN σ
              · rw [e2, cl_N]; exact h6
              · rw [cl_lt (by omega)]; exact hcur c (by omega)
            · exact hrow q c ⟨by omega, hq.2⟩) hvc hO hU hDn hW hCh hf hg hh hN hS (lv_sub hl [1, 0] rfl)
        | succ jj ih2 =>
          intro t vs f g h H locs ls ht hrow hcur hvc hO hU hDn hW hCh hf hg hh hN hS hl
          have hqs := qm_s (cm := cm) hok hπ (show n < mN σ by omega) (show t < mN σ by omega)
          have hqc := qm_c (π := π) (cm := cm) (show n < mN σ by omega) (show t < mN σ by omega)
          have hwt := hmn.2.2 t (by omega)
          refine lv_iload hx hb dX10_valuePolicy_86 (lv_at hl 4 rfl) ?_
          refine lv_aload_n hx hb dX10_valuePolicy_88 rfl (lv_at hl 0 rfl) ?_
          refine pw_get (C := RX10) (T := TX10) (N := 20) hx hb hts hin10 hown hK hO rfl 1 (by decide) lk_103 rfl rfl dX10_valuePolicy_89 ?_
          refine pw_icmp_ge (tgt := 151) hx hb dX10_valuePolicy_92 (by decide) (fun c_92 => absurd c_92 (by omega)) (fun c_92 => ?_)
          refine lv_iload_n hx hb dX10_valuePolicy_95 rfl (lv_at hl 1 rfl) ?_
          refine lv_iload hx hb dX10_valuePolicy_96 (lv_at hl 4 rfl) ?_
          refine pw_icmp_ne (tgt := 110) hx hb dX10_valuePolicy_98 (by decide) (fun c_98 => ?_) (fun c_98 => ?_)
          · rw [if_neg (by omega)] at hqc
            refine pw_iconst hx hb dX10_valuePolicy_110 ?_
            refine lv_aload_n hx hb dX10_valuePolicy_111 rfl (lv_at hl 0 rfl) ?_
            refine pw_get (C := RX10) (T := TX10) (N := 20) hx hb hts hin10 hown hK hO rfl 6 (by decide) lk_22 rfl rfl dX10_valuePolicy_112 ?_
            refine lv_aload_n hx hb dX10_valuePolicy_115 rfl (lv_at hl 0 rfl) ?_
            refine pw_get (C := RX10) (T := TX10) (N := 20) hx hb hts hin10 hown hK hO rfl 5 (by decide) lk_19 rfl rfl dX10_valuePolicy_116 ?_
            refine pw_bipush hx hb dX10_valuePolicy_119 ?_
            refine lv_iload_n hx hb dX10_valuePolicy_121 rfl (lv_at hl 2 rfl) ?_
            refine pw_imul hx hb dX10_valuePolicy_122 ?_
            refine lv_iload hx hb dX10_valuePolicy_123 (lv_at hl 4 rfl) ?_
            refine pw_iadd hx hb dX10_valuePolicy_125 ?_
            refine pw_iald hx hb hK hW (6 * (4 * n + π n) + t) (by omega) (by omega) (by omega) dX10_valuePolicy_126 ?_
            refine pw_asi ((mW σ (4 * n + π n) t : Int)) hwt ?_
            refine pw_imul hx hb dX10_valuePolicy_127 ?_
            refine pw_isub hx hb dX10_valuePolicy_128 ?_
            refine pw_asi ((qm σ π cm) n t) hqc.symm ?_
            refine lv_istore (lv' := [(5, .int (iI ((qm σ π cm) n t))), (0, .ref (r0)), (1, .int (iI ((n : Int)))), (2, .int (iI (((4 * n + π n) : Int)))), (3, .int (iI ((mT σ (4 * n + π n) : Int)))), (4, .int (iI ((t : Int))))]) hx hb dX10_valuePolicy_129 hl (by decide) rfl (fun ls hl => ?_)
            refine lv_aload_n hx hb dX10_valuePolicy_131 rfl (lv_at hl 1 rfl) ?_
            refine pw_bipush hx hb dX10_valuePolicy_132 ?_
            refine lv_iload_n hx hb dX10_valuePolicy_134 rfl (lv_at hl 2 rfl) ?_
            refine pw_imul hx hb dX10_valuePolicy_135 ?_
            refine lv_iload hx hb dX10_valuePolicy_136 (lv_at hl 5 rfl) ?_
            refine pw_iadd hx hb dX10_valuePolicy_138 ?_
            refine pw_asi (((7 * n + t : Nat) : Int)) (by omega) ?_
            refine lv_iload hx hb dX10_valuePolicy_139 (lv_at hl 0 rfl) ?_
            refine pw_i2l hx hb dX10_valuePolicy_141 ?_
            refine pw_callVv (As := [.int (iI (((7 * n + t : Nat) : Int))), .long (lI ((qm σ π cm) n t))]) (rest := []) ⟨hx, hb, hml, hown, hts⟩ (r_setSmall l D E r0 (oV th σ so rn (cm : Int)) f g h (7 * n + t) ((qm σ π cm) n t) (by omega) (by omega) (by omega)) (cwV 2 hts gX10_valuePolicy_X10_setSmall rfl rfl rfl (by decide +kernel) ⟨Nat.le_of_ble_eq_true rfl, Nat.le_of_ble_eq_true rfl⟩) hK hO rfl ⟨hO, hf, hg, hh⟩ rfl hl.1 rfl (Nat.le_of_ble_eq_true rfl) dX10_valuePolicy_142 ⟨Nat.zero_le _, Nat.zero_le _⟩ hS (fun q h => by (try dsimp only at h); (try dsimp only); omega) (fun H1 locs1 ⟨f, g, h, ⟨hf, hg, hh⟩, hn1, ho1⟩ hz1 hk1 hS => ?_)
            have hO := hO.k (hk1 _ hO.lt (by (try dsimp only); omega))
            have hU := hU.k (hk1 _ hU.lt (by (try dsimp only); omega))
            have hDn := hDn.k (hk1 _ hDn.lt (by (try dsimp only); omega))
            have hW := hW.k (hk1 _ hW.lt (by (try dsimp only); omega))
            have hCh := hCh.k (hk1 _ hCh.lt (by (try dsimp only); omega))
            obtain ⟨vs, hva0, hvo, hN⟩ := bn_np hN hn1 ho1
            clear hn1 ho1
            have hrow : ∀ q c, q < n ∧ c ≤ mN σ → vs (7 * q + cl (mN σ) c) = (qm σ π cm) q c := fun q c hq => by have := cl_le hN6 hq.2; exact (hvo _ (by omega)).trans (hrow q c hq)
            have hcur : ∀ c, c < t → vs (7 * n + c) = (qm σ π cm) n c := fun c hq => (hvo _ (by omega)).trans (hcur c hq)
            have hvc : ∀ c, 52 < c → vs (c) = vs0 c := fun c hq => (hvo _ (by omega)).trans (hvc c hq)
            have hnt : vs (7 * n + t) = (qm σ π cm) n t := hva0
            clear hva0 hvo
            refine lv_iinc (v := iI (((t + 1 : Nat) : Int))) (lv' := [(4, .int (iI (((t + 1 : Nat) : Int)))), (5, .int (iI ((qm σ π cm) n t))), (0, .ref (r0)), (1, .int (iI ((n : Int)))), (2, .int (iI (((4 * n + π n) : Int)))), (3, .int (iI ((mT σ (4 * n + π n) : Int))))]) hx hb dX10_valuePolicy_145 hl (k := 5) rfl (by show iI _ + iI _ = _; exact (iI_add _ _).trans (by first | rfl | (congr 1; omega))) (by decide) rfl (fun ls hl => ?_)
            refine lv_goto (tgt := 86) hx hb dX10_valuePolicy_148 (by decide) ?_
            exact ih2 (t + 1) vs f g h _ _ _ (by omega) hrow (fun c hc => by
              by_cases e : c = t
              · rw [e]; exact hnt
              · exact hcur c (by omega)) hvc hO hU hDn hW hCh hf hg hh hN hS (lv_sub hl [2, 3, 4, 5, 0] rfl)
          · rw [if_pos (by omega)] at hqc
            refine lv_aload_n hx hb dX10_valuePolicy_101 rfl (lv_at hl 0 rfl) ?_
            refine pw_get (C := RX10) (T := TX10) (N := 20) hx hb hts hin10 hown hK hO rfl 7 (by decide) lk_26 rfl rfl dX10_valuePolicy_102 ?_
            refine lv_iload_n hx hb dX10_valuePolicy_105 rfl (lv_at hl 3 rfl) ?_
            refine pw_imul hx hb dX10_valuePolicy_106 ?_
            refine lv_goto (tgt := 111) hx hb dX10_valuePolicy_107 (by decide) ?_
            refine lv_aload_n hx hb dX10_valuePolicy_111 rfl (lv_at hl 0 rfl) ?_
            refine pw_get (C := RX10) (T := TX10) (N := 20) hx hb hts hin10 hown hK hO rfl 6 (by decide) lk_22 rfl rfl dX10_valuePolicy_112 ?_
            refine lv_aload_n hx hb dX10_valuePolicy_115 rfl (lv_at hl 0 rfl) ?_
            refine pw_get (C := RX10) (T := TX10) (N := 20) hx hb hts hin10 hown hK hO rfl 5 (by decide) lk_19 rfl rfl dX10_valuePolicy_116 ?_
            refine pw_bipush hx hb dX10_valuePolicy_119 ?_
            refine lv_iload_n hx hb dX10_valuePolicy_121 rfl (lv_at hl 2 rfl) ?_
            refine pw_imul hx hb dX10_valuePolicy_122 ?_
            refine lv_iload hx hb dX10_valuePolicy_123 (lv_at hl 4 rfl) ?_
            refine pw_iadd hx hb dX10_valuePolicy_125 ?_
            refine pw_iald hx hb hK hW (6 * (4 * n + π n) + t) (by omega) (by omega) (by omega) dX10_valuePolicy_126 ?_
            refine pw_asi ((mW σ (4 * n + π n) t : Int)) hwt ?_
            refine pw_imul hx hb dX10_valuePolicy_127 ?_
            refine pw_isub hx hb dX10_valuePolicy_128 ?_
            refine pw_asi ((qm σ π cm) n t) hqc.symm ?_
            refine lv_istore (lv' := [(5, .int (iI ((qm σ π cm) n t))), (0, .ref (r0)), (1, .int (iI ((n : Int)))), (2, .int (iI (((4 * n + π n) : Int)))), (3, .int (iI ((mT σ (4 * n + π n) : Int)))), (4, .int (iI ((t : Int))))]) hx hb dX10_valuePolicy_129 hl (by decide) rfl (fun ls hl => ?_)
            refine lv_aload_n hx hb dX10_valuePolicy_131 rfl (lv_at hl 1 rfl) ?_
            refine pw_bipush hx hb dX10_valuePolicy_132 ?_
            refine lv_iload_n hx hb dX10_valuePolicy_134 rfl (lv_at hl 2 rfl) ?_
            refine pw_imul hx hb dX10_valuePolicy_135 ?_
            refine lv_iload hx hb dX10_valuePolicy_136 (lv_at hl 5 rfl) ?_
            refine pw_iadd hx hb dX10_valuePolicy_138 ?_
            refine pw_asi (((7 * n + t : Nat) : Int)) (by omega) ?_
            refine lv_iload hx hb dX10_valuePolicy_139 (lv_at hl 0 rfl) ?_
            refine pw_i2l hx hb dX10_valuePolicy_141 ?_
            refine pw_callVv (As := [.int (iI (((7 * n + t : Nat) : Int))), .long (lI ((qm σ π cm) n t))]) (rest := []) ⟨hx, hb, hml, hown, hts⟩ (r_setSmall l D E r0 (oV th σ so rn (cm : Int)) f g h (7 * n + t) ((qm σ π cm) n t) (by omega) (by omega) (by omega)) (cwV 2 hts gX10_valuePolicy_X10_setSmall rfl rfl rfl (by decide +kernel) ⟨Nat.le_of_ble_eq_true rfl, Nat.le_of_ble_eq_true rfl⟩) hK hO rfl ⟨hO, hf, hg, hh⟩ rfl hl.1 rfl (Nat.le_of_ble_eq_true rfl) dX10_valuePolicy_142 ⟨Nat.zero_le _, Nat.zero_le _⟩ hS (fun q h => by (try dsimp only at h); (try dsimp only); omega) (fun H1 locs1 ⟨f, g, h, ⟨hf, hg, hh⟩, hn1, ho1⟩ hz1 hk1 hS => ?_)
            have hO := hO.k (hk1 _ hO.lt (by (try dsimp only); omega))
            have hU := hU.k (hk1 _ hU.lt (by (try dsimp only); omega))
            have hDn := hDn.k (hk1 _ hDn.lt (by (try dsimp only); omega))
            have hW := hW.k (hk1 _ hW.lt (by (try dsimp only); omega))
            have hCh := hCh.k (hk1 _ hCh.lt (by (try dsimp only); omega))
            obtain ⟨vs, hva0, hvo, hN⟩ := bn_np hN hn1 ho1
            clear hn1 ho1
            have hrow : ∀ q c, q < n ∧ c ≤ mN σ → vs (7 * q + cl (mN σ) c) = (qm σ π cm) q c := fun q c hq => by have := cl_le hN6 hq.2; exact (hvo _ (by omega)).trans (hrow q c hq)
            have hcur : ∀ c, c < t → vs (7 * n + c) = (qm σ π cm) n c := fun c hq => (hvo _ (by omega)).trans (hcur c hq)
            have hvc : ∀ c, 52 < c → vs (c) = vs0 c := fun c hq => (hvo _ (by omega)).trans (hvc c hq)
            have hnt : vs (7 * n + t) = (qm σ π cm) n t := hva0
            clear hva0 hvo
            refine lv_iinc (v := iI (((t + 1 : Nat) : Int))) (lv' := [(4, .int (iI (((t + 1 : Nat) : Int)))), (5, .int (iI ((qm σ π cm) n t))), (0, .ref (r0)), (1, .int (iI ((n : Int)))), (2, .int (iI (((4 * n + π n) : Int)))), (3, .int (iI ((mT σ (4 * n + π n) : Int))))]) hx hb dX10_valuePolicy_145 hl (k := 5) rfl (by show iI _ + iI _ = _; exact (iI_add _ _).trans (by first | rfl | (congr 1; omega))) (by decide) rfl (fun ls hl => ?_)
            refine lv_goto (tgt := 86) hx hb dX10_valuePolicy_148 (by decide) ?_
            exact ih2 (t + 1) vs f g h _ _ _ (by omega) hrow (fun c hc => by
              by_cases e : c = t
              · rw [e]; exact hnt
              · exact hcur c (by omega)) hvc hO hU hDn hW hCh hf hg hh hN hS (lv_sub hl [2, 3, 4, 5, 0] rfl)
      intro hrow hvc hO hU hDn hW hCh hf hg hh hN hS hl
      refine lv_iload_n hx hb dX10_valuePolicy_58 rfl (lv_at hl 1 rfl) ?_
      refine lv_aload_n hx hb dX10_valuePolicy_59 rfl (lv_at hl 0 rfl) ?_
      refine pw_get (C := RX10) (T := TX10) (N := 20) hx hb hts hin10 hown hK hO rfl 1 (by decide) lk_103 rfl rfl dX10_valuePolicy_60 ?_
      refine pw_icmp_ge (tgt := 206) hx hb dX10_valuePolicy_63 (by decide) (fun c_63 => absurd c_63 (by omega)) (fun c_63 => ?_)
      refine pw_iconst hx hb dX10_valuePolicy_66 ?_
      refine lv_iload_n hx hb dX10_valuePolicy_67 rfl (lv_at hl 1 rfl) ?_
      refine pw_imul hx hb dX10_valuePolicy_68 ?_
      refine lv_aload_n hx hb dX10_valuePolicy_69 rfl (lv_at hl 0 rfl) ?_
      refine pw_get (C := RX10) (T := TX10) (N := 20) hx hb hts hin10 hown hK hO rfl 11 (by decide) lk_32 rfl rfl dX10_valuePolicy_70 ?_
      refine lv_iload_n hx hb dX10_valuePolicy_73 rfl (lv_at hl 1 rfl) ?_
      refine pw_iald hx hb hK hCh (n) rfl (by omega) (by omega) dX10_valuePolicy_74 ?_
      refine pw_asi ((π n : Int)) (hch n (by omega)) ?_
      refine pw_iadd hx hb dX10_valuePolicy_75 ?_
      refine pw_asi (((4 * n + π n) : Int)) (by omega) ?_
      refine lv_istore_n (lv' := [(2, .int (iI (((4 * n + π n) : Int)))), (0, .ref (r0)), (1, .int (iI ((n : Int))))]) hx hb dX10_valuePolicy_76 rfl hl (by decide) rfl (fun ls hl => ?_)
      refine lv_aload_n hx hb dX10_valuePolicy_77 rfl (lv_at hl 1 rfl) ?_
      refine lv_iload_n hx hb dX10_valuePolicy_78 rfl (lv_at hl 0 rfl) ?_
      refine pw_callVi (As := [.int (iI (((4 * n + π n) : Int)))]) (rest := []) ⟨hx, hb, hml, hown, hts⟩ (r_sumOf l D E r0 σ th so rn (cm : Int) (4 * n + π n) gW (by omega) hmn.2.2 hok) (cwV 1 hts gX10_valuePolicy_X10_sumOf rfl rfl rfl (by decide +kernel) ⟨Nat.le_of_ble_eq_true rfl, Nat.le_of_ble_eq_true rfl⟩) hK hO rfl ⟨hO, hW⟩ rfl hl.1 rfl (Nat.le_of_ble_eq_true rfl) dX10_valuePolicy_79 ⟨Nat.zero_le _, Nat.zero_le _⟩ hS (fun q h => h.elim) (fun z H1 locs1 hz hz1 hk1 hS => ?_)
      have hO := hO.k (hk1 _ hO.lt (fun h => h))
      have hU := hU.k (hk1 _ hU.lt (fun h => h))
      have hDn := hDn.k (hk1 _ hDn.lt (fun h => h))
      have hW := hW.k (hk1 _ hW.lt (fun h => h))
      have hCh := hCh.k (hk1 _ hCh.lt (fun h => h))
      have hf := hf.k (hk1 _ hf.lt (fun h => h))
      have hg := hg.k (hk1 _ hg.lt (fun h => h))
      have hh := hh.k (hk1 _ hh.lt (fun h => h))
      subst hz
      refine lv_istore_n (lv' := [(3, .int (iI ((mT σ (4 * n + π n) : Int)))), (2, .int (iI (((4 * n + π n) : Int)))), (0, .ref (r0)), (1, .int (iI ((n : Int))))]) hx hb dX10_valuePolicy_82 rfl hl (by decide) rfl (fun ls hl => ?_)
      refine pw_iconst hx hb dX10_valuePolicy_83 ?_
      refine lv_istore (lv' := [(4, .int (iI (0))), (3, .int (iI ((mT σ (4 * n + π n) : Int)))), (2, .int (iI (((4 * n + π n) : Int)))), (0, .ref (r0)), (1, .int (iI ((n : Int))))]) hx hb dX10_valuePolicy_84 hl (by decide) rfl (fun ls hl => ?_)
      exact loopT (mN σ) 0 vs f g h _ _ _ (by omega) hrow (fun c hc => by omega) hvc hO hU hDn hW hCh hf hg hh hN hS (lv_sub hl [3, 4, 2, 1, 0] rfl)
  have loop1 : ∀ (kk n cm : Nat) (vs f g h : Nat → Int) (H : Heap) (locs : List Loc) (ls : Array Slot), n + kk = mN σ → 0 < cm → cm ∣ 232792560 → (∀ q, q < n → mD σ (4 * q + π q) ∣ cm) → (∀ c, 52 < c → vs (c) = vs0 c) → OA D r0 10 [.int (iI (th)), .int (iI ((mN σ : Int))), .ref (r0 + 1), .ref (r0 + 2), .ref (r0 + 3), .ref (r0 + 4), .int (iI ((mA σ : Int))), .int (iI ((mB σ : Int))), .int (iI (so)), .int (iI (rn)), .ref (r0 + 5), .ref (r0 + 6), .ref (r0 + 7), .ref (r0 + 8), .ref (r0 + 9), .ref (r0 + 10), .ref (r0 + 11), .ref (r0 + 12), .ref (r0 + 13), .int (iI ((cm : Int)))] H → IA E (r0 + 2) 24 gU H → IA E (r0 + 3) 24 gD H → IA E (r0 + 4) 144 gW H → IA E (r0 + 6) 6 ch H → IA E (r0 + 8) 5120 f H → IA E (r0 + 9) 80 g H → IA E (r0 + 10) 80 h H → (∀ c, c < 80 → Num f g h c (vs c)) → va_S (fun q => q = r0 ∨ (r0 + 8 ≤ q ∧ q ≤ r0 + 10)) s.heap H locs → lv_has ls 6 [(0, .ref (r0)), (1, .int (iI ((n : Int))))] → W p l e ({ frames := 4, cells := 0, slots := 0, locals := 104 } : Room) s m args below meth c H locs (0) (0) (MQ below (pw_Q rvV (fun _ H => ∃ (cm : Nat) (vs : Nat → Int), OA D r0 10 [.int (iI (th)), .int (iI ((mN σ : Int))), .ref (r0 + 1), .ref (r0 + 2), .ref (r0 + 3), .ref (r0 + 4), .int (iI ((mA σ : Int))), .int (iI ((mB σ : Int))), .int (iI (so)), .int (iI (rn)), .ref (r0 + 5), .ref (r0 + 6), .ref (r0 + 7), .ref (r0 + 8), .ref (r0 + 9), .ref (r0 + 10), .ref (r0 + 11), .ref (r0 + 12), .ref (r0 + 13), .int (iI ((cm : Int)))] H ∧ BN E r0 vs H ∧ (0 < cm ∧ cm ≤ 232792560 ∧ ∀ s, s < mN σ → mD σ (4 * s + π s) ∣ cm) ∧ vs 48 = eP (qm σ π cm) (mN σ) ∧ (∀ s, s < mN σ → vs (42 + s) = eY (qm σ π cm) (mN σ) (mN σ) s) ∧ ∀ c, 52 < c → vs c = vs0 c) (fun q => q = r0 ∨ (r0 + 8 ≤ q ∧ q ≤ r0 + 10))) args s (0) (0) (fun q => q = r0 ∨ (r0 + 8 ≤ q ∧ q ≤ r0 + 10))) (F0 m 7 ls []) := by
    intro kk
    induction kk with
    | zero =>
      intro n cm vs f g h H locs ls hn hcm1 hcmL hcmd hvc hO hU hDn hW hCh hf hg hh hN hS hl
      have en : n = mN σ := by omega
      subst en
      have hcm2 := Nat.le_of_dvd (by omega) hcmL
      refine lv_iload_n hx hb dX10_valuePolicy_7 rfl (lv_at hl 1 rfl) ?_
      refine lv_aload_n hx hb dX10_valuePolicy_8 rfl (lv_at hl 0 rfl) ?_
      refine pw_get (C := RX10) (T := TX10) (N := 20) hx hb hts hin10 hown hK hO rfl 1 (by decide) lk_103 rfl rfl dX10_valuePolicy_9 ?_
      refine pw_icmp_ge (tgt := 56) hx hb dX10_valuePolicy_12 (by decide) (fun c_12 => ?_) (fun c_12 => absurd c_12 (by omega))
      refine pw_iconst hx hb dX10_valuePolicy_56 ?_
      refine lv_istore_n (lv' := [(1, .int (iI (0))), (0, .ref (r0))]) hx hb dX10_valuePolicy_57 rfl hl (by decide) rfl (fun ls hl => ?_)
      exact loopS cm hcm1 hcm2 hcmd (mN σ) 0 vs f g h _ _ _ (by omega) (fun q c hq => by omega) hvc hO hU hDn hW hCh hf hg hh hN hS (lv_sub hl [1, 0] rfl)
    | succ kk ih =>
      intro n cm vs f g h H locs ls hn hcm1 hcmL hcmd hvc hO hU hDn hW hCh hf hg hh hN hS hl
      have hcm2 := Nat.le_of_dvd (by omega) hcmL
      have hpn := hπ n (by omega)
      have hcn := hC4 n (by omega)
      have hmn := hm n (π n) (by omega) hpn
      obtain ⟨u1, u2, d1, d2, ww⟩ := hok.2.2.1 (4 * n + π n) (by omega)
      have hg0 : 0 < Nat.gcd cm (mD σ (4 * n + π n)) := Nat.gcd_pos_of_pos_left _ hcm1
      have hgl : Nat.gcd cm (mD σ (4 * n + π n)) ≤ cm := Nat.le_of_dvd hcm1 (Nat.gcd_dvd_left _ _)
      have hl2 := lcm2 (b := (mD σ (4 * n + π n))) hcm1
      refine lv_iload_n hx hb dX10_valuePolicy_7 rfl (lv_at hl 1 rfl) ?_
      refine lv_aload_n hx hb dX10_valuePolicy_8 rfl (lv_at hl 0 rfl) ?_
      refine pw_get (C := RX10) (T := TX10) (N := 20) hx hb hts hin10 hown hK hO rfl 1 (by decide) lk_103 rfl rfl dX10_valuePolicy_9 ?_
      refine pw_icmp_ge (tgt := 56) hx hb dX10_valuePolicy_12 (by decide) (fun c_12 => absurd c_12 (by omega)) (fun c_12 => ?_)
      refine lv_aload_n hx hb dX10_valuePolicy_15 rfl (lv_at hl 0 rfl) ?_
      refine pw_get (C := RX10) (T := TX10) (N := 20) hx hb hts hin10 hown hK hO rfl 4 (by decide) lk_16 rfl rfl dX10_valuePolicy_16 ?_
      refine pw_iconst hx hb dX10_valuePolicy_19 ?_
      refine lv_iload_n hx hb dX10_valuePolicy_20 rfl (lv_at hl 1 rfl) ?_
      refine pw_imul hx hb dX10_valuePolicy_21 ?_
      refine lv_aload_n hx hb dX10_valuePolicy_22 rfl (lv_at hl 0 rfl) ?_
      refine pw_get (C := RX10) (T := TX10) (N := 20) hx hb hts hin10 hown hK hO rfl 11 (by decide) lk_32 rfl rfl dX10_valuePolicy_23 ?_
      refine lv_iload_n hx hb dX10_valuePolicy_26 rfl (lv_at hl 1 rfl) ?_
      refine pw_iald hx hb hK hCh (n) rfl (by omega) (by omega) dX10_valuePolicy_27 ?_
      refine pw_asi ((π n : Int)) (hch n (by omega)) ?_
      refine pw_iadd hx hb dX10_valuePolicy_28 ?_
      refine pw_iald hx hb hK hDn ((4 * n + π n)) (by omega) (by omega) (by omega) dX10_valuePolicy_29 ?_
      refine pw_asi (((mD σ (4 * n + π n)) : Int)) hmn.2.1 ?_
      refine lv_istore_n (lv' := [(2, .int (iI (((mD σ (4 * n + π n)) : Int)))), (0, .ref (r0)), (1, .int (iI ((n : Int))))]) hx hb dX10_valuePolicy_30 rfl hl (by decide) rfl (fun ls hl => ?_)
      refine lv_aload_n hx hb dX10_valuePolicy_31 rfl (lv_at hl 1 rfl) ?_
      refine lv_aload_n hx hb dX10_valuePolicy_32 rfl (lv_at hl 1 rfl) ?_
      refine pw_get (C := RX10) (T := TX10) (N := 20) hx hb hts hin10 hown hK hO rfl 19 (by decide) lk_138 rfl rfl dX10_valuePolicy_33 ?_
      refine lv_aload_n hx hb dX10_valuePolicy_36 rfl (lv_at hl 1 rfl) ?_
      refine pw_get (C := RX10) (T := TX10) (N := 20) hx hb hts hin10 hown hK hO rfl 19 (by decide) lk_138 rfl rfl dX10_valuePolicy_37 ?_
      refine lv_iload_n hx hb dX10_valuePolicy_40 rfl (lv_at hl 0 rfl) ?_
      refine pw_callSi (As := [.int (iI ((cm : Int))), .int (iI (((mD σ (4 * n + π n)) : Int)))]) (rest := [.int (iI ((cm : Int))), .ref (r0)]) ⟨hx, hb, hml, hown, hts⟩ (r_dividing l D E cm (mD σ (4 * n + π n)) (by omega) (by omega)) (va_cwS 2 hts gX10_valuePolicy_X10_dividing rfl rfl rfl (by decide +kernel) ⟨Nat.le_of_ble_eq_true rfl, Nat.le_of_ble_eq_true rfl⟩) hK trivial rfl hl.1 rfl (Nat.le_of_ble_eq_true rfl) dX10_valuePolicy_41 ⟨Nat.zero_le _, Nat.zero_le _⟩ hS (fun q h => h.elim) (fun z H1 locs1 hz hz1 hk1 hS => ?_)
      have hO := hO.k (hk1 _ hO.lt (fun h => h))
      have hU := hU.k (hk1 _ hU.lt (fun h => h))
      have hDn := hDn.k (hk1 _ hDn.lt (fun h => h))
      have hW := hW.k (hk1 _ hW.lt (fun h => h))
      have hCh := hCh.k (hk1 _ hCh.lt (fun h => h))
      have hf := hf.k (hk1 _ hf.lt (fun h => h))
      have hg := hg.k (hk1 _ hg.lt (fun h => h))
      have hh := hh.k (hk1 _ hh.lt (fun h => h))
      subst hz
      refine pw_idiv hx hb dX10_valuePolicy_44 (by omega) ?_
      refine pw_asi (((cm / Nat.gcd cm (mD σ (4 * n + π n)) : Nat) : Int)) rfl ?_
      refine lv_iload_n hx hb dX10_valuePolicy_45 rfl (lv_at hl 0 rfl) ?_
      refine pw_imul hx hb dX10_valuePolicy_46 ?_
      refine pw_asi (((Nat.lcm cm (mD σ (4 * n + π n)) : Nat) : Int)) (by rw [← hl2, Int.natCast_mul]) ?_
      refine pw_put (C := RX10) (T := TX10) (N := 20) hx hb hts hin10 tyX10 tyX10_ok nmX10 hown hK hO hS (by (try dsimp only); omega) rfl 19 (by decide) lk_138 rfl rfl rfl rfl (by show _ < 20; decide) dX10_valuePolicy_47 (fun H1 locs1 hnew hz1 oq hS => ?_)
      have hU := hU.k (oq _ (by omega))
      have hDn := hDn.k (oq _ (by omega))
      have hW := hW.k (oq _ (by omega))
      have hCh := hCh.k (oq _ (by omega))
      have hf := hf.k (oq _ (by omega))
      have hg := hg.k (oq _ (by omega))
      have hh := hh.k (oq _ (by omega))
      have hO : OA D (r0) 10 [.int (iI (th)), .int (iI ((mN σ : Int))), .ref (r0 + 1), .ref (r0 + 2), .ref (r0 + 3), .ref (r0 + 4), .int (iI ((mA σ : Int))), .int (iI ((mB σ : Int))), .int (iI (so)), .int (iI (rn)), .ref (r0 + 5), .ref (r0 + 6), .ref (r0 + 7), .ref (r0 + 8), .ref (r0 + 9), .ref (r0 + 10), .ref (r0 + 11), .ref (r0 + 12), .ref (r0 + 13), .int (iI (((Nat.lcm cm (mD σ (4 * n + π n)) : Nat) : Int)))] H1 := hnew
      clear hnew oq hz1
      refine lv_iinc (v := iI (((n + 1 : Nat) : Int))) (lv' := [(1, .int (iI (((n + 1 : Nat) : Int)))), (2, .int (iI (((mD σ (4 * n + π n)) : Int)))), (0, .ref (r0))]) hx hb dX10_valuePolicy_50 hl (k := 2) rfl (by show iI _ + iI _ = _; exact (iI_add _ _).trans (by first | rfl | (congr 1; omega))) (by decide) rfl (fun ls hl => ?_)
      refine lv_goto (tgt := 7) hx hb dX10_valuePolicy_53 (by decide) ?_
      exact ih (n + 1) (Nat.lcm cm (mD σ (4 * n + π n))) vs f g h _ _ _ (by omega) (Nat.lcm_pos hcm1 (by omega)) (dvd_lcm_all hcmL (dvd_L _ d1 d2)) (fun q hq => by
        by_cases e : q = n
        · rw [e]; exact Nat.dvd_lcm_right _ _
        · exact Nat.dvd_trans (hcmd q (by omega)) (Nat.dvd_lcm_left _ _)) hvc hO hU hDn hW hCh hf hg hh hN hS (lv_sub hl [2, 0] rfl)
  refine lv_aload_n hx hb dX10_valuePolicy_0 rfl (lv_at hl 0 rfl) ?_
  refine pw_iconst hx hb dX10_valuePolicy_1 ?_
  refine pw_asi (((1 : Nat) : Int)) rfl ?_
  refine pw_put (C := RX10) (T := TX10) (N := 20) hx hb hts hin10 tyX10 tyX10_ok nmX10 hown hK hO hS (by (try dsimp only); omega) rfl 19 (by decide) lk_138 rfl rfl rfl rfl (by show _ < 20; decide) dX10_valuePolicy_2 (fun H1 locs1 hnew hz1 oq hS => ?_)
  have hU := hU.k (oq _ (by omega))
  have hDn := hDn.k (oq _ (by omega))
  have hW := hW.k (oq _ (by omega))
  have hCh := hCh.k (oq _ (by omega))
  have hf := hf.k (oq _ (by omega))
  have hg := hg.k (oq _ (by omega))
  have hh := hh.k (oq _ (by omega))
  have hO : OA D (r0) 10 [.int (iI (th)), .int (iI ((mN σ : Int))), .ref (r0 + 1), .ref (r0 + 2), .ref (r0 + 3), .ref (r0 + 4), .int (iI ((mA σ : Int))), .int (iI ((mB σ : Int))), .int (iI (so)), .int (iI (rn)), .ref (r0 + 5), .ref (r0 + 6), .ref (r0 + 7), .ref (r0 + 8), .ref (r0 + 9), .ref (r0 + 10), .ref (r0 + 11), .ref (r0 + 12), .ref (r0 + 13), .int (iI (((1 : Nat) : Int)))] H1 := hnew
  clear hnew oq hz1
  refine pw_iconst hx hb dX10_valuePolicy_5 ?_
  refine lv_istore_n (lv' := [(1, .int (iI (0))), (0, .ref (r0))]) hx hb dX10_valuePolicy_6 rfl hl (by decide) rfl (fun ls hl => ?_)
  exact loop1 (mN σ) 0 1 vs0 f g h _ _ _ (by omega) (by omega) (by omega) (fun q hq => by omega) (fun _ _ => rfl) hO hU hDn hW hCh hf hg hh hN hS (lv_sub hl [1, 0] rfl)
