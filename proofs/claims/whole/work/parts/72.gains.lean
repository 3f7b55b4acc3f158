/-! the reference: gains, and the action with the greatest -/
theorem mulb {x y : Int} {a b : Nat} (hx : x.natAbs ≤ a) (hy : y.natAbs ≤ b) : (x * y).natAbs ≤ a * b := by rw [Int.natAbs_mul]; exact Nat.mul_le_mul hx hy
theorem gsum_w (σ : MS) (i : Nat) (v : Nat → Int) : ∀ k, gsum σ i v k = sI (fun t => v t * (mW σ i t : Int)) k * (mA σ : Int) * (mD σ i : Int)
  | 0 => by simp [gsum, sI]
  | k + 1 => by
    show gsum σ i v k + v k * gct σ i k = (sI (fun t => v t * (mW σ i t : Int)) k + v k * (mW σ i k : Int)) * (mA σ : Int) * (mD σ i : Int)
    rw [gsum_w σ i v k]
    unfold gct
    grind
theorem gn_ref (σ : MS) (i : Nat) (v : Nat → Int) (b : Int) : sI (fun t => v t * (mW σ i t : Int)) (mN σ) * (mA σ : Int) * (mD σ i : Int) + 1 * (b * ((mB σ : Int) * (mT σ i : Int)) * mU σ i) = gnum σ i v b := by
  unfold gnum gc0
  rw [gsum_w]
  grind
theorem gw_b {σ : MS} (hok : mOK σ) {i : Nat} (hi : i < 24) {v : Nat → Int} {mx : Nat} (hv : ∀ t, t < mN σ → (v t).natAbs ≤ mx) {k : Nat} (hk : k ≤ mN σ) : (sI (fun t => v t * (mW σ i t : Int)) k).natAbs ≤ 120 * mx := by
  have h1 := sI_bW (f := fun t => v t * (mW σ i t : Int)) (M := mx * 20) (k := k) (fun j hj => mulb (hv j (by omega)) (by have := (hok.2.2.1 i hi).2.2.2.2 j (by have := hok.1; omega); omega))
  have h2 : k * (mx * 20) ≤ 6 * (mx * 20) := Nat.mul_le_mul_right _ (by have := hok.1; omega)
  omega
/-- the gain is no greater than so many times the values -/
theorem gnr_b {σ : MS} (hok : mOK σ) {i : Nat} (hi : i < 24) {v : Nat → Int} {b : Int} {mx : Nat} (hv : ∀ t, t < mN σ → (v t).natAbs ≤ mx) (hb : b.natAbs ≤ mx) : (gnum σ i v b).natAbs ≤ 2448000 * mx := by
  have h1 := gw_b hok hi hv (Nat.le_refl _)
  have h2 := hok.2.2.1 i hi
  have h3 := hok.2.2.2.1
  have h4 := hok.2.2.2.2.1
  have h5 := mT_b hok hi
  have h6 : (sI (fun t => v t * (mW σ i t : Int)) (mN σ) * (mA σ : Int) * (mD σ i : Int)).natAbs ≤ 120 * mx * 20 * 20 := mulb (mulb h1 (by omega)) (by omega)
  have h7 : (b * ((mB σ : Int) * (mT σ i : Int)) * mU σ i).natAbs ≤ mx * (20 * 120) * 1000 := mulb (mulb hb (mulb (by omega) (by omega))) (by omega)
  rw [← gn_ref]
  omega
theorem cI_0 {x y : Int} : (0 < cI x y ↔ y < x) ∧ (cI x y = 0 ↔ x = y) ∧ -1 ≤ cI x y ∧ cI x y ≤ 1 := by
  unfold cI
  split
  · omega
  · split <;> omega
/-- scales without the discount's lower part compare as those with it -/
theorem gm_ref {σ : MS} (hok : mOK σ) (i j : Nat) (v : Nat → Int) (b : Int) : (gnum σ j v b * ((mD σ i : Int) * (mT σ i : Int)) < gnum σ i v b * ((mD σ j : Int) * (mT σ j : Int)) ↔ gmore σ v b i j) ∧ (gnum σ i v b * ((mD σ j : Int) * (mT σ j : Int)) = gnum σ j v b * ((mD σ i : Int) * (mT σ i : Int)) ↔ gnum σ i v b * gsc σ j = gnum σ j v b * gsc σ i) := by
  have hB : 0 < (mB σ : Int) := by have := hok.2.2.2.1; omega
  have e1 : gnum σ i v b * gsc σ j = gnum σ i v b * ((mD σ j : Int) * (mT σ j : Int)) * (mB σ : Int) := by unfold gsc; grind
  have e2 : gnum σ j v b * gsc σ i = gnum σ j v b * ((mD σ i : Int) * (mT σ i : Int)) * (mB σ : Int) := by unfold gsc; grind
  show (_ ↔ gnum σ j v b * gsc σ i < gnum σ i v b * gsc σ j) ∧ _
  rw [e1, e2]
  exact ⟨⟨fun h => Int.mul_lt_mul_of_pos_right h hB, fun h => Int.lt_of_mul_lt_mul_right h (by omega)⟩, ⟨fun h => by rw [h], fun h => Int.eq_of_mul_eq_mul_right (by omega) h⟩⟩
set_option maxHeartbeats 4000000 in
set_option maxRecDepth 100000 in
/-- gainInto(i, values, below, to) -/
theorem r_gainInto (l : Launch) (D : va_G) (E : Nat → ClassId) (r0 : Nat) (σ : MS) (th so rn co : Int) (gU gD gW vs0 : Nat → Int) (i val bel to mx : Nat) (hi : i < 24) (hmi : gU (i) = mU σ (i) ∧ gD (i) = (mD σ (i) : Int) ∧ ∀ t, t < 6 → gW (6 * (i) + t) = (mW σ (i) t : Int)) (hpt : to < 80) (k1 : to ≠ 51) (k3 : bel ≠ to) (k5 : to < val ∨ val + 6 ≤ to) (hok : mOK σ) (hval : val + 6 ≤ 80) (hbel : bel < 80) (k2 : bel ≠ 51) (k4 : 51 < val ∨ val + 6 ≤ 51) (hbv : ∀ t, t < mN σ → (vs0 (val + t)).natAbs ≤ mx) (hbb : (vs0 bel).natAbs ≤ mx) (hmx : mx * 8000000000 < 268435456 ^ 62) : pw_M rvV l D E yX10_gainInto wsX10_gainInto ({ frames := 2, cells := 0, slots := 0, locals := 53 } : Room) [.ref (r0), .int (iI ((i : Int))), .int (iI ((val : Int))), .int (iI ((bel : Int))), .int (iI ((to : Int)))] (fun H => OA D r0 10 [.int (iI (th)), .int (iI ((mN σ : Int))), .ref (r0 + 1), .ref (r0 + 2), .ref (r0 + 3), .ref (r0 + 4), .int (iI ((mA σ : Int))), .int (iI ((mB σ : Int))), .int (iI (so)), .int (iI (rn)), .ref (r0 + 5), .ref (r0 + 6), .ref (r0 + 7), .ref (r0 + 8), .ref (r0 + 9), .ref (r0 + 10), .ref (r0 + 11), .ref (r0 + 12), .ref (r0 + 13), .int (iI (co))] H ∧ IA E (r0 + 2) 24 gU H ∧ IA E (r0 + 3) 24 gD H ∧ IA E (r0 + 4) 144 gW H ∧ BN E r0 vs0 H) (fun _ H => ∃ vs, BN E r0 vs H ∧ vs to = gnum σ i (fun t => vs0 (val + t)) (vs0 bel) ∧ ∀ c, c ≠ to → c ≠ 51 → vs c = vs0 c) (fun q => q = r0 + 8 ∨ q = r0 + 9 ∨ q = r0 + 10) (0) (0) := by
  refine pw_of (cc := cX10_gainInto) (maxL := 6) (ret := none) (by decide +kernel) rfl (Nat.le_of_ble_eq_true rfl) ?_
  intro p e s m args below meth c hx hb hr hml hts hown hlocks hini hK ⟨hO, hU, hDn, hW, f, g, h, ⟨hf, hg, hh⟩, hN⟩ ls hl
  have hown : s.vm.findClass RX10 = some m.cls := hown
  have hl : lv_has ls 6 [(0, .ref (r0)), (1, .int (iI ((i : Int)))), (2, .int (iI ((val : Int)))), (3, .int (iI ((bel : Int)))), (4, .int (iI ((to : Int))))] := hl
  have hS : va_S (fun q => q = r0 + 8 ∨ q = r0 + 9 ∨ q = r0 + 10) s.heap s.heap [] := va_S.rf
  have lk_13 := hts (.fieldLink RX10 13 "PolicyWorksModel" "ups" "[I") (by decide +kernel)
  have lk_16 := hts (.fieldLink RX10 16 "PolicyWorksModel" "downs" "[I") (by decide +kernel)
  have lk_19 := hts (.fieldLink RX10 19 "PolicyWorksModel" "weights" "[I") (by decide +kernel)
  have lk_22 := hts (.fieldLink RX10 22 "PolicyWorksModel" "discountUp" "I") (by decide +kernel)
  have lk_26 := hts (.fieldLink RX10 26 "PolicyWorksModel" "discountDown" "I") (by decide +kernel)
  have lk_103 := hts (.fieldLink RX10 103 "PolicyWorksModel" "states" "I") (by decide +kernel)
  have hin10 : ∀ w ∈ wsX100, w ∈ wsX10_gainInto := by decide +kernel
  have hN6 := hok.1
  obtain ⟨u1, u2, d1, d2, ww⟩ := hok.2.2.1 i hi
  have hA := hok.2.2.2.1
  have hB := hok.2.2.2.2.1
  have hT := mT_b hok hi
  have p62 : 268435456 ^ 62 < 268435456 ^ 63 := by decide +kernel
  have p63 : 268435456 ^ 63 < 268435456 ^ 64 := by decide +kernel
  have hgw : ∀ k, k ≤ mN σ → (sI (fun t => vs0 (val + t) * (mW σ i t : Int)) k).natAbs ≤ 120 * mx := fun k hk => gw_b hok hi hbv hk
  have hvc0 : ∀ c, c ≠ to ∧ c ≠ 51 → vs0 (c) = vs0 c := fun _ _ => rfl
  have loop : ∀ (kk t : Nat) (vs f g h : Nat → Int) (H : Heap) (locs : List Loc) (ls : Array Slot), t + kk = mN σ → vs (to) = sI (fun t => vs0 (val + t) * (mW σ i t : Int)) t → (∀ c, c ≠ to ∧ c ≠ 51 → vs (c) = vs0 c) → OA D r0 10 [.int (iI (th)), .int (iI ((mN σ : Int))), .ref (r0 + 1), .ref (r0 + 2), .ref (r0 + 3), .ref (r0 + 4), .int (iI ((mA σ : Int))), .int (iI ((mB σ : Int))), .int (iI (so)), .int (iI (rn)), .ref (r0 + 5), .ref (r0 + 6), .ref (r0 + 7), .ref (r0 + 8), .ref (r0 + 9), .ref (r0 + 10), .ref (r0 + 11), .ref (r0 + 12), .ref (r0 + 13), .int (iI (co))] H → IA E (r0 + 2) 24 gU H → IA E (r0 + 3) 24 gD H → IA E (r0 + 4) 144 gW H → IA E (r0 + 8) 5120 f H → IA E (r0 + 9) 80 g H → IA E (r0 + 10) 80 h H → (∀ c, c < 80 → Num f g h c (vs c)) → va_S (fun q => q = r0 + 8 ∨ q = r0 + 9 ∨ q = r0 + 10) s.heap H locs → lv_has ls 6 [(0, .ref (r0)), (1, .int (iI ((i : Int)))), (2, .int (iI ((val : Int)))), (3, .int (iI ((bel : Int)))), (4, .int (iI ((to : Int)))), (5, .int (iI ((t : Int))))] → W p l e ({ frames := 2, cells := 0, slots := 0, locals := 53 } : Room) s m args below meth c H locs (0) (0) (MQ below (pw_Q rvV (fun _ H => ∃ vs, BN E r0 vs H ∧ vs to = gnum σ i (fun t => vs0 (val + t)) (vs0 bel) ∧ ∀ c, c ≠ to → c ≠ 51 → vs c = vs0 c) (fun q => q = r0 + 8 ∨ q = r0 + 9 ∨ q = r0 + 10)) args s (0) (0) (fun q => q = r0 + 8 ∨ q = r0 + 9 ∨ q = r0 + 10)) (F0 m 10 ls []) := by
    intro kk
    induction kk with
    | zero =>
      intro t vs f g h H locs ls ht ht0 hvc hO hU hDn hW hf hg hh hN hS hl
      have et : t = mN σ := by omega
      subst et
      have hs := hgw _ (Nat.le_refl _)
      have hs1 : (sI (fun t => vs0 (val + t) * (mW σ i t : Int)) (mN σ) * (mA σ : Int)).natAbs ≤ 120 * mx * 20 := mulb hs (by omega)
      have hs2 : (sI (fun t => vs0 (val + t) * (mW σ i t : Int)) (mN σ) * (mA σ : Int) * (mD σ i : Int)).natAbs ≤ 120 * mx * 20 * 20 := mulb hs1 (by omega)
      have hb1 : (vs0 bel * ((mB σ : Int) * (mT σ i : Int))).natAbs ≤ mx * (20 * 120) := mulb hbb (mulb (by omega) (by omega))
      have hb2 : (vs0 bel * ((mB σ : Int) * (mT σ i : Int)) * mU σ i).natAbs ≤ mx * (20 * 120) * 1000 := mulb hb1 (by omega)
      have hbt : ((mB σ : Int) * (mT σ i : Int)).natAbs ≤ 20 * 120 := mulb (by omega) (by omega)
      have hbe := hvc bel ⟨k3, k2⟩
      refine lv_iload hx hb dX10_gainInto_10 (lv_at hl 5 rfl) ?_
      refine lv_aload_n hx hb dX10_gainInto_12 rfl (lv_at hl 0 rfl) ?_
      refine pw_get (C := RX10) (T := TX10) (N := 20) hx hb hts hin10 hown hK hO rfl 1 (by decide) lk_103 rfl rfl dX10_gainInto_13 ?_
      refine pw_icmp_ge (tgt := 62) hx hb dX10_gainInto_16 (by decide) (fun c_16 => ?_) (fun c_16 => absurd c_16 (by omega))
      refine lv_aload_n hx hb dX10_gainInto_62 rfl (lv_at hl 0 rfl) ?_
      refine lv_iload hx hb dX10_gainInto_63 (lv_at hl 4 rfl) ?_
      refine lv_aload_n hx hb dX10_gainInto_65 rfl (lv_at hl 0 rfl) ?_
      refine pw_get (C := RX10) (T := TX10) (N := 20) hx hb hts hin10 hown hK hO rfl 6 (by decide) lk_22 rfl rfl dX10_gainInto_66 ?_
      refine pw_callVv (As := [.int (iI ((to : Int))), .int (iI ((mA σ : Int)))]) (rest := []) ⟨hx, hb, hml, hown, hts⟩ (r_times l D E r0 (oV th σ so rn co) f g h to (sI (fun t => vs0 (val + t) * (mW σ i t : Int)) (mN σ)) (mA σ : Int) (by omega) (by omega) (by omega) (num_at (hN (to) (by omega)) ht0) (by omega)) (cwV 2 hts gX10_gainInto_X10_times rfl rfl rfl (by decide +kernel) ⟨Nat.le_of_ble_eq_true rfl, Nat.le_of_ble_eq_true rfl⟩) hK hO rfl ⟨hO, hf, hg, hh⟩ rfl hl.1 rfl (Nat.le_of_ble_eq_true rfl) dX10_gainInto_69 ⟨Nat.zero_le _, Nat.zero_le _⟩ hS (fun q h => h) (fun H1 locs1 ⟨f, g, h, ⟨hf, hg, hh⟩, hn1, ho1⟩ hz1 hk1 hS => ?_)
      replace hO := hO.k (hk1 _ hO.lt (by (try dsimp only); omega))
      replace hU := hU.k (hk1 _ hU.lt (by (try dsimp only); omega))
      replace hDn := hDn.k (hk1 _ hDn.lt (by (try dsimp only); omega))
      replace hW := hW.k (hk1 _ hW.lt (by (try dsimp only); omega))
      obtain ⟨vs, hva0, hvo, hN⟩ := bn_np hN hn1 ho1
      clear hn1 ho1
      have hbe : vs (bel) = vs0 bel := (hvo _ (by omega)).trans hbe
      have hvc : ∀ c, c ≠ to ∧ c ≠ 51 → vs (c) = vs0 c := fun c hq => (hvo _ (by omega)).trans (hvc c hq)
      have ht0 : vs (to) = sI (fun t => vs0 (val + t) * (mW σ i t : Int)) (mN σ) * (mA σ : Int) := hva0
      clear hva0 hvo
      refine lv_aload_n hx hb dX10_gainInto_72 rfl (lv_at hl 0 rfl) ?_
      refine lv_iload hx hb dX10_gainInto_73 (lv_at hl 4 rfl) ?_
      refine lv_aload_n hx hb dX10_gainInto_75 rfl (lv_at hl 0 rfl) ?_
      refine pw_get (C := RX10) (T := TX10) (N := 20) hx hb hts hin10 hown hK hO rfl 4 (by decide) lk_16 rfl rfl dX10_gainInto_76 ?_
      refine lv_iload_n hx hb dX10_gainInto_79 rfl (lv_at hl 1 rfl) ?_
      refine pw_iald hx hb hK hDn (i) rfl (by omega) (by omega) dX10_gainInto_80 ?_
      refine pw_asi ((mD σ i : Int)) hmi.2.1 ?_
      refine pw_callVv (As := [.int (iI ((to : Int))), .int (iI ((mD σ i : Int)))]) (rest := []) ⟨hx, hb, hml, hown, hts⟩ (r_times l D E r0 (oV th σ so rn co) f g h to (sI (fun t => vs0 (val + t) * (mW σ i t : Int)) (mN σ) * (mA σ : Int)) (mD σ i : Int) (by omega) (by omega) (by omega) (num_at (hN (to) (by omega)) ht0) (by omega)) (cwV 2 hts gX10_gainInto_X10_times rfl rfl rfl (by decide +kernel) ⟨Nat.le_of_ble_eq_true rfl, Nat.le_of_ble_eq_true rfl⟩) hK hO rfl ⟨hO, hf, hg, hh⟩ rfl hl.1 rfl (Nat.le_of_ble_eq_true rfl) dX10_gainInto_81 ⟨Nat.zero_le _, Nat.zero_le _⟩ hS (fun q h => h) (fun H1 locs1 ⟨f, g, h, ⟨hf, hg, hh⟩, hn1, ho1⟩ hz1 hk1 hS => ?_)
      replace hO := hO.k (hk1 _ hO.lt (by (try dsimp only); omega))
      replace hU := hU.k (hk1 _ hU.lt (by (try dsimp only); omega))
      replace hDn := hDn.k (hk1 _ hDn.lt (by (try dsimp only); omega))
      replace hW := hW.k (hk1 _ hW.lt (by (try dsimp only); omega))
      obtain ⟨vs, hva0, hvo, hN⟩ := bn_np hN hn1 ho1
      clear hn1 ho1
      have hbe : vs (bel) = vs0 bel := (hvo _ (by omega)).trans hbe
      have hvc : ∀ c, c ≠ to ∧ c ≠ 51 → vs (c) = vs0 c := fun c hq => (hvo _ (by omega)).trans (hvc c hq)
      have ht0 : vs (to) = sI (fun t => vs0 (val + t) * (mW σ i t : Int)) (mN σ) * (mA σ : Int) * (mD σ i : Int) := hva0
      clear hva0 hvo
      refine lv_aload_n hx hb dX10_gainInto_84 rfl (lv_at hl 0 rfl) ?_
      refine lv_iload_n hx hb dX10_gainInto_85 rfl (lv_at hl 3 rfl) ?_
      refine pw_bipush hx hb dX10_gainInto_86 ?_
      refine pw_callVv (As := [.int (iI ((bel : Int))), .int (iI (51))]) (rest := []) ⟨hx, hb, hml, hown, hts⟩ (r_copy l D E r0 (oV th σ so rn co) f g h bel 51 (vs0 bel) (by omega) (by omega) (by omega) (num_at (hN (bel) (by omega)) hbe)) (cwV 2 hts gX10_gainInto_X10_copy rfl rfl rfl (by decide +kernel) ⟨Nat.le_of_ble_eq_true rfl, Nat.le_of_ble_eq_true rfl⟩) hK hO rfl ⟨hO, hf, hg, hh⟩ rfl hl.1 rfl (Nat.le_of_ble_eq_true rfl) dX10_gainInto_88 ⟨Nat.zero_le _, Nat.zero_le _⟩ hS (fun q h => h) (fun H1 locs1 ⟨f, g, h, ⟨hf, hg, hh⟩, hn1, ho1⟩ hz1 hk1 hS => ?_)
      replace hO := hO.k (hk1 _ hO.lt (by (try dsimp only); omega))
      replace hU := hU.k (hk1 _ hU.lt (by (try dsimp only); omega))
      replace hDn := hDn.k (hk1 _ hDn.lt (by (try dsimp only); omega))
      replace hW := hW.k (hk1 _ hW.lt (by (try dsimp only); omega))
      obtain ⟨vs, hva0, hvo, hN⟩ := bn_np hN hn1 ho1
      clear hn1 ho1
      have ht0 : vs (to) = sI (fun t => vs0 (val + t) * (mW σ i t : Int)) (mN σ) * (mA σ : Int) * (mD σ i : Int) := (hvo _ (by omega)).trans ht0
      have hbe : vs (bel) = vs0 bel := (hvo _ (by omega)).trans hbe
      have hvc : ∀ c, c ≠ to ∧ c ≠ 51 → vs (c) = vs0 c := fun c hq => (hvo _ (by omega)).trans (hvc c hq)
      have h51 : vs (51) = vs0 bel := hva0
      clear hva0 hvo
      refine lv_aload_n hx hb dX10_gainInto_91 rfl (lv_at hl 0 rfl) ?_
      refine pw_bipush hx hb dX10_gainInto_92 ?_
      refine lv_aload_n hx hb dX10_gainInto_94 rfl (lv_at hl 0 rfl) ?_
      refine pw_get (C := RX10) (T := TX10) (N := 20) hx hb hts hin10 hown hK hO rfl 7 (by decide) lk_26 rfl rfl dX10_gainInto_95 ?_
      refine lv_aload_n hx hb dX10_gainInto_98 rfl (lv_at hl 0 rfl) ?_
      refine lv_iload_n hx hb dX10_gainInto_99 rfl (lv_at hl 1 rfl) ?_
      refine pw_callVi (As := [.int (iI ((i : Int)))]) (rest := [.int (iI ((mB σ : Int))), .int (iI (51)), .ref (r0)]) ⟨hx, hb, hml, hown, hts⟩ (r_sumOf l D E r0 σ th so rn co i gW hi hmi.2.2 hok) (cwV 1 hts gX10_gainInto_X10_sumOf rfl rfl rfl (by decide +kernel) ⟨Nat.le_of_ble_eq_true rfl, Nat.le_of_ble_eq_true rfl⟩) hK hO rfl ⟨hO, hW⟩ rfl hl.1 rfl (Nat.le_of_ble_eq_true rfl) dX10_gainInto_100 ⟨Nat.zero_le _, Nat.zero_le _⟩ hS (fun q h => h.elim) (fun z H1 locs1 hz hz1 hk1 hS => ?_)
      replace hO := hO.k (hk1 _ hO.lt (fun h => h))
      replace hU := hU.k (hk1 _ hU.lt (fun h => h))
      replace hDn := hDn.k (hk1 _ hDn.lt (fun h => h))
      replace hW := hW.k (hk1 _ hW.lt (fun h => h))
      replace hf := hf.k (hk1 _ hf.lt (fun h => h))
      replace hg := hg.k (hk1 _ hg.lt (fun h => h))
      replace hh := hh.k (hk1 _ hh.lt (fun h => h))
      subst hz
      refine pw_imul hx hb dX10_gainInto_103 ?_
      refine pw_callVv (As := [.int (iI (51)), .int (iI (((mB σ : Int)) * ((mT σ i : Int))))]) (rest := []) ⟨hx, hb, hml, hown, hts⟩ (r_times l D E r0 (oV th σ so rn co) f g h 51 (vs0 bel) ((mB σ : Int) * (mT σ i : Int)) (by omega) (by omega) (by omega) (num_at (hN (51) (by omega)) h51) (by omega)) (cwV 2 hts gX10_gainInto_X10_times rfl rfl rfl (by decide +kernel) ⟨Nat.le_of_ble_eq_true rfl, Nat.le_of_ble_eq_true rfl⟩) hK hO rfl ⟨hO, hf, hg, hh⟩ rfl hl.1 rfl (Nat.le_of_ble_eq_true rfl) dX10_gainInto_104 ⟨Nat.zero_le _, Nat.zero_le _⟩ hS (fun q h => h) (fun H1 locs1 ⟨f, g, h, ⟨hf, hg, hh⟩, hn1, ho1⟩ hz1 hk1 hS => ?_)
      replace hO := hO.k (hk1 _ hO.lt (by (try dsimp only); omega))
      replace hU := hU.k (hk1 _ hU.lt (by (try dsimp only); omega))
      replace hDn := hDn.k (hk1 _ hDn.lt (by (try dsimp only); omega))
      replace hW := hW.k (hk1 _ hW.lt (by (try dsimp only); omega))
      obtain ⟨vs, hva0, hvo, hN⟩ := bn_np hN hn1 ho1
      clear hn1 ho1
      have ht0 : vs (to) = sI (fun t => vs0 (val + t) * (mW σ i t : Int)) (mN σ) * (mA σ : Int) * (mD σ i : Int) := (hvo _ (by omega)).trans ht0
      have hbe : vs (bel) = vs0 bel := (hvo _ (by omega)).trans hbe
      have hvc : ∀ c, c ≠ to ∧ c ≠ 51 → vs (c) = vs0 c := fun c hq => (hvo _ (by omega)).trans (hvc c hq)
      have h51 : vs (51) = vs0 bel * ((mB σ : Int) * (mT σ i : Int)) := hva0
      clear hva0 hvo
      refine lv_aload_n hx hb dX10_gainInto_107 rfl (lv_at hl 0 rfl) ?_
      refine pw_bipush hx hb dX10_gainInto_108 ?_
      refine lv_aload_n hx hb dX10_gainInto_110 rfl (lv_at hl 0 rfl) ?_
      refine pw_get (C := RX10) (T := TX10) (N := 20) hx hb hts hin10 hown hK hO rfl 3 (by decide) lk_13 rfl rfl dX10_gainInto_111 ?_
      refine lv_iload_n hx hb dX10_gainInto_114 rfl (lv_at hl 1 rfl) ?_
      refine pw_iald hx hb hK hU (i) rfl (by omega) (by omega) dX10_gainInto_115 ?_
      refine pw_asi (mU σ i) hmi.1 ?_
      refine pw_callVv (As := [.int (iI (51)), .int (iI (mU σ i))]) (rest := []) ⟨hx, hb, hml, hown, hts⟩ (r_times l D E r0 (oV th σ so rn co) f g h 51 (vs0 bel * ((mB σ : Int) * (mT σ i : Int))) (mU σ i) (by omega) (by omega) (by omega) (num_at (hN (51) (by omega)) h51) (by omega)) (cwV 2 hts gX10_gainInto_X10_times rfl rfl rfl (by decide +kernel) ⟨Nat.le_of_ble_eq_true rfl, Nat.le_of_ble_eq_true rfl⟩) hK hO rfl ⟨hO, hf, hg, hh⟩ rfl hl.1 rfl (Nat.le_of_ble_eq_true rfl) dX10_gainInto_116 ⟨Nat.zero_le _, Nat.zero_le _⟩ hS (fun q h => h) (fun H1 locs1 ⟨f, g, h, ⟨hf, hg, hh⟩, hn1, ho1⟩ hz1 hk1 hS => ?_)
      replace hO := hO.k (hk1 _ hO.lt (by (try dsimp only); omega))
      replace hU := hU.k (hk1 _ hU.lt (by (try dsimp only); omega))
      replace hDn := hDn.k (hk1 _ hDn.lt (by (try dsimp only); omega))
      replace hW := hW.k (hk1 _ hW.lt (by (try dsimp only); omega))
      obtain ⟨vs, hva0, hvo, hN⟩ := bn_np hN hn1 ho1
      clear hn1 ho1
      have ht0 : vs (to) = sI (fun t => vs0 (val + t) * (mW σ i t : Int)) (mN σ) * (mA σ : Int) * (mD σ i : Int) := (hvo _ (by omega)).trans ht0
      have hbe : vs (bel) = vs0 bel := (hvo _ (by omega)).trans hbe
      have hvc : ∀ c, c ≠ to ∧ c ≠ 51 → vs (c) = vs0 c := fun c hq => (hvo _ (by omega)).trans (hvc c hq)
      have h51 : vs (51) = vs0 bel * ((mB σ : Int) * (mT σ i : Int)) * mU σ i := hva0
      clear hva0 hvo
      refine lv_aload_n hx hb dX10_gainInto_119 rfl (lv_at hl 0 rfl) ?_
      refine lv_iload hx hb dX10_gainInto_120 (lv_at hl 4 rfl) ?_
      refine pw_bipush hx hb dX10_gainInto_122 ?_
      refine pw_iconst hx hb dX10_gainInto_124 ?_
      refine pw_callVv (As := [.int (iI ((to : Int))), .int (iI (51)), .int (iI (1))]) (rest := []) ⟨hx, hb, hml, hown, hts⟩ (r_plus l D E r0 (oV th σ so rn co) f g h to 51 (sI (fun t => vs0 (val + t) * (mW σ i t : Int)) (mN σ) * (mA σ : Int) * (mD σ i : Int)) (vs0 bel * ((mB σ : Int) * (mT σ i : Int)) * mU σ i) 1 (by omega) (by omega) (by omega) (Or.inl rfl) (num_at (hN (to) (by omega)) ht0) (num_at (hN (51) (by omega)) h51) (by omega) (by omega)) (cwV 3 hts gX10_gainInto_X10_plus rfl rfl rfl (by decide +kernel) ⟨Nat.le_of_ble_eq_true rfl, Nat.le_of_ble_eq_true rfl⟩) hK hO rfl ⟨hO, hf, hg, hh⟩ rfl hl.1 rfl (Nat.le_of_ble_eq_true rfl) dX10_gainInto_125 ⟨Nat.zero_le _, Nat.zero_le _⟩ hS (fun q h => h) (fun H1 locs1 ⟨f, g, h, ⟨hf, hg, hh⟩, hn1, ho1⟩ hz1 hk1 hS => ?_)
      replace hO := hO.k (hk1 _ hO.lt (by (try dsimp only); omega))
      replace hU := hU.k (hk1 _ hU.lt (by (try dsimp only); omega))
      replace hDn := hDn.k (hk1 _ hDn.lt (by (try dsimp only); omega))
      replace hW := hW.k (hk1 _ hW.lt (by (try dsimp only); omega))
      obtain ⟨vs, hva0, hvo, hN⟩ := bn_np hN hn1 ho1
      clear hn1 ho1
      have hbe : vs (bel) = vs0 bel := (hvo _ (by omega)).trans hbe
      have hvc : ∀ c, c ≠ to ∧ c ≠ 51 → vs (c) = vs0 c := fun c hq => (hvo _ (by omega)).trans (hvc c hq)
      have h51 : vs (51) = vs0 bel * ((mB σ : Int) * (mT σ i : Int)) * mU σ i := (hvo _ (by omega)).trans h51
      have ht0 : vs (to) = gnum σ i (fun t => vs0 (val + t)) (vs0 bel) := (hva0.trans (gn_ref σ i _ _))
      clear hva0 hvo
      exact pw_vret hx hb hr hlocks hS ⟨vs, ⟨f, g, h, ⟨hf, hg, hh⟩, hN⟩, ht0, fun c h1 h2 => hvc c ⟨h1, h2⟩⟩ dX10_gainInto_128
    | succ kk ih =>
      intro t vs f g h H locs ls ht ht0 hvc hO hU hDn hW hf hg hh hN hS hl
      have hs := hgw t (by omega)
      have hbt := hbv t (by omega)
      have hwt := ww t (by omega)
      have hs1 : (vs0 (val + t) * (mW σ i t : Int)).natAbs ≤ mx * 20 := mulb hbt (by omega)
      have hvt := hvc (val + t) (by omega)
      refine lv_iload hx hb dX10_gainInto_10 (lv_at hl 5 rfl) ?_
      refine lv_aload_n hx hb dX10_gainInto_12 rfl (lv_at hl 0 rfl) ?_
      refine pw_get (C := RX10) (T := TX10) (N := 20) hx hb hts hin10 hown hK hO rfl 1 (by decide) lk_103 rfl rfl dX10_gainInto_13 ?_
      refine pw_icmp_ge (tgt := 62) hx hb dX10_gainInto_16 (by decide) (fun c_16 => absurd c_16 (by omega)) (fun c_16 => ?_)
      refine lv_aload_n hx hb dX10_gainInto_19 rfl (lv_at hl 0 rfl) ?_
      refine lv_iload_n hx hb dX10_gainInto_20 rfl (lv_at hl 2 rfl) ?_
      refine lv_iload hx hb dX10_gainInto_21 (lv_at hl 5 rfl) ?_
      refine pw_iadd hx hb dX10_gainInto_23 ?_
      refine pw_asi (((val + t : Nat) : Int)) (by omega) ?_
      refine pw_bipush hx hb dX10_gainInto_24 ?_
      refine pw_callVv (As := [.int (iI (((val + t : Nat) : Int))), .int (iI (51))]) (rest := []) ⟨hx, hb, hml, hown, hts⟩ (r_copy l D E r0 (oV th σ so rn co) f g h (val + t) 51 (vs0 (val + t)) (by omega) (by omega) (by omega) (num_at (hN (val + t) (by omega)) hvt)) (cwV 2 hts gX10_gainInto_X10_copy rfl rfl rfl (by decide +kernel) ⟨Nat.le_of_ble_eq_true rfl, Nat.le_of_ble_eq_true rfl⟩) hK hO rfl ⟨hO, hf, hg, hh⟩ rfl hl.1 rfl (Nat.le_of_ble_eq_true rfl) dX10_gainInto_26 ⟨Nat.zero_le _, Nat.zero_le _⟩ hS (fun q h => h) (fun H1 locs1 ⟨f, g, h, ⟨hf, hg, hh⟩, hn1, ho1⟩ hz1 hk1 hS => ?_)
      replace hO := hO.k (hk1 _ hO.lt (by (try dsimp only); omega))
      replace hU := hU.k (hk1 _ hU.lt (by (try dsimp only); omega))
      replace hDn := hDn.k (hk1 _ hDn.lt (by (try dsimp only); omega))
      replace hW := hW.k (hk1 _ hW.lt (by (try dsimp only); omega))
      obtain ⟨vs, hva0, hvo, hN⟩ := bn_np hN hn1 ho1
      clear hn1 ho1
      have ht0 : vs (to) = sI (fun t => vs0 (val + t) * (mW σ i t : Int)) t := (hvo _ (by omega)).trans ht0
      have hvc : ∀ c, c ≠ to ∧ c ≠ 51 → vs (c) = vs0 c := fun c hq => (hvo _ (by omega)).trans (hvc c hq)
      have h51 : vs (51) = vs0 (val + t) := hva0
      clear hva0 hvo
      refine lv_aload_n hx hb dX10_gainInto_29 rfl (lv_at hl 0 rfl) ?_
      refine pw_bipush hx hb dX10_gainInto_30 ?_
      refine lv_aload_n hx hb dX10_gainInto_32 rfl (lv_at hl 0 rfl) ?_
      refine pw_get (C := RX10) (T := TX10) (N := 20) hx hb hts hin10 hown hK hO rfl 5 (by decide) lk_19 rfl rfl dX10_gainInto_33 ?_
      refine pw_bipush hx hb dX10_gainInto_36 ?_
      refine lv_iload_n hx hb dX10_gainInto_38 rfl (lv_at hl 1 rfl) ?_
      refine pw_imul hx hb dX10_gainInto_39 ?_
      refine lv_iload hx hb dX10_gainInto_40 (lv_at hl 5 rfl) ?_
      refine pw_iadd hx hb dX10_gainInto_42 ?_
      refine pw_iald hx hb hK hW (6 * i + t) (by omega) (by omega) (by omega) dX10_gainInto_43 ?_
      refine pw_asi ((mW σ i t : Int)) (hmi.2.2 t (by omega)) ?_
      refine pw_callVv (As := [.int (iI (51)), .int (iI ((mW σ i t : Int)))]) (rest := []) ⟨hx, hb, hml, hown, hts⟩ (r_times l D E r0 (oV th σ so rn co) f g h 51 (vs0 (val + t)) (mW σ i t : Int) (by omega) (by omega) (by omega) (num_at (hN (51) (by omega)) h51) (by omega)) (cwV 2 hts gX10_gainInto_X10_times rfl rfl rfl (by decide +kernel) ⟨Nat.le_of_ble_eq_true rfl, Nat.le_of_ble_eq_true rfl⟩) hK hO rfl ⟨hO, hf, hg, hh⟩ rfl hl.1 rfl (Nat.le_of_ble_eq_true rfl) dX10_gainInto_44 ⟨Nat.zero_le _, Nat.zero_le _⟩ hS (fun q h => h) (fun H1 locs1 ⟨f, g, h, ⟨hf, hg, hh⟩, hn1, ho1⟩ hz1 hk1 hS => ?_)
      replace hO := hO.k (hk1 _ hO.lt (by (try dsimp only); omega))
      replace hU := hU.k (hk1 _ hU.lt (by (try dsimp only); omega))
      replace hDn := hDn.k (hk1 _ hDn.lt (by (try dsimp only); omega))
      replace hW := hW.k (hk1 _ hW.lt (by (try dsimp only); omega))
      obtain ⟨vs, hva0, hvo, hN⟩ := bn_np hN hn1 ho1
      clear hn1 ho1
      have ht0 : vs (to) = sI (fun t => vs0 (val + t) * (mW σ i t : Int)) t := (hvo _ (by omega)).trans ht0
      have hvc : ∀ c, c ≠ to ∧ c ≠ 51 → vs (c) = vs0 c := fun c hq => (hvo _ (by omega)).trans (hvc c hq)
      have h51 : vs (51) = vs0 (val + t) * (mW σ i t : Int) := hva0
      clear hva0 hvo
      refine lv_aload_n hx hb dX10_gainInto_47 rfl (lv_at hl 0 rfl) ?_
      refine lv_iload hx hb dX10_gainInto_48 (lv_at hl 4 rfl) ?_
      refine pw_bipush hx hb dX10_gainInto_50 ?_
      refine pw_iconst hx hb dX10_gainInto_52 ?_
      refine pw_callVv (As := [.int (iI ((to : Int))), .int (iI (51)), .int (iI (1))]) (rest := []) ⟨hx, hb, hml, hown, hts⟩ (r_plus l D E r0 (oV th σ so rn co) f g h to 51 (sI (fun t => vs0 (val + t) * (mW σ i t : Int)) t) (vs0 (val + t) * (mW σ i t : Int)) 1 (by omega) (by omega) (by omega) (Or.inl rfl) (num_at (hN (to) (by omega)) ht0) (num_at (hN (51) (by omega)) h51) (by omega) (by omega)) (cwV 3 hts gX10_gainInto_X10_plus rfl rfl rfl (by decide +kernel) ⟨Nat.le_of_ble_eq_true rfl, Nat.le_of_ble_eq_true rfl⟩) hK hO rfl ⟨hO, hf, hg, hh⟩ rfl hl.1 rfl (Nat.le_of_ble_eq_true rfl) dX10_gainInto_53 ⟨Nat.zero_le _, Nat.zero_le _⟩ hS (fun q h => h) (fun H1 locs1 ⟨f, g, h, ⟨hf, hg, hh⟩, hn1, ho1⟩ hz1 hk1 hS => ?_)
      replace hO := hO.k (hk1 _ hO.lt (by (try dsimp only); omega))
      replace hU := hU.k (hk1 _ hU.lt (by (try dsimp only); omega))
      replace hDn := hDn.k (hk1 _ hDn.lt (by (try dsimp only); omega))
      replace hW := hW.k (hk1 _ hW.lt (by (try dsimp only); omega))
      obtain ⟨vs, hva0, hvo, hN⟩ := bn_np hN hn1 ho1
      clear hn1 ho1
      have hvc : ∀ c, c ≠ to ∧ c ≠ 51 → vs (c) = vs0 c := fun c hq => (hvo _ (by omega)).trans (hvc c hq)
      have h51 : vs (51) = vs0 (val + t) * (mW σ i t : Int) := (hvo _ (by omega)).trans h51
      have ht0 : vs (to) = sI (fun t => vs0 (val + t) * (mW σ i t : Int)) (t + 1) := (hva0.trans (by rw [Int.one_mul]; rfl))
      clear hva0 hvo
      refine lv_iinc (v := iI (((t + 1 : Nat) : Int))) (lv' := [(5, .int (iI (((t + 1 : Nat) : Int)))), (0, .ref (r0)), (1, .int (iI ((i : Int)))), (2, .int (iI ((val : Int)))), (3, .int (iI ((bel : Int)))), (4, .int (iI ((to : Int))))]) hx hb dX10_gainInto_56 hl (k := 5) rfl (by show iI _ + iI _ = _; exact (iI_add _ _).trans (by first | rfl | (congr 1; omega))) (by decide) rfl (fun ls hl => ?_)
      refine lv_goto (tgt := 10) hx hb dX10_gainInto_59 (by decide) ?_
      exact ih (t + 1) vs f g h _ _ _ (by omega) ht0 hvc hO hU hDn hW hf hg hh hN hS (lv_sub hl [1, 2, 3, 4, 5, 0] rfl)
  refine lv_aload_n hx hb dX10_gainInto_0 rfl (lv_at hl 0 rfl) ?_
  refine lv_iload hx hb dX10_gainInto_1 (lv_at hl 4 rfl) ?_
  refine pw_lconst (z := 0) hx hb dX10_gainInto_3 ?_
  refine pw_callVv (As := [.int (iI ((to : Int))), .long (lI (0))]) (rest := []) ⟨hx, hb, hml, hown, hts⟩ (r_setSmall l D E r0 (oV th σ so rn co) f g h to 0 (by omega) (by omega) (by omega)) (cwV 2 hts gX10_gainInto_X10_setSmall rfl rfl rfl (by decide +kernel) ⟨Nat.le_of_ble_eq_true rfl, Nat.le_of_ble_eq_true rfl⟩) hK hO rfl ⟨hO, hf, hg, hh⟩ rfl hl.1 rfl (Nat.le_of_ble_eq_true rfl) dX10_gainInto_4 ⟨Nat.zero_le _, Nat.zero_le _⟩ hS (fun q h => h) (fun H1 locs1 ⟨f, g, h, ⟨hf, hg, hh⟩, hn1, ho1⟩ hz1 hk1 hS => ?_)
  replace hO := hO.k (hk1 _ hO.lt (by (try dsimp only); omega))
  replace hU := hU.k (hk1 _ hU.lt (by (try dsimp only); omega))
  replace hDn := hDn.k (hk1 _ hDn.lt (by (try dsimp only); omega))
  replace hW := hW.k (hk1 _ hW.lt (by (try dsimp only); omega))
  obtain ⟨vs, hva0, hvo, hN⟩ := bn_np hN hn1 ho1
  clear hn1 ho1
  have hvc0 : ∀ c, c ≠ to ∧ c ≠ 51 → vs (c) = vs0 c := fun c hq => (hvo _ (by omega)).trans (hvc0 c hq)
  have ht0 : vs (to) = 0 := hva0
  clear hva0 hvo
  refine pw_iconst hx hb dX10_gainInto_7 ?_
  refine lv_istore (lv' := [(5, .int (iI (0))), (0, .ref (r0)), (1, .int (iI ((i : Int)))), (2, .int (iI ((val : Int)))), (3, .int (iI ((bel : Int)))), (4, .int (iI ((to : Int))))]) hx hb dX10_gainInto_8 hl (by decide) rfl (fun ls hl => ?_)
  exact loop (mN σ) 0 vs f g h _ _ _ (by omega) ht0 hvc0 hO hU hDn hW hf hg hh hN hS (lv_sub hl [1, 2, 3, 4, 5, 0] rfl)
theorem gsum_eq {σ : MS} {i : Nat} {v v' : Nat → Int} : ∀ {k : Nat}, (∀ t, t < k → v t = v' t) → gsum σ i v k = gsum σ i v' k
  | 0, _ => rfl
  | k + 1, h => by
    show gsum σ i v k + v k * gct σ i k = gsum σ i v' k + v' k * gct σ i k
    rw [gsum_eq (k := k) (fun t ht => h t (by omega)), h k (by omega)]
theorem gnum_eq {σ : MS} {i : Nat} {v v' : Nat → Int} {b : Int} (h : ∀ t, t < mN σ → v t = v' t) : gnum σ i v b = gnum σ i v' b := by
  unfold gnum
  rw [gsum_eq h]
set_option maxHeartbeats 4000000 in
set_option maxRecDepth 100000 in
/-- compareGains(i, j, values, below) -/
theorem r_compareGains (l : Launch) (D : va_G) (E : Nat → ClassId) (r0 : Nat) (σ : MS) (th so rn co : Int) (gU gD gW vs0 : Nat → Int) (i j val bel mx : Nat) (hi : i < 24) (hj : j < 24) (hmi : gU (i) = mU σ (i) ∧ gD (i) = (mD σ (i) : Int) ∧ ∀ t, t < 6 → gW (6 * (i) + t) = (mW σ (i) t : Int)) (hmj : gU (j) = mU σ (j) ∧ gD (j) = (mD σ (j) : Int) ∧ ∀ t, t < 6 → gW (6 * (j) + t) = (mW σ (j) t : Int)) (k6 : bel < 49 ∨ 51 < bel) (k5 : 51 < val ∨ val + 6 ≤ 49) (hok : mOK σ) (hval : val + 6 ≤ 80) (hbel : bel < 80) (k2 : bel ≠ 51) (k4 : 51 < val ∨ val + 6 ≤ 51) (hbv : ∀ t, t < mN σ → (vs0 (val + t)).natAbs ≤ mx) (hbb : (vs0 bel).natAbs ≤ mx) (hmx : mx * 8000000000 < 268435456 ^ 62) : pw_M rvI l D E yX10_compareGains wsX10_compareGains ({ frames := 3, cells := 0, slots := 0, locals := 78 } : Room) [.ref (r0), .int (iI ((i : Int))), .int (iI ((j : Int))), .int (iI ((val : Int))), .int (iI ((bel : Int)))] (fun H => OA D r0 10 [.int (iI (th)), .int (iI ((mN σ : Int))), .ref (r0 + 1), .ref (r0 + 2), .ref (r0 + 3), .ref (r0 + 4), .int (iI ((mA σ : Int))), .int (iI ((mB σ : Int))), .int (iI (so)), .int (iI (rn)), .ref (r0 + 5), .ref (r0 + 6), .ref (r0 + 7), .ref (r0 + 8), .ref (r0 + 9), .ref (r0 + 10), .ref (r0 + 11), .ref (r0 + 12), .ref (r0 + 13), .int (iI (co))] H ∧ IA E (r0 + 2) 24 gU H ∧ IA E (r0 + 3) 24 gD H ∧ IA E (r0 + 4) 144 gW H ∧ BN E r0 vs0 H) (fun z H => (0 < z ↔ gmore σ (fun t => vs0 (val + t)) (vs0 bel) i j) ∧ (z = 0 ↔ gnum σ i (fun t => vs0 (val + t)) (vs0 bel) * gsc σ j = gnum σ j (fun t => vs0 (val + t)) (vs0 bel) * gsc σ i) ∧ (-1 ≤ z ∧ z ≤ 1) ∧ ∃ vs, BN E r0 vs H ∧ ∀ c, c < 49 ∨ 51 < c → vs c = vs0 c) (fun q => q = r0 + 8 ∨ q = r0 + 9 ∨ q = r0 + 10) (0) (0) := by
  refine pw_of (cc := cX10_compareGains) (maxL := 5) (ret := (some .int)) (by decide +kernel) rfl (Nat.le_of_ble_eq_true rfl) ?_
  intro p e s m args below meth c hx hb hr hml hts hown hlocks hini hK ⟨hO, hU, hDn, hW, f, g, h, ⟨hf, hg, hh⟩, hN⟩ ls hl
  have hown : s.vm.findClass RX10 = some m.cls := hown
  have hl : lv_has ls 5 [(0, .ref (r0)), (1, .int (iI ((i : Int)))), (2, .int (iI ((j : Int)))), (3, .int (iI ((val : Int)))), (4, .int (iI ((bel : Int))))] := hl
  have hS : va_S (fun q => q = r0 + 8 ∨ q = r0 + 9 ∨ q = r0 + 10) s.heap s.heap [] := va_S.rf
  have lk_16 := hts (.fieldLink RX10 16 "PolicyWorksModel" "downs" "[I") (by decide +kernel)
  have hin10 : ∀ w ∈ wsX100, w ∈ wsX10_compareGains := by decide +kernel
  have hN6 := hok.1
  obtain ⟨u1, u2, d1, d2, ww⟩ := hok.2.2.1 i hi
  obtain ⟨u1j, u2j, d1j, d2j, wwj⟩ := hok.2.2.1 j hj
  have hTi := mT_b hok hi
  have hTj := mT_b hok hj
  have p62 : 268435456 ^ 62 < 268435456 ^ 63 := by decide +kernel
  have p63 : 268435456 ^ 63 < 268435456 ^ 64 := by decide +kernel
  have gbi := gnr_b hok hi (v := (fun t => vs0 (val + t))) hbv hbb
  have gbj := gnr_b hok hj (v := (fun t => vs0 (val + t))) hbv hbb
  have bti : ((mD σ i : Int) * (mT σ i : Int)).natAbs ≤ 20 * 120 := mulb (by omega) (by omega)
  have btj : ((mD σ j : Int) * (mT σ j : Int)).natAbs ≤ 20 * 120 := mulb (by omega) (by omega)
  have hg1 : (gnum σ i (fun t => vs0 (val + t)) (vs0 bel) * ((mD σ j : Int) * (mT σ j : Int))).natAbs ≤ 2448000 * mx * (20 * 120) := mulb gbi btj
  have hg2 : (gnum σ j (fun t => vs0 (val + t)) (vs0 bel) * ((mD σ i : Int) * (mT σ i : Int))).natAbs ≤ 2448000 * mx * (20 * 120) := mulb gbj bti
  have hgm := gm_ref hok i j (fun t => vs0 (val + t)) (vs0 bel)
  have hci := cI_0 (x := gnum σ i (fun t => vs0 (val + t)) (vs0 bel) * ((mD σ j : Int) * (mT σ j : Int))) (y := gnum σ j (fun t => vs0 (val + t)) (vs0 bel) * ((mD σ i : Int) * (mT σ i : Int)))
  refine lv_aload_n hx hb dX10_compareGains_0 rfl (lv_at hl 0 rfl) ?_
  refine lv_iload_n hx hb dX10_compareGains_1 rfl (lv_at hl 1 rfl) ?_
  refine lv_iload_n hx hb dX10_compareGains_2 rfl (lv_at hl 3 rfl) ?_
  refine lv_iload hx hb dX10_compareGains_3 (lv_at hl 4 rfl) ?_
  refine pw_bipush hx hb dX10_compareGains_5 ?_
  refine pw_callVv (As := [.int (iI ((i : Int))), .int (iI ((val : Int))), .int (iI ((bel : Int))), .int (iI (49))]) (rest := []) ⟨hx, hb, hml, hown, hts⟩ (r_gainInto l D E r0 σ th so rn co gU gD gW (vs0) (i) val bel 49 mx (by omega) hmi (by omega) (by omega) (by omega) (by omega) hok hval hbel k2 k4 hbv hbb hmx) (cwV 4 hts gX10_compareGains_X10_gainInto rfl rfl rfl (by decide +kernel) ⟨Nat.le_of_ble_eq_true rfl, Nat.le_of_ble_eq_true rfl⟩) hK hO rfl ⟨hO, hU, hDn, hW, f, g, h, ⟨hf, hg, hh⟩, hN⟩ rfl hl.1 rfl (Nat.le_of_ble_eq_true rfl) dX10_compareGains_7 ⟨Nat.zero_le _, Nat.zero_le _⟩ hS (fun q h => h) (fun H1 locs1 ⟨vs1, ⟨f, g, h, ⟨hf, hg, hh⟩, hN⟩, e49, ho49⟩ hz1 hk1 hS => ?_)
  replace hO := hO.k (hk1 _ hO.lt (by (try dsimp only); omega))
  replace hU := hU.k (hk1 _ hU.lt (by (try dsimp only); omega))
  replace hDn := hDn.k (hk1 _ hDn.lt (by (try dsimp only); omega))
  replace hW := hW.k (hk1 _ hW.lt (by (try dsimp only); omega))
  refine lv_aload_n hx hb dX10_compareGains_10 rfl (lv_at hl 0 rfl) ?_
  refine lv_iload_n hx hb dX10_compareGains_11 rfl (lv_at hl 2 rfl) ?_
  refine lv_iload_n hx hb dX10_compareGains_12 rfl (lv_at hl 3 rfl) ?_
  refine lv_iload hx hb dX10_compareGains_13 (lv_at hl 4 rfl) ?_
  refine pw_bipush hx hb dX10_compareGains_15 ?_
  refine pw_callVv (As := [.int (iI ((j : Int))), .int (iI ((val : Int))), .int (iI ((bel : Int))), .int (iI (50))]) (rest := []) ⟨hx, hb, hml, hown, hts⟩ (r_gainInto l D E r0 σ th so rn co gU gD gW (vs1) (j) val bel 50 mx (by omega) hmj (by omega) (by omega) (by omega) (by omega) hok hval hbel k2 k4 (fun t ht => by rw [ho49 _ (by omega) (by omega)]; exact hbv t ht) (by rw [ho49 _ (by omega) (by omega)]; exact hbb) hmx) (cwV 4 hts gX10_compareGains_X10_gainInto rfl rfl rfl (by decide +kernel) ⟨Nat.le_of_ble_eq_true rfl, Nat.le_of_ble_eq_true rfl⟩) hK hO rfl ⟨hO, hU, hDn, hW, f, g, h, ⟨hf, hg, hh⟩, hN⟩ rfl hl.1 rfl (Nat.le_of_ble_eq_true rfl) dX10_compareGains_17 ⟨Nat.zero_le _, Nat.zero_le _⟩ hS (fun q h => h) (fun H1 locs1 ⟨vs, ⟨f, g, h, ⟨hf, hg, hh⟩, hN⟩, e50, ho50⟩ hz1 hk1 hS => ?_)
  replace hO := hO.k (hk1 _ hO.lt (by (try dsimp only); omega))
  replace hU := hU.k (hk1 _ hU.lt (by (try dsimp only); omega))
  replace hDn := hDn.k (hk1 _ hDn.lt (by (try dsimp only); omega))
  replace hW := hW.k (hk1 _ hW.lt (by (try dsimp only); omega))
  have ef : (fun t => vs1 (val + t)) = (fun t => vs0 (val + t)) ∨ True := Or.inr trivial
  have eg : gnum σ j (fun t => vs1 (val + t)) (vs1 bel) = gnum σ j (fun t => vs0 (val + t)) (vs0 bel) := by
    rw [ho49 bel (by omega) (by omega)]
    exact gnum_eq (fun t ht => ho49 _ (by omega) (by omega))
  rw [eg] at e50
  have e49 := (ho50 49 (by omega) (by omega)).trans e49
  have hvc : ∀ c, c < 49 ∨ 51 < c → vs (c) = vs0 c := fun c hc => (ho50 c (by omega) (by omega)).trans (ho49 c (by omega) (by omega))
  clear ho49 ho50 ef eg
  refine lv_aload_n hx hb dX10_compareGains_20 rfl (lv_at hl 0 rfl) ?_
  refine pw_bipush hx hb dX10_compareGains_21 ?_
  refine lv_aload_n hx hb dX10_compareGains_23 rfl (lv_at hl 0 rfl) ?_
  refine pw_get (C := RX10) (T := TX10) (N := 20) hx hb hts hin10 hown hK hO rfl 4 (by decide) lk_16 rfl rfl dX10_compareGains_24 ?_
  refine lv_iload_n hx hb dX10_compareGains_27 rfl (lv_at hl 2 rfl) ?_
  refine pw_iald hx hb hK hDn (j) rfl (by omega) (by omega) dX10_compareGains_28 ?_
  refine pw_asi ((mD σ j : Int)) hmj.2.1 ?_
  refine lv_aload_n hx hb dX10_compareGains_29 rfl (lv_at hl 0 rfl) ?_
  refine lv_iload_n hx hb dX10_compareGains_30 rfl (lv_at hl 2 rfl) ?_
  refine pw_callVi (As := [.int (iI ((j : Int)))]) (rest := [.int (iI ((mD σ j : Int))), .int (iI (49)), .ref (r0)]) ⟨hx, hb, hml, hown, hts⟩ (r_sumOf l D E r0 σ th so rn co (j) gW (by omega) hmj.2.2 hok) (cwV 1 hts gX10_compareGains_X10_sumOf rfl rfl rfl (by decide +kernel) ⟨Nat.le_of_ble_eq_true rfl, Nat.le_of_ble_eq_true rfl⟩) hK hO rfl ⟨hO, hW⟩ rfl hl.1 rfl (Nat.le_of_ble_eq_true rfl) dX10_compareGains_31 ⟨Nat.zero_le _, Nat.zero_le _⟩ hS (fun q h => h.elim) (fun z H1 locs1 hz hz1 hk1 hS => ?_)
  replace hO := hO.k (hk1 _ hO.lt (fun h => h))
  replace hU := hU.k (hk1 _ hU.lt (fun h => h))
  replace hDn := hDn.k (hk1 _ hDn.lt (fun h => h))
  replace hW := hW.k (hk1 _ hW.lt (fun h => h))
  replace hf := hf.k (hk1 _ hf.lt (fun h => h))
  replace hg := hg.k (hk1 _ hg.lt (fun h => h))
  replace hh := hh.k (hk1 _ hh.lt (fun h => h))
  subst hz
  refine pw_imul hx hb dX10_compareGains_34 ?_
  refine pw_callVv (As := [.int (iI (49)), .int (iI (((mD σ j : Int)) * ((mT σ (j) : Int))))]) (rest := []) ⟨hx, hb, hml, hown, hts⟩ (r_times l D E r0 (oV th σ so rn co) f g h 49 (gnum σ i (fun t => vs0 (val + t)) (vs0 bel)) ((mD σ j : Int) * (mT σ j : Int)) (by omega) (by omega) (by omega) (num_at (hN (49) (by omega)) e49) (by omega)) (cwV 2 hts gX10_compareGains_X10_times rfl rfl rfl (by decide +kernel) ⟨Nat.le_of_ble_eq_true rfl, Nat.le_of_ble_eq_true rfl⟩) hK hO rfl ⟨hO, hf, hg, hh⟩ rfl hl.1 rfl (Nat.le_of_ble_eq_true rfl) dX10_compareGains_35 ⟨Nat.zero_le _, Nat.zero_le _⟩ hS (fun q h => h) (fun H1 locs1 ⟨f, g, h, ⟨hf, hg, hh⟩, hn1, ho1⟩ hz1 hk1 hS => ?_)
  replace hO := hO.k (hk1 _ hO.lt (by (try dsimp only); omega))
  replace hU := hU.k (hk1 _ hU.lt (by (try dsimp only); omega))
  replace hDn := hDn.k (hk1 _ hDn.lt (by (try dsimp only); omega))
  replace hW := hW.k (hk1 _ hW.lt (by (try dsimp only); omega))
  obtain ⟨vs, hva0, hvo, hN⟩ := bn_np hN hn1 ho1
  clear hn1 ho1
  have e50 : vs (50) = gnum σ j (fun t => vs0 (val + t)) (vs0 bel) := (hvo _ (by omega)).trans e50
  have hvc : ∀ c, c < 49 ∨ 51 < c → vs (c) = vs0 c := fun c hq => (hvo _ (by omega)).trans (hvc c hq)
  have e49 : vs (49) = gnum σ i (fun t => vs0 (val + t)) (vs0 bel) * ((mD σ j : Int) * (mT σ j : Int)) := hva0
  clear hva0 hvo
  refine lv_aload_n hx hb dX10_compareGains_38 rfl (lv_at hl 0 rfl) ?_
  refine pw_bipush hx hb dX10_compareGains_39 ?_
  refine lv_aload_n hx hb dX10_compareGains_41 rfl (lv_at hl 0 rfl) ?_
  refine pw_get (C := RX10) (T := TX10) (N := 20) hx hb hts hin10 hown hK hO rfl 4 (by decide) lk_16 rfl rfl dX10_compareGains_42 ?_
  refine lv_iload_n hx hb dX10_compareGains_45 rfl (lv_at hl 1 rfl) ?_
  refine pw_iald hx hb hK hDn (i) rfl (by omega) (by omega) dX10_compareGains_46 ?_
  refine pw_asi ((mD σ i : Int)) hmi.2.1 ?_
  refine lv_aload_n hx hb dX10_compareGains_47 rfl (lv_at hl 0 rfl) ?_
  refine lv_iload_n hx hb dX10_compareGains_48 rfl (lv_at hl 1 rfl) ?_
  refine pw_callVi (As := [.int (iI ((i : Int)))]) (rest := [.int (iI ((mD σ i : Int))), .int (iI (50)), .ref (r0)]) ⟨hx, hb, hml, hown, hts⟩ (r_sumOf l D E r0 σ th so rn co (i) gW (by omega) hmi.2.2 hok) (cwV 1 hts gX10_compareGains_X10_sumOf rfl rfl rfl (by decide +kernel) ⟨Nat.le_of_ble_eq_true rfl, Nat.le_of_ble_eq_true rfl⟩) hK hO rfl ⟨hO, hW⟩ rfl hl.1 rfl (Nat.le_of_ble_eq_true rfl) dX10_compareGains_49 ⟨Nat.zero_le _, Nat.zero_le _⟩ hS (fun q h => h.elim) (fun z H1 locs1 hz hz1 hk1 hS => ?_)
  replace hO := hO.k (hk1 _ hO.lt (fun h => h))
  replace hU := hU.k (hk1 _ hU.lt (fun h => h))
  replace hDn := hDn.k (hk1 _ hDn.lt (fun h => h))
  replace hW := hW.k (hk1 _ hW.lt (fun h => h))
  replace hf := hf.k (hk1 _ hf.lt (fun h => h))
  replace hg := hg.k (hk1 _ hg.lt (fun h => h))
  replace hh := hh.k (hk1 _ hh.lt (fun h => h))
  subst hz
  refine pw_imul hx hb dX10_compareGains_52 ?_
  refine pw_callVv (As := [.int (iI (50)), .int (iI (((mD σ i : Int)) * ((mT σ (i) : Int))))]) (rest := []) ⟨hx, hb, hml, hown, hts⟩ (r_times l D E r0 (oV th σ so rn co) f g h 50 (gnum σ j (fun t => vs0 (val + t)) (vs0 bel)) ((mD σ i : Int) * (mT σ i : Int)) (by omega) (by omega) (by omega) (num_at (hN (50) (by omega)) e50) (by omega)) (cwV 2 hts gX10_compareGains_X10_times rfl rfl rfl (by decide +kernel) ⟨Nat.le_of_ble_eq_true rfl, Nat.le_of_ble_eq_true rfl⟩) hK hO rfl ⟨hO, hf, hg, hh⟩ rfl hl.1 rfl (Nat.le_of_ble_eq_true rfl) dX10_compareGains_53 ⟨Nat.zero_le _, Nat.zero_le _⟩ hS (fun q h => h) (fun H1 locs1 ⟨f, g, h, ⟨hf, hg, hh⟩, hn1, ho1⟩ hz1 hk1 hS => ?_)
  replace hO := hO.k (hk1 _ hO.lt (by (try dsimp only); omega))
  replace hU := hU.k (hk1 _ hU.lt (by (try dsimp only); omega))
  replace hDn := hDn.k (hk1 _ hDn.lt (by (try dsimp only); omega))
  replace hW := hW.k (hk1 _ hW.lt (by (try dsimp only); omega))
  obtain ⟨vs, hva0, hvo, hN⟩ := bn_np hN hn1 ho1
  clear hn1 ho1
  have e49 : vs (49) = gnum σ i (fun t => vs0 (val + t)) (vs0 bel) * ((mD σ j : Int) * (mT σ j : Int)) := (hvo _ (by omega)).trans e49
  have hvc : ∀ c, c < 49 ∨ 51 < c → vs (c) = vs0 c := fun c hq => (hvo _ (by omega)).trans (hvc c hq)
  have e50 : vs (50) = gnum σ j (fun t => vs0 (val + t)) (vs0 bel) * ((mD σ i : Int) * (mT σ i : Int)) := hva0
  clear hva0 hvo
  refine lv_aload_n hx hb dX10_compareGains_56 rfl (lv_at hl 0 rfl) ?_
  refine pw_bipush hx hb dX10_compareGains_57 ?_
  refine pw_bipush hx hb dX10_compareGains_59 ?_
  refine pw_callVi (As := [.int (iI (49)), .int (iI (50))]) (rest := []) ⟨hx, hb, hml, hown, hts⟩ (r_compare l D E r0 (oV th σ so rn co) f g h 49 50 (gnum σ i (fun t => vs0 (val + t)) (vs0 bel) * ((mD σ j : Int) * (mT σ j : Int))) (gnum σ j (fun t => vs0 (val + t)) (vs0 bel) * ((mD σ i : Int) * (mT σ i : Int))) (by omega) (by omega) (num_at (hN (49) (by omega)) e49) (num_at (hN (50) (by omega)) e50)) (cwV 2 hts gX10_compareGains_X10_compare rfl rfl rfl (by decide +kernel) ⟨Nat.le_of_ble_eq_true rfl, Nat.le_of_ble_eq_true rfl⟩) hK hO rfl ⟨hO, hf, hg, hh⟩ rfl hl.1 rfl (Nat.le_of_ble_eq_true rfl) dX10_compareGains_61 ⟨Nat.zero_le _, Nat.zero_le _⟩ hS (fun q h => h.elim) (fun z H1 locs1 hz hz1 hk1 hS => ?_)
  replace hO := hO.k (hk1 _ hO.lt (fun h => h))
  replace hU := hU.k (hk1 _ hU.lt (fun h => h))
  replace hDn := hDn.k (hk1 _ hDn.lt (fun h => h))
  replace hW := hW.k (hk1 _ hW.lt (fun h => h))
  replace hf := hf.k (hk1 _ hf.lt (fun h => h))
  replace hg := hg.k (hk1 _ hg.lt (fun h => h))
  replace hh := hh.k (hk1 _ hh.lt (fun h => h))
  exact pw_iret hx hb hr hlocks hS ⟨by rw [hz]; exact hci.1.trans hgm.1, by rw [hz]; exact hci.2.1.trans hgm.2, by rw [hz]; exact hci.2.2, vs, ⟨f, g, h, ⟨hf, hg, hh⟩, hN⟩, hvc⟩ dX10_compareGains_64
def gnum_vs (σ : MS) (vs vs0 : Nat → Int) (val bel : Nat) : Prop := (∀ t, t < mN σ → vs (val + t) = vs0 (val + t)) ∧ vs bel = vs0 bel
theorem gmore_vs {σ : MS} {vs vs0 : Nat → Int} {val bel : Nat} (h : gnum_vs σ vs vs0 val bel) (i j : Nat) : gmore σ (fun t => vs (val + t)) (vs bel) i j ↔ gmore σ (fun t => vs0 (val + t)) (vs0 bel) i j := by
  show (gnum σ j _ _ * _ < gnum σ i _ _ * _) ↔ (gnum σ j _ _ * _ < gnum σ i _ _ * _)
  rw [h.2, gnum_eq (i := i) (v := fun t => vs (val + t)) (v' := fun t => vs0 (val + t)) h.1, gnum_eq (i := j) (v := fun t => vs (val + t)) (v' := fun t => vs0 (val + t)) h.1]
theorem gpick_y {σ : MS} {st beg : Nat} {v : Nat → Int} {b : Int} {a : Nat} (h : a ≠ beg ∧ gmore σ v b (4 * st + a) (4 * st + gpick σ st beg v b a)) : gpick σ st beg v b (a + 1) = a := if_pos h
theorem gpick_n {σ : MS} {st beg : Nat} {v : Nat → Int} {b : Int} {a : Nat} (h : ¬ (a ≠ beg ∧ gmore σ v b (4 * st + a) (4 * st + gpick σ st beg v b a))) : gpick σ st beg v b (a + 1) = gpick σ st beg v b a := if_neg h
set_option maxHeartbeats 4000000 in
set_option maxRecDepth 100000 in
/-- greatest(n, values, below) -/
theorem r_greatest (l : Launch) (D : va_G) (E : Nat → ClassId) (r0 : Nat) (σ : MS) (th so rn co : Int) (gU gD gW vs0 : Nat → Int) (n val bel mx : Nat) (hn : n < mN σ) (hc0 : 0 < mC σ n) (hm : mR σ gU gD gW) (k6 : bel < 49 ∨ 51 < bel) (k5 : 51 < val ∨ val + 6 ≤ 49) (hok : mOK σ) (hval : val + 6 ≤ 80) (hbel : bel < 80) (k2 : bel ≠ 51) (k4 : 51 < val ∨ val + 6 ≤ 51) (hbv : ∀ t, t < mN σ → (vs0 (val + t)).natAbs ≤ mx) (hbb : (vs0 bel).natAbs ≤ mx) (hmx : mx * 8000000000 < 268435456 ^ 62) : pw_M rvI l D E yX10_greatest wsX10_greatest ({ frames := 4, cells := 0, slots := 0, locals := 102 } : Room) [.ref (r0), .int (iI ((n : Int))), .int (iI ((val : Int))), .int (iI ((bel : Int)))] (fun H => OA D r0 10 [.int (iI (th)), .int (iI ((mN σ : Int))), .ref (r0 + 1), .ref (r0 + 2), .ref (r0 + 3), .ref (r0 + 4), .int (iI ((mA σ : Int))), .int (iI ((mB σ : Int))), .int (iI (so)), .int (iI (rn)), .ref (r0 + 5), .ref (r0 + 6), .ref (r0 + 7), .ref (r0 + 8), .ref (r0 + 9), .ref (r0 + 10), .ref (r0 + 11), .ref (r0 + 12), .ref (r0 + 13), .int (iI (co))] H ∧ IA E (r0 + 2) 24 gU H ∧ IA E (r0 + 3) 24 gD H ∧ IA E (r0 + 4) 144 gW H ∧ IA E (r0 + 1) 6 (fun s => (mC σ s : Int)) H ∧ BN E r0 vs0 H) (fun z H => z = ((gpick σ n 0 (fun t => vs0 (val + t)) (vs0 bel) (mC σ n) : Nat) : Int) ∧ ∃ vs, BN E r0 vs H ∧ ∀ c, c < 49 ∨ 51 < c → vs c = vs0 c) (fun q => q = r0 + 8 ∨ q = r0 + 9 ∨ q = r0 + 10) (0) (0) := by
  refine pw_of (cc := cX10_greatest) (maxL := 6) (ret := (some .int)) (by decide +kernel) rfl (Nat.le_of_ble_eq_true rfl) ?_
  intro p e s m args below meth c hx hb hr hml hts hown hlocks hini hK ⟨hO, hU, hDn, hW, hC, f, g, h, ⟨hf, hg, hh⟩, hN⟩ ls hl
  have hown : s.vm.findClass RX10 = some m.cls := hown
  have hl : lv_has ls 6 [(0, .ref (r0)), (1, .int (iI ((n : Int)))), (2, .int (iI ((val : Int)))), (3, .int (iI ((bel : Int))))] := hl
  have hS : va_S (fun q => q = r0 + 8 ∨ q = r0 + 9 ∨ q = r0 + 10) s.heap s.heap [] := va_S.rf
  have lk_7 := hts (.fieldLink RX10 7 "PolicyWorksModel" "actionCounts" "[I") (by decide +kernel)
  have hin10 : ∀ w ∈ wsX100, w ∈ wsX10_greatest := by decide +kernel
  have hN6 := hok.1
  have hcn := hok.2.1 n (by omega)
  have loop : ∀ (kk a : Nat) (vs f g h : Nat → Int) (H : Heap) (locs : List Loc) (ls : Array Slot), a + kk = mC σ n → 0 < a → (∀ c, c < 49 ∨ 51 < c → vs (c) = vs0 c) → OA D r0 10 [.int (iI (th)), .int (iI ((mN σ : Int))), .ref (r0 + 1), .ref (r0 + 2), .ref (r0 + 3), .ref (r0 + 4), .int (iI ((mA σ : Int))), .int (iI ((mB σ : Int))), .int (iI (so)), .int (iI (rn)), .ref (r0 + 5), .ref (r0 + 6), .ref (r0 + 7), .ref (r0 + 8), .ref (r0 + 9), .ref (r0 + 10), .ref (r0 + 11), .ref (r0 + 12), .ref (r0 + 13), .int (iI (co))] H → IA E (r0 + 2) 24 gU H → IA E (r0 + 3) 24 gD H → IA E (r0 + 4) 144 gW H → IA E (r0 + 1) 6 (fun s => (mC σ s : Int)) H → IA E (r0 + 8) 5120 f H → IA E (r0 + 9) 80 g H → IA E (r0 + 10) 80 h H → (∀ c, c < 80 → Num f g h c (vs c)) → va_S (fun q => q = r0 + 8 ∨ q = r0 + 9 ∨ q = r0 + 10) s.heap H locs → lv_has ls 6 [(0, .ref (r0)), (1, .int (iI ((n : Int)))), (2, .int (iI ((val : Int)))), (3, .int (iI ((bel : Int)))), (4, .int (iI (((gpick σ n 0 (fun t => vs0 (val + t)) (vs0 bel) a) : Int)))), (5, .int (iI ((a : Int))))] → W p l e ({ frames := 4, cells := 0, slots := 0, locals := 102 } : Room) s m args below meth c H locs (0) (0) (MQ below (pw_Q rvI (fun z H => z = ((gpick σ n 0 (fun t => vs0 (val + t)) (vs0 bel) (mC σ n) : Nat) : Int) ∧ ∃ vs, BN E r0 vs H ∧ ∀ c, c < 49 ∨ 51 < c → vs c = vs0 c) (fun q => q = r0 + 8 ∨ q = r0 + 9 ∨ q = r0 + 10)) args s (0) (0) (fun q => q = r0 + 8 ∨ q = r0 + 9 ∨ q = r0 + 10)) (F0 m 6 ls []) := by
    intro kk
    induction kk with
    | zero =>
      intro a vs f g h H locs ls ha ha0 hvc hO hU hDn hW hC hf hg hh hN hS hl
      have ea : a = mC σ n := by omega
      subst ea
      refine lv_iload hx hb dX10_greatest_6 (lv_at hl 5 rfl) ?_
      refine lv_aload_n hx hb dX10_greatest_8 rfl (lv_at hl 0 rfl) ?_
      refine pw_get (C := RX10) (T := TX10) (N := 20) hx hb hts hin10 hown hK hO rfl 2 (by decide) lk_7 rfl rfl dX10_greatest_9 ?_
      refine lv_iload_n hx hb dX10_greatest_12 rfl (lv_at hl 1 rfl) ?_
      refine pw_iald hx hb hK hC (n) rfl (by omega) (by omega) dX10_greatest_13 ?_
      refine pw_asi ((mC σ (n) : Int)) rfl ?_
      refine pw_icmp_ge (tgt := 53) hx hb dX10_greatest_14 (by decide) (fun c_14 => ?_) (fun c_14 => absurd c_14 (by omega))
      refine lv_iload hx hb dX10_greatest_53 (lv_at hl 4 rfl) ?_
      exact pw_iret hx hb hr hlocks hS ⟨rfl, vs, ⟨f, g, h, ⟨hf, hg, hh⟩, hN⟩, hvc⟩ dX10_greatest_55
    | succ kk ih =>
      intro a vs f g h H locs ls ha ha0 hvc hO hU hDn hW hC hf hg hh hN hS hl
      have hgl := gpick_lt (σ := σ) (st := n) (v := (fun t => vs0 (val + t))) (b := vs0 bel) hc0 a (by omega)
      have hev : gnum_vs σ vs vs0 val bel := ⟨fun t ht => hvc _ (by omega), hvc _ (by omega)⟩
      refine lv_iload hx hb dX10_greatest_6 (lv_at hl 5 rfl) ?_
      refine lv_aload_n hx hb dX10_greatest_8 rfl (lv_at hl 0 rfl) ?_
      refine pw_get (C := RX10) (T := TX10) (N := 20) hx hb hts hin10 hown hK hO rfl 2 (by decide) lk_7 rfl rfl dX10_greatest_9 ?_
      refine lv_iload_n hx hb dX10_greatest_12 rfl (lv_at hl 1 rfl) ?_
      refine pw_iald hx hb hK hC (n) rfl (by omega) (by omega) dX10_greatest_13 ?_
      refine pw_asi ((mC σ (n) : Int)) rfl ?_
      refine pw_icmp_ge (tgt := 53) hx hb dX10_greatest_14 (by decide) (fun c_14 => absurd c_14 (by omega)) (fun c_14 => ?_)
      refine lv_aload_n hx hb dX10_greatest_17 rfl (lv_at hl 0 rfl) ?_
      refine pw_iconst hx hb dX10_greatest_18 ?_
      refine lv_iload_n hx hb dX10_greatest_19 rfl (lv_at hl 1 rfl) ?_
      refine pw_imul hx hb dX10_greatest_20 ?_
      refine lv_iload hx hb dX10_greatest_21 (lv_at hl 5 rfl) ?_
      refine pw_iadd hx hb dX10_greatest_23 ?_
      refine pw_asi (((4 * n + a : Nat) : Int)) (by omega) ?_
      refine pw_iconst hx hb dX10_greatest_24 ?_
      refine lv_iload_n hx hb dX10_greatest_25 rfl (lv_at hl 1 rfl) ?_
      refine pw_imul hx hb dX10_greatest_26 ?_
      refine lv_iload hx hb dX10_greatest_27 (lv_at hl 4 rfl) ?_
      refine pw_iadd hx hb dX10_greatest_29 ?_
      refine pw_asi (((4 * n + (gpick σ n 0 (fun t => vs0 (val + t)) (vs0 bel) a) : Nat) : Int)) (by omega) ?_
      refine lv_iload_n hx hb dX10_greatest_30 rfl (lv_at hl 2 rfl) ?_
      refine lv_iload_n hx hb dX10_greatest_31 rfl (lv_at hl 3 rfl) ?_
      refine pw_callVi (As := [.int (iI (((4 * n + a : Nat) : Int))), .int (iI (((4 * n + (gpick σ n 0 (fun t => vs0 (val + t)) (vs0 bel) a) : Nat) : Int))), .int (iI ((val : Int))), .int (iI ((bel : Int)))]) (rest := []) ⟨hx, hb, hml, hown, hts⟩ (r_compareGains l D E r0 σ th so rn co gU gD gW vs (4 * n + a) (4 * n + (gpick σ n 0 (fun t => vs0 (val + t)) (vs0 bel) a)) val bel mx (by omega) (by omega) (hm n a (by omega) (by omega)) (hm n _ (by omega) hgl) k6 k5 hok hval hbel k2 k4 (fun t ht => by rw [hev.1 t ht]; exact hbv t ht) (by rw [hev.2]; exact hbb) hmx) (cwV 4 hts gX10_greatest_X10_compareGains rfl rfl rfl (by decide +kernel) ⟨Nat.le_of_ble_eq_true rfl, Nat.le_of_ble_eq_true rfl⟩) hK hO rfl ⟨hO, hU, hDn, hW, f, g, h, ⟨hf, hg, hh⟩, hN⟩ rfl hl.1 rfl (Nat.le_of_ble_eq_true rfl) dX10_greatest_32 ⟨Nat.zero_le _, Nat.zero_le _⟩ hS (fun q h => h) (fun z H1 locs1 ⟨hz1p, hz2, hz3, vs1, ⟨f, g, h, ⟨hf, hg, hh⟩, hN⟩, hvo⟩ hz1 hk1 hS => ?_)
      replace hO := hO.k (hk1 _ hO.lt (by (try dsimp only); omega))
      replace hU := hU.k (hk1 _ hU.lt (by (try dsimp only); omega))
      replace hDn := hDn.k (hk1 _ hDn.lt (by (try dsimp only); omega))
      replace hW := hW.k (hk1 _ hW.lt (by (try dsimp only); omega))
      replace hC := hC.k (hk1 _ hC.lt (by (try dsimp only); omega))
      have hvc2 : ∀ c, c < 49 ∨ 51 < c → vs1 (c) = vs0 c := fun c hc => (hvo c hc).trans (hvc c hc)
      have hz1p := hz1p.trans (gmore_vs hev _ _)
      refine pw_if_le (tgt := 43) hx hb dX10_greatest_35 (by decide) (fun c_35 => ?_) (fun c_35 => ?_)
      · have hpk := gpick_n (σ := σ) (st := n) (beg := 0) (v := (fun t => vs0 (val + t))) (b := vs0 bel) (a := a) (fun h => by have := hz1p.mpr h.2; omega)
        refine lv_iload hx hb dX10_greatest_43 (lv_at hl 4 rfl) ?_
        refine pw_asi (((gpick σ n 0 (fun t => vs0 (val + t)) (vs0 bel) (a + 1)) : Int)) (by rw [hpk]) ?_
        refine lv_istore (lv' := [(4, .int (iI (((gpick σ n 0 (fun t => vs0 (val + t)) (vs0 bel) (a + 1)) : Int)))), (0, .ref (r0)), (1, .int (iI ((n : Int)))), (2, .int (iI ((val : Int)))), (3, .int (iI ((bel : Int)))), (5, .int (iI ((a : Int))))]) hx hb dX10_greatest_45 hl (by decide) rfl (fun ls hl => ?_)
        refine lv_iinc (v := iI (((a + 1 : Nat) : Int))) (lv' := [(5, .int (iI (((a + 1 : Nat) : Int)))), (4, .int (iI (((gpick σ n 0 (fun t => vs0 (val + t)) (vs0 bel) (a + 1)) : Int)))), (0, .ref (r0)), (1, .int (iI ((n : Int)))), (2, .int (iI ((val : Int)))), (3, .int (iI ((bel : Int))))]) hx hb dX10_greatest_47 hl (k := 5) rfl (by show iI _ + iI _ = _; exact (iI_add _ _).trans (by first | rfl | (congr 1; omega))) (by decide) rfl (fun ls hl => ?_)
        refine lv_goto (tgt := 6) hx hb dX10_greatest_50 (by decide) ?_
        exact ih (a + 1) vs1 f g h _ _ _ (by omega) (by omega) hvc2 hO hU hDn hW hC hf hg hh hN hS (lv_sub hl [2, 3, 4, 5, 1, 0] rfl)
      · have hpk := gpick_y (σ := σ) (st := n) (beg := 0) (v := (fun t => vs0 (val + t))) (b := vs0 bel) (a := a) ⟨by omega, hz1p.mp (by omega)⟩
        refine lv_iload hx hb dX10_greatest_38 (lv_at hl 5 rfl) ?_
        refine pw_asi (((gpick σ n 0 (fun t => vs0 (val + t)) (vs0 bel) (a + 1)) : Int)) (by rw [hpk]) ?_
        refine lv_goto (tgt := 45) hx hb dX10_greatest_40 (by decide) ?_
        refine lv_istore (lv' := [(4, .int (iI (((gpick σ n 0 (fun t => vs0 (val + t)) (vs0 bel) (a + 1)) : Int)))), (0, .ref (r0)), (1, .int (iI ((n : Int)))), (2, .int (iI ((val : Int)))), (3, .int (iI ((bel : Int)))), (5, .int (iI ((a : Int))))]) hx hb dX10_greatest_45 hl (by decide) rfl (fun ls hl => ?_)
        refine lv_iinc (v := iI (((a + 1 : Nat) : Int))) (lv' := [(5, .int (iI (((a + 1 : Nat) : Int)))), (4, .int (iI (((gpick σ n 0 (fun t => vs0 (val + t)) (vs0 bel) (a + 1)) : Int)))), (0, .ref (r0)), (1, .int (iI ((n : Int)))), (2, .int (iI ((val : Int)))), (3, .int (iI ((bel : Int))))]) hx hb dX10_greatest_47 hl (k := 5) rfl (by show iI _ + iI _ = _; exact (iI_add _ _).trans (by first | rfl | (congr 1; omega))) (by decide) rfl (fun ls hl => ?_)
        refine lv_goto (tgt := 6) hx hb dX10_greatest_50 (by decide) ?_
        exact ih (a + 1) vs1 f g h _ _ _ (by omega) (by omega) hvc2 hO hU hDn hW hC hf hg hh hN hS (lv_sub hl [2, 3, 4, 5, 1, 0] rfl)
  refine pw_iconst hx hb dX10_greatest_0 ?_
  refine pw_asi (((gpick σ n 0 (fun t => vs0 (val + t)) (vs0 bel) 1) : Int)) rfl ?_
  refine lv_istore (lv' := [(4, .int (iI (((gpick σ n 0 (fun t => vs0 (val + t)) (vs0 bel) 1) : Int)))), (0, .ref (r0)), (1, .int (iI ((n : Int)))), (2, .int (iI ((val : Int)))), (3, .int (iI ((bel : Int))))]) hx hb dX10_greatest_1 hl (by decide) rfl (fun ls hl => ?_)
  refine pw_iconst hx hb dX10_greatest_3 ?_
  refine pw_asi (((1 : Nat) : Int)) rfl ?_
  refine lv_istore (lv' := [(5, .int (iI (((1 : Nat) : Int)))), (4, .int (iI (((gpick σ n 0 (fun t => vs0 (val + t)) (vs0 bel) 1) : Int)))), (0, .ref (r0)), (1, .int (iI ((n : Int)))), (2, .int (iI ((val : Int)))), (3, .int (iI ((bel : Int))))]) hx hb dX10_greatest_4 hl (by decide) rfl (fun ls hl => ?_)
  exact loop (mC σ n - 1) 1 vs0 f g h _ _ _ (by omega) (by omega) (fun _ _ => rfl) hO hU hDn hW hC hf hg hh hN hS (lv_sub hl [2, 3, 4, 5, 1, 0] rfl)
set_option maxHeartbeats 4000000 in
set_option maxRecDepth 100000 in
/-- belowInto(to) -/
theorem r_belowInto (l : Launch) (D : va_G) (E : Nat → ClassId) (r0 : Nat) (σ : MS) (th so rn : Int) (cm : Nat) (vs0 : Nat → Int) (to : Nat) (hcm : cm ≤ 232792560) (hpt : to < 80) (k1 : to ≠ 48) (hb48 : (vs0 48).natAbs < 268435456 ^ 60) : pw_M rvV l D E yX10_belowInto wsX10_belowInto ({ frames := 2, cells := 0, slots := 0, locals := 53 } : Room) [.ref (r0), .int (iI ((to : Int)))] (fun H => OA D r0 10 [.int (iI (th)), .int (iI ((mN σ : Int))), .ref (r0 + 1), .ref (r0 + 2), .ref (r0 + 3), .ref (r0 + 4), .int (iI ((mA σ : Int))), .int (iI ((mB σ : Int))), .int (iI (so)), .int (iI (rn)), .ref (r0 + 5), .ref (r0 + 6), .ref (r0 + 7), .ref (r0 + 8), .ref (r0 + 9), .ref (r0 + 10), .ref (r0 + 11), .ref (r0 + 12), .ref (r0 + 13), .int (iI ((cm : Int)))] H ∧ BN E r0 vs0 H) (fun _ H => ∃ vs, BN E r0 vs H ∧ vs to = vs0 48 * (cm : Int) ∧ ∀ c, c ≠ to → vs c = vs0 c) (fun q => q = r0 + 8 ∨ q = r0 + 9 ∨ q = r0 + 10) (0) (0) := by
  refine pw_of (cc := cX10_belowInto) (maxL := 2) (ret := none) (by decide +kernel) rfl (Nat.le_of_ble_eq_true rfl) ?_
  intro p e s m args below meth c hx hb hr hml hts hown hlocks hini hK ⟨hO, f, g, h, ⟨hf, hg, hh⟩, hN⟩ ls hl
  have hown : s.vm.findClass RX10 = some m.cls := hown
  have hl : lv_has ls 2 [(0, .ref (r0)), (1, .int (iI ((to : Int))))] := hl
  have hS : va_S (fun q => q = r0 + 8 ∨ q = r0 + 9 ∨ q = r0 + 10) s.heap s.heap [] := va_S.rf
  have lk_138 := hts (.fieldLink RX10 138 "PolicyWorksModel" "common" "I") (by decide +kernel)
  have hin10 : ∀ w ∈ wsX100, w ∈ wsX10_belowInto := by decide +kernel
  have h48 : vs0 (48) = vs0 48 := rfl
  have hvc : ∀ c, c ≠ to → vs0 (c) = vs0 c := fun _ _ => rfl
  have hbb : (vs0 48 * (cm : Int)).natAbs < 268435456 ^ 64 := Nat.lt_of_le_of_lt (mulb (Nat.le_of_lt hb48) (show (cm : Int).natAbs ≤ 268435456 by omega)) (by decide +kernel)
  refine lv_aload_n hx hb dX10_belowInto_0 rfl (lv_at hl 0 rfl) ?_
  refine pw_bipush hx hb dX10_belowInto_1 ?_
  refine lv_iload_n hx hb dX10_belowInto_3 rfl (lv_at hl 1 rfl) ?_
  refine pw_callVv (As := [.int (iI (48)), .int (iI ((to : Int)))]) (rest := []) ⟨hx, hb, hml, hown, hts⟩ (r_copy l D E r0 (oV th σ so rn (cm : Int)) f g h 48 to (vs0 48) (by omega) (by omega) (by omega) (num_at (hN (48) (by omega)) h48)) (cwV 2 hts gX10_belowInto_X10_copy rfl rfl rfl (by decide +kernel) ⟨Nat.le_of_ble_eq_true rfl, Nat.le_of_ble_eq_true rfl⟩) hK hO rfl ⟨hO, hf, hg, hh⟩ rfl hl.1 rfl (Nat.le_of_ble_eq_true rfl) dX10_belowInto_4 ⟨Nat.zero_le _, Nat.zero_le _⟩ hS (fun q h => h) (fun H1 locs1 ⟨f, g, h, ⟨hf, hg, hh⟩, hn1, ho1⟩ hz1 hk1 hS => ?_)
  replace hO := hO.k (hk1 _ hO.lt (by (try dsimp only); omega))
  obtain ⟨vs, hva0, hvo, hN⟩ := bn_np hN hn1 ho1
  clear hn1 ho1
  have hvc : ∀ c, c ≠ to → vs (c) = vs0 c := fun c hq => (hvo _ (by omega)).trans (hvc c hq)
  have ht0 : vs (to) = vs0 48 := hva0
  clear hva0 hvo
  refine lv_aload_n hx hb dX10_belowInto_7 rfl (lv_at hl 0 rfl) ?_
  refine lv_iload_n hx hb dX10_belowInto_8 rfl (lv_at hl 1 rfl) ?_
  refine lv_aload_n hx hb dX10_belowInto_9 rfl (lv_at hl 0 rfl) ?_
  refine pw_get (C := RX10) (T := TX10) (N := 20) hx hb hts hin10 hown hK hO rfl 19 (by decide) lk_138 rfl rfl dX10_belowInto_10 ?_
  refine pw_callVv (As := [.int (iI ((to : Int))), .int (iI ((cm : Int)))]) (rest := []) ⟨hx, hb, hml, hown, hts⟩ (r_times l D E r0 (oV th σ so rn (cm : Int)) f g h to (vs0 48) (cm : Int) (by omega) (by omega) (by omega) (num_at (hN (to) (by omega)) ht0) hbb) (cwV 2 hts gX10_belowInto_X10_times rfl rfl rfl (by decide +kernel) ⟨Nat.le_of_ble_eq_true rfl, Nat.le_of_ble_eq_true rfl⟩) hK hO rfl ⟨hO, hf, hg, hh⟩ rfl hl.1 rfl (Nat.le_of_ble_eq_true rfl) dX10_belowInto_13 ⟨Nat.zero_le _, Nat.zero_le _⟩ hS (fun q h => h) (fun H1 locs1 ⟨f, g, h, ⟨hf, hg, hh⟩, hn1, ho1⟩ hz1 hk1 hS => ?_)
  replace hO := hO.k (hk1 _ hO.lt (by (try dsimp only); omega))
  obtain ⟨vs, hva0, hvo, hN⟩ := bn_np hN hn1 ho1
  clear hn1 ho1
  have hvc : ∀ c, c ≠ to → vs (c) = vs0 c := fun c hq => (hvo _ (by omega)).trans (hvc c hq)
  have ht0 : vs (to) = vs0 48 * (cm : Int) := hva0
  clear hva0 hvo
  exact pw_vret hx hb hr hlocks hS ⟨vs, ⟨f, g, h, ⟨hf, hg, hh⟩, hN⟩, ht0, hvc⟩ dX10_belowInto_16
