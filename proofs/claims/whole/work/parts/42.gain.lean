/-! gains: the gain of one action under a row of values; the action with the greatest one -/
/-- a row of values with one lower part -/
def RW (D : va_G) (E : Nat → ClassId) (r n : Nat) (v : Nat → Int) (b : Int) (H : Heap) : Prop := OA D r 7 [.ref (r + 1), .ref (r + 14)] H ∧ QA E 5 (r + 1) 6 (fun s => some (r + 2 + 2 * s)) H ∧ (∀ s, s < 6 → WH D E (r + 2 + 2 * s) n (v s) H) ∧ WH D E (r + 14) n b H
theorem RW.lt {D : va_G} {E : Nat → ClassId} {r n : Nat} {v : Nat → Int} {b : Int} {H : Heap} (h : RW D E r n v b H) : r + 15 < H.size := by
  have := h.2.2.2.lt
  omega
theorem RW.k {D : va_G} {E : Nat → ClassId} {r n : Nat} {v : Nat → Int} {b : Int} {H H1 : Heap} (h : RW D E r n v b H) (hq : ∀ q, r ≤ q → q ≤ r + 15 → q < H.size → H1[q]? = H[q]?) : RW D E r n v b H1 := by
  have hl := h.lt
  obtain ⟨h0, h1, h2, h3⟩ := h
  exact ⟨h0.k (hq _ (by omega) (by omega) (by omega)), h1.k (hq _ (by omega) (by omega) (by omega)), fun s hs => (h2 s hs).k (hq _ (by omega) (by omega) (by omega)) (hq _ (by omega) (by omega) (by omega)), h3.k (hq _ (by omega) (by omega) (by omega)) (hq _ (by omega) (by omega) (by omega))⟩
def GN (D : va_G) (E : Nat → ClassId) (g : Nat) (v sc : Int) (H : Heap) : Prop := OA D g 4 [.ref (g + 1), .int (iI sc)] H ∧ WH D E (g + 1) 24 v H
theorem GN.lt {D : va_G} {E : Nat → ClassId} {g : Nat} {v sc : Int} {H : Heap} (h : GN D E g v sc H) : g + 2 < H.size := by
  have := h.2.lt
  omega
theorem GN.k {D : va_G} {E : Nat → ClassId} {g : Nat} {v sc : Int} {H H1 : Heap} (h : GN D E g v sc H) (hq : ∀ q, g ≤ q → q ≤ g + 2 → q < H.size → H1[q]? = H[q]?) : GN D E g v sc H1 := by
  have hl := h.lt
  exact ⟨h.1.k (hq _ (by omega) (by omega) (by omega)), h.2.k (hq _ (by omega) (by omega) (by omega)) (hq _ (by omega) (by omega) (by omega))⟩
-- a gain, above and scale
def gc0 (σ : MS) (i : Nat) : Int := mU σ i * (mB σ : Int) * (mT σ i : Int)
def gct (σ : MS) (i t : Nat) : Int := (mD σ i : Int) * (mA σ : Int) * (mW σ i t : Int)
def gsum (σ : MS) (i : Nat) (v : Nat → Int) : Nat → Int
  | 0 => 0
  | k + 1 => gsum σ i v k + v k * gct σ i k
def gnum (σ : MS) (i : Nat) (v : Nat → Int) (b : Int) : Int := b * gc0 σ i + gsum σ i v (mN σ)
def gsc (σ : MS) (i : Nat) : Int := (mD σ i : Int) * (mB σ : Int) * (mT σ i : Int)
theorem mul3_b {x y z : Int} {a b c : Nat} (hx : x.natAbs ≤ a) (hy : y.natAbs ≤ b) (hz : z.natAbs ≤ c) : (x * y * z).natAbs ≤ a * b * c := by
  rw [Int.natAbs_mul, Int.natAbs_mul]
  exact Nat.mul_le_mul (Nat.mul_le_mul hx hy) hz
theorem gc0_b {σ : MS} (h : mOK σ) {i : Nat} (hi : i < 24) : (gc0 σ i).natAbs ≤ 2400000 := by
  have h1 := h.2.2.1 i hi
  have h2 := mT_b h hi
  have h3 := h.2.2.2.2.1
  exact mul3_b (a := 1000) (b := 20) (c := 120) (by omega) (by omega) (by omega)
theorem gct_b {σ : MS} (h : mOK σ) {i t : Nat} (hi : i < 24) (ht : t < 6) : (gct σ i t).natAbs ≤ 8000 := by
  have h1 := h.2.2.1 i hi
  have h4 := h1.2.2.2.2 t ht
  have h3 := h.2.2.2.2.1
  have h5 := h.2.2.2.1
  exact mul3_b (a := 20) (b := 20) (c := 20) (by omega) (by omega) (by omega)
theorem gsc_b {σ : MS} (h : mOK σ) {i : Nat} (hi : i < 24) : 0 ≤ gsc σ i ∧ gsc σ i ≤ 48000 := by
  have h1 := h.2.2.1 i hi
  have h2 := mT_b h hi
  have h3 := h.2.2.2.2.1
  have h4 : (gsc σ i).natAbs ≤ 48000 := mul3_b (a := 20) (b := 20) (c := 120) (by omega) (by omega) (by omega)
  have h5 : 0 ≤ gsc σ i := Int.mul_nonneg (Int.mul_nonneg (by omega) (by omega)) (by omega)
  omega
theorem dig_b {c : Int} {M : Nat} (hc : c.natAbs ≤ M) (v : Int) (j : Nat) : (c * wdig v j).natAbs ≤ M * 1000000 := by
  have := wdig_b v j
  rw [Int.natAbs_mul]
  exact Nat.mul_le_mul hc (by omega)
set_option maxHeartbeats 4000000 in
set_option maxRecDepth 100000 in
/-- weigh(model, action, row) -/
theorem c_weigh (l : Launch) (D : va_G) (E : Nat → ClassId) (g m0 r n i : Nat) (σ : MS) (v : Nat → Int) (b v0 sc0 : Int) (hok : mOK σ) (hi : i < 24) (hn : n ≤ 24) (hgr : g + 2 < r ∨ r + 15 < g) (hgm : g + 2 < m0 ∨ m0 + 50 < g) (hv1 : -(1000000 ^ 24) < gnum σ i v b) (hv2 : gnum σ i v b < 1000000 ^ 24) : pw_M rvV l D E yX4_weigh wsX4_weigh ({ frames := 2, cells := 0, slots := 0, locals := 65 } : Room) [.ref (g), .ref (m0), .ref (m0 + 3 + 2 * i), .ref (r)] (fun H => GN D E g v0 sc0 H ∧ MO D E m0 σ H ∧ RW D E r n v b H) (fun _ H => GN D E g (gnum σ i v b) (gsc σ i) H) (fun q => g ≤ q ∧ q ≤ g + 2) (0) (0) := by
  refine pw_of (cc := cX4_weigh) (maxL := 5) (ret := none) (by decide +kernel) rfl (Nat.le_of_ble_eq_true rfl) ?_
  intro p e s m args below meth c hx hb hr hml hts hown hlocks hini hK ⟨⟨hG, hW0⟩, hM, hRW⟩ ls hl
  have hown : s.vm.findClass RX4 = some m.cls := hown
  have hl : lv_has ls 5 [(0, .ref (g)), (1, .ref (m0)), (2, .ref (m0 + 3 + 2 * i)), (3, .ref (r))] := hl
  have hS : va_S (fun q => g ≤ q ∧ q ≤ g + 2) s.heap s.heap [] := va_S.rf
  have lk_14 := hts (.fieldLink RX4 14 "PolicyWorks$Gain" "above" "LPolicyWorks$Whole;") (by decide +kernel)
  have lk_20 := hts (.fieldLink RX4 20 "PolicyWorks$Gain" "scale" "I") (by decide +kernel)
  have lk_24 := hts (.fieldLink RX4 24 "PolicyWorks$Action" "below" "I") (by decide +kernel)
  have lk_29 := hts (.fieldLink RX4 29 "PolicyWorks$Model" "discountBelow" "I") (by decide +kernel)
  have lk_34 := hts (.fieldLink RX4 34 "PolicyWorks$Action" "total" "I") (by decide +kernel)
  have lk_40 := hts (.fieldLink RX4 40 "PolicyWorks$Row" "below" "LPolicyWorks$Whole;") (by decide +kernel)
  have lk_44 := hts (.fieldLink RX4 44 "PolicyWorks$Action" "above" "I") (by decide +kernel)
  have lk_50 := hts (.fieldLink RX4 50 "PolicyWorks$Model" "states" "I") (by decide +kernel)
  have lk_53 := hts (.fieldLink RX4 53 "PolicyWorks$Row" "above" "[LPolicyWorks$Whole;") (by decide +kernel)
  have lk_56 := hts (.fieldLink RX4 56 "PolicyWorks$Model" "discountAbove" "I") (by decide +kernel)
  have lk_59 := hts (.fieldLink RX4 59 "PolicyWorks$Action" "weights" "[I") (by decide +kernel)
  have hin0 : ∀ w ∈ wsX00, w ∈ wsX4_weigh := by decide +kernel
  have hin4 : ∀ w ∈ wsX40, w ∈ wsX4_weigh := by decide +kernel
  have hin6 : ∀ w ∈ wsX60, w ∈ wsX4_weigh := by decide +kernel
  have hin7 : ∀ w ∈ wsX70, w ∈ wsX4_weigh := by decide +kernel
  have hMO := hM.1
  have hAO := (hM.2.2.2 i hi).1
  have hAW := (hM.2.2.2 i hi).2
  have hRO := hRW.1
  have hRQ := hRW.2.1
  have hok1 := hok.2.2.1 i hi
  have hw6 := hok1.2.2.2.2
  have hTb := mT_b hok hi
  have hB20 := hok.2.2.2.2.1
  have hAB := hok.2.2.2.1
  have hN6 := hok.1
  have hc0 := gc0_b hok hi
  obtain ⟨k0, hR⟩ := hW0.r
  have loop : ∀ (k t : Nat) (f : Nat → Int) (H : Heap) (locs : List Loc) (ls : Array Slot), t + k = mN σ → wv f 24 = b * gc0 σ i + gsum σ i v t → (∀ j, (f j).natAbs ≤ 2400000000000 + t * 8000000000) → OA D g 4 [.ref (g + 1), .int (iI (gsc σ i))] H → WR D E (g + 1) 24 f 0 0 H → MO D E m0 σ H → RW D E r n v b H → va_S (fun q => g ≤ q ∧ q ≤ g + 2) s.heap H locs → lv_has ls 5 [(0, .ref (g)), (1, .ref (m0)), (2, .ref (m0 + 3 + 2 * i)), (3, .ref (r)), (4, .int (iI ((t : Int))))] → W p l e ({ frames := 2, cells := 0, slots := 0, locals := 65 } : Room) s m args below meth c H locs (0) (0) (MQ below (pw_Q rvV (fun _ H => GN D E g (gnum σ i v b) (gsc σ i) H) (fun q => g ≤ q ∧ q ≤ g + 2)) args s (0) (0) (fun q => g ≤ q ∧ q ≤ g + 2)) (F0 m 56 ls []) := by
    intro k
    induction k with
    | zero =>
      intro t f H locs ls ht hwv hfb hG hR hM hRW hS hl
      have hMO := hM.1
      have hAO := (hM.2.2.2 i hi).1
      have hAW := (hM.2.2.2 i hi).2
      have hRO := hRW.1
      have hRQ := hRW.2.1
      have et : t = mN σ := by omega
      subst et
      have hwv : wv f 24 = gnum σ i v b := hwv
      refine lv_iload hx hb dX4_weigh_56 (lv_at hl 4 rfl) ?_
      refine lv_aload_n hx hb dX4_weigh_58 rfl (lv_at hl 1 rfl) ?_
      refine pw_get (C := RX6) (T := TX6) (N := 5) hx hb hts hin6 hown hK hMO rfl 2 (by decide) lk_50 rfl rfl dX4_weigh_59 ?_
      refine pw_icmp_ge (tgt := 105) hx hb dX4_weigh_62 (by decide) (fun c_62 => ?_) (fun c_62 => absurd c_62 (by omega))
      refine lv_aload_n hx hb dX4_weigh_105 rfl (lv_at hl 0 rfl) ?_
      refine pw_get (C := RX4) (T := TX4) (N := 2) hx hb hts hin4 hown hK hG rfl 0 (by decide) lk_14 rfl rfl dX4_weigh_106 ?_
      refine pw_callVv (As := []) (rest := []) ⟨hx, hb, hml, hown, hts⟩ (c_settle l D E (g + 1) 24 f 0 0 (by omega) (fun j _ => by have := hfb j; omega) (by rw [hwv]; exact hv1) (by rw [hwv]; exact hv2)) (cwV 0 hts gX4_weigh_X8_settle rfl rfl rfl (by decide +kernel) ⟨Nat.le_of_ble_eq_true rfl, Nat.le_of_ble_eq_true rfl⟩) hK hR.1 rfl hR rfl hl.1 rfl (Nat.le_of_ble_eq_true rfl) dX4_weigh_109 ⟨Nat.zero_le _, Nat.zero_le _⟩ hS (fun q h => by (try dsimp only at h); (try dsimp only); omega) (fun H1 locs1 hW hz1 hk1 hS => ?_)
      have hG := hG.k (hk1 _ hG.lt (by (try dsimp only); omega))
      have hMO := hMO.k (hk1 _ hMO.lt (by (try dsimp only); omega))
      have hM := hM.k (fun q h1 h2 h3 => (hk1 _ h3 (by (try dsimp only); omega)))
      have hAO := hAO.k (hk1 _ hAO.lt (by (try dsimp only); omega))
      have hAW := hAW.k (hk1 _ hAW.lt (by (try dsimp only); omega))
      have hRO := hRO.k (hk1 _ hRO.lt (by (try dsimp only); omega))
      have hRQ := hRQ.k (hk1 _ hRQ.lt (by (try dsimp only); omega))
      have hRW := hRW.k (fun q h1 h2 h3 => (hk1 _ h3 (by (try dsimp only); omega)))
      rw [hwv] at hW
      exact pw_vret hx hb hr hlocks hS ⟨hG, hW⟩ dX4_weigh_112
    | succ k ih =>
      intro t f H locs ls ht hwv hfb hG hR hM hRW hS hl
      have hMO := hM.1
      have hAO := (hM.2.2.2 i hi).1
      have hAW := (hM.2.2.2 i hi).2
      have hRO := hRW.1
      have hRQ := hRW.2.1
      have hwt := hw6 t (by omega)
      have hct := gct_b hok hi (show t < 6 by omega)
      have hWt := hRW.2.2.1 t (by omega)
      have hvt := Nat.lt_of_lt_of_le hWt.b (bp_mono hn)
      refine lv_iload hx hb dX4_weigh_56 (lv_at hl 4 rfl) ?_
      refine lv_aload_n hx hb dX4_weigh_58 rfl (lv_at hl 1 rfl) ?_
      refine pw_get (C := RX6) (T := TX6) (N := 5) hx hb hts hin6 hown hK hMO rfl 2 (by decide) lk_50 rfl rfl dX4_weigh_59 ?_
      refine pw_icmp_ge (tgt := 105) hx hb dX4_weigh_62 (by decide) (fun c_62 => absurd c_62 (by omega)) (fun c_62 => ?_)
      refine lv_aload_n hx hb dX4_weigh_65 rfl (lv_at hl 0 rfl) ?_
      refine pw_get (C := RX4) (T := TX4) (N := 2) hx hb hts hin4 hown hK hG rfl 0 (by decide) lk_14 rfl rfl dX4_weigh_66 ?_
      refine lv_aload_n hx hb dX4_weigh_69 rfl (lv_at hl 3 rfl) ?_
      refine pw_get (C := RX7) (T := TX7) (N := 2) hx hb hts hin7 hown hK hRO rfl 0 (by decide) lk_53 rfl rfl dX4_weigh_70 ?_
      refine lv_iload hx hb dX4_weigh_73 (lv_at hl 4 rfl) ?_
      refine pw_qald hx hb hK hRQ rfl (t) rfl (by omega) (by omega) rfl dX4_weigh_75 ?_
      refine lv_aload_n hx hb dX4_weigh_76 rfl (lv_at hl 2 rfl) ?_
      refine pw_get (C := RX0) (T := TX0) (N := 4) hx hb hts hin0 hown hK hAO rfl 2 (by decide) lk_24 rfl rfl dX4_weigh_77 ?_
      refine pw_i2l hx hb dX4_weigh_80 ?_
      refine lv_aload_n hx hb dX4_weigh_81 rfl (lv_at hl 1 rfl) ?_
      refine pw_get (C := RX6) (T := TX6) (N := 5) hx hb hts hin6 hown hK hMO rfl 3 (by decide) lk_56 rfl rfl dX4_weigh_82 ?_
      refine pw_i2l hx hb dX4_weigh_85 ?_
      refine pw_lmul hx hb dX4_weigh_86 ?_
      refine lv_aload_n hx hb dX4_weigh_87 rfl (lv_at hl 2 rfl) ?_
      refine pw_get (C := RX0) (T := TX0) (N := 4) hx hb hts hin0 hown hK hAO rfl 0 (by decide) lk_59 rfl rfl dX4_weigh_88 ?_
      refine lv_iload hx hb dX4_weigh_91 (lv_at hl 4 rfl) ?_
      refine pw_iald hx hb hK hAW (t) rfl (by omega) (by omega) dX4_weigh_93 ?_
      refine pw_asi ((mW σ i (t) : Int)) rfl ?_
      refine pw_i2l hx hb dX4_weigh_94 ?_
      refine pw_lmul hx hb dX4_weigh_95 ?_
      refine pw_asl (gct σ i t) rfl ?_
      refine pw_callVv (As := [.ref (r + 2 + 2 * t), .long (lI (gct σ i t))]) (rest := []) ⟨hx, hb, hml, hown, hts⟩ (c_add l D E (g + 1) 24 (r + 2 + 2 * t) n f 0 0 (v t) (gct σ i t) (by omega) (by omega) (by omega)) (cwV 2 hts gX4_weigh_X8_add rfl rfl rfl (by decide +kernel) ⟨Nat.le_of_ble_eq_true rfl, Nat.le_of_ble_eq_true rfl⟩) hK hR.1 rfl ⟨hR, hWt⟩ rfl hl.1 rfl (Nat.le_of_ble_eq_true rfl) dX4_weigh_96 ⟨Nat.zero_le _, Nat.zero_le _⟩ hS (fun q h => by (try dsimp only at h); (try dsimp only); omega) (fun H1 locs1 hR hz1 hk1 hS => ?_)
      have hG := hG.k (hk1 _ hG.lt (by (try dsimp only); omega))
      have hMO := hMO.k (hk1 _ hMO.lt (by (try dsimp only); omega))
      have hM := hM.k (fun q h1 h2 h3 => (hk1 _ h3 (by (try dsimp only); omega)))
      have hAO := hAO.k (hk1 _ hAO.lt (by (try dsimp only); omega))
      have hAW := hAW.k (hk1 _ hAW.lt (by (try dsimp only); omega))
      have hRO := hRO.k (hk1 _ hRO.lt (by (try dsimp only); omega))
      have hRQ := hRQ.k (hk1 _ hRQ.lt (by (try dsimp only); omega))
      have hRW := hRW.k (fun q h1 h2 h3 => (hk1 _ h3 (by (try dsimp only); omega)))
      refine lv_iinc (v := iI (((t + 1 : Nat) : Int))) (lv' := [(4, .int (iI (((t + 1 : Nat) : Int)))), (0, .ref (g)), (1, .ref (m0)), (2, .ref (m0 + 3 + 2 * i)), (3, .ref (r))]) hx hb dX4_weigh_99 hl (k := 4) rfl (by show iI _ + iI _ = _; exact (iI_add _ _).trans (by first | rfl | (congr 1; omega))) (by decide) rfl (fun ls hl => ?_)
      refine lv_goto (tgt := 56) hx hb dX4_weigh_102 (by decide) ?_
      exact ih (t + 1) _ _ _ _ (by omega) (by rw [wv_lin, hwv, wv_wdig hvt]; show _ = b * gc0 σ i + (gsum σ i v t + v t * gct σ i t); rw [Int.mul_comm (gct σ i t)]; omega) (fun j => by have h1 := hfb j; have h2 := dig_b hct (v t) j; omega) hG hR hM hRW hS (lv_sub hl [1, 2, 3, 4, 0] rfl)
  refine lv_aload_n hx hb dX4_weigh_0 rfl (lv_at hl 0 rfl) ?_
  refine lv_aload_n hx hb dX4_weigh_1 rfl (lv_at hl 2 rfl) ?_
  refine pw_get (C := RX0) (T := TX0) (N := 4) hx hb hts hin0 hown hK hAO rfl 2 (by decide) lk_24 rfl rfl dX4_weigh_2 ?_
  refine lv_aload_n hx hb dX4_weigh_5 rfl (lv_at hl 1 rfl) ?_
  refine pw_get (C := RX6) (T := TX6) (N := 5) hx hb hts hin6 hown hK hMO rfl 4 (by decide) lk_29 rfl rfl dX4_weigh_6 ?_
  refine pw_imul hx hb dX4_weigh_9 ?_
  refine lv_aload_n hx hb dX4_weigh_10 rfl (lv_at hl 2 rfl) ?_
  refine pw_get (C := RX0) (T := TX0) (N := 4) hx hb hts hin0 hown hK hAO rfl 3 (by decide) lk_34 rfl rfl dX4_weigh_11 ?_
  refine pw_imul hx hb dX4_weigh_14 ?_
  refine pw_asi (gsc σ i) rfl ?_
  refine pw_put (C := RX4) (T := TX4) (N := 2) hx hb hts hin4 tyX4 tyX4_ok nmX4 hown hK hG hS (by (try dsimp only); omega) rfl 1 (by decide) lk_20 rfl rfl rfl rfl (by show _ < 2; decide) dX4_weigh_15 (fun H1 locs1 hnew hz1 oq hS => ?_)
  have hR := hR.k (oq _ (by omega)) (oq _ (by omega))
  have hMO := hMO.k (oq _ (by omega))
  have hM := hM.k (fun q h1 h2 h3 => (oq _ (by omega)))
  have hAO := hAO.k (oq _ (by omega))
  have hAW := hAW.k (oq _ (by omega))
  have hRO := hRO.k (oq _ (by omega))
  have hRQ := hRQ.k (oq _ (by omega))
  have hRW := hRW.k (fun q h1 h2 h3 => (oq _ (by omega)))
  have hG : OA D (g) 4 [.ref (g + 1), .int (iI (gsc σ i))] H1 := hnew
  clear hnew oq hz1
  refine lv_aload_n hx hb dX4_weigh_18 rfl (lv_at hl 0 rfl) ?_
  refine pw_get (C := RX4) (T := TX4) (N := 2) hx hb hts hin4 hown hK hG rfl 0 (by decide) lk_14 rfl rfl dX4_weigh_19 ?_
  refine pw_callVv (As := []) (rest := []) ⟨hx, hb, hml, hown, hts⟩ (c_clear l D E (g + 1) 24 (wdig v0) k0 v0.sign (by omega)) (cwV 0 hts gX4_weigh_X8_clear rfl rfl rfl (by decide +kernel) ⟨Nat.le_of_ble_eq_true rfl, Nat.le_of_ble_eq_true rfl⟩) hK hR.1 rfl hR rfl hl.1 rfl (Nat.le_of_ble_eq_true rfl) dX4_weigh_22 ⟨Nat.zero_le _, Nat.zero_le _⟩ hS (fun q h => by (try dsimp only at h); (try dsimp only); omega) (fun H1 locs1 hR hz1 hk1 hS => ?_)
  have hG := hG.k (hk1 _ hG.lt (by (try dsimp only); omega))
  have hMO := hMO.k (hk1 _ hMO.lt (by (try dsimp only); omega))
  have hM := hM.k (fun q h1 h2 h3 => (hk1 _ h3 (by (try dsimp only); omega)))
  have hAO := hAO.k (hk1 _ hAO.lt (by (try dsimp only); omega))
  have hAW := hAW.k (hk1 _ hAW.lt (by (try dsimp only); omega))
  have hRO := hRO.k (hk1 _ hRO.lt (by (try dsimp only); omega))
  have hRQ := hRQ.k (hk1 _ hRQ.lt (by (try dsimp only); omega))
  have hRW := hRW.k (fun q h1 h2 h3 => (hk1 _ h3 (by (try dsimp only); omega)))
  refine lv_aload_n hx hb dX4_weigh_25 rfl (lv_at hl 0 rfl) ?_
  refine pw_get (C := RX4) (T := TX4) (N := 2) hx hb hts hin4 hown hK hG rfl 0 (by decide) lk_14 rfl rfl dX4_weigh_26 ?_
  refine lv_aload_n hx hb dX4_weigh_29 rfl (lv_at hl 3 rfl) ?_
  refine pw_get (C := RX7) (T := TX7) (N := 2) hx hb hts hin7 hown hK hRO rfl 1 (by decide) lk_40 rfl rfl dX4_weigh_30 ?_
  refine lv_aload_n hx hb dX4_weigh_33 rfl (lv_at hl 2 rfl) ?_
  refine pw_get (C := RX0) (T := TX0) (N := 4) hx hb hts hin0 hown hK hAO rfl 1 (by decide) lk_44 rfl rfl dX4_weigh_34 ?_
  refine pw_i2l hx hb dX4_weigh_37 ?_
  refine lv_aload_n hx hb dX4_weigh_38 rfl (lv_at hl 1 rfl) ?_
  refine pw_get (C := RX6) (T := TX6) (N := 5) hx hb hts hin6 hown hK hMO rfl 4 (by decide) lk_29 rfl rfl dX4_weigh_39 ?_
  refine pw_i2l hx hb dX4_weigh_42 ?_
  refine pw_lmul hx hb dX4_weigh_43 ?_
  refine lv_aload_n hx hb dX4_weigh_44 rfl (lv_at hl 2 rfl) ?_
  refine pw_get (C := RX0) (T := TX0) (N := 4) hx hb hts hin0 hown hK hAO rfl 3 (by decide) lk_34 rfl rfl dX4_weigh_45 ?_
  refine pw_i2l hx hb dX4_weigh_48 ?_
  refine pw_lmul hx hb dX4_weigh_49 ?_
  refine pw_asl (gc0 σ i) rfl ?_
  have hWb := hRW.2.2.2
  have hbb := Nat.lt_of_lt_of_le hWb.b (bp_mono hn)
  refine pw_callVv (As := [.ref (r + 14), .long (lI (gc0 σ i))]) (rest := []) ⟨hx, hb, hml, hown, hts⟩ (c_add l D E (g + 1) 24 (r + 14) n (fun _ => 0) 0 0 b (gc0 σ i) (by omega) (by omega) (by omega)) (cwV 2 hts gX4_weigh_X8_add rfl rfl rfl (by decide +kernel) ⟨Nat.le_of_ble_eq_true rfl, Nat.le_of_ble_eq_true rfl⟩) hK hR.1 rfl ⟨hR, hWb⟩ rfl hl.1 rfl (Nat.le_of_ble_eq_true rfl) dX4_weigh_50 ⟨Nat.zero_le _, Nat.zero_le _⟩ hS (fun q h => by (try dsimp only at h); (try dsimp only); omega) (fun H1 locs1 hR hz1 hk1 hS => ?_)
  have hG := hG.k (hk1 _ hG.lt (by (try dsimp only); omega))
  have hMO := hMO.k (hk1 _ hMO.lt (by (try dsimp only); omega))
  have hM := hM.k (fun q h1 h2 h3 => (hk1 _ h3 (by (try dsimp only); omega)))
  have hAO := hAO.k (hk1 _ hAO.lt (by (try dsimp only); omega))
  have hAW := hAW.k (hk1 _ hAW.lt (by (try dsimp only); omega))
  have hRO := hRO.k (hk1 _ hRO.lt (by (try dsimp only); omega))
  have hRQ := hRQ.k (hk1 _ hRQ.lt (by (try dsimp only); omega))
  have hRW := hRW.k (fun q h1 h2 h3 => (hk1 _ h3 (by (try dsimp only); omega)))
  refine pw_iconst hx hb dX4_weigh_53 ?_
  refine lv_istore (lv' := [(4, .int (iI (0))), (0, .ref (g)), (1, .ref (m0)), (2, .ref (m0 + 3 + 2 * i)), (3, .ref (r))]) hx hb dX4_weigh_54 hl (by decide) rfl (fun ls hl => ?_)
  exact loop (mN σ) 0 _ _ _ _ (by omega) (by rw [wv_lin, wv_zero, wv_wdig hbb]; show _ = b * gc0 σ i + 0; rw [Int.mul_comm]; omega) (fun j => by have h2 := dig_b hc0 b j; omega) hG hR hM hRW hS (lv_sub hl [1, 2, 3, 4, 0] rfl)
/-- the chooser's cells: best and rival change places -/
def CH (D : va_G) (E : Nat → ClassId) (c0 gb gr : Nat) (vb sb vr sr : Int) (H : Heap) : Prop := OA D c0 1 [.ref gb, .ref gr, .ref (c0 + 7)] H ∧ (gb = c0 + 1 ∧ gr = c0 + 4 ∨ gb = c0 + 4 ∧ gr = c0 + 1) ∧ GN D E gb vb sb H ∧ GN D E gr vr sr H ∧ ∃ w, WH D E (c0 + 7) 24 w H
theorem CH.lt {D : va_G} {E : Nat → ClassId} {c0 gb gr : Nat} {vb sb vr sr : Int} {H : Heap} (h : CH D E c0 gb gr vb sb vr sr H) : c0 + 8 < H.size := by
  obtain ⟨_, _, _, _, w, hw⟩ := h
  have := hw.lt
  omega
theorem CH.k {D : va_G} {E : Nat → ClassId} {c0 gb gr : Nat} {vb sb vr sr : Int} {H H1 : Heap} (h : CH D E c0 gb gr vb sb vr sr H) (hq : ∀ q, c0 ≤ q → q ≤ c0 + 8 → q < H.size → H1[q]? = H[q]?) : CH D E c0 gb gr vb sb vr sr H1 := by
  have hl := h.lt
  obtain ⟨h0, h1, h2, h3, w, hw⟩ := h
  exact ⟨h0.k (hq _ (by omega) (by omega) (by omega)), h1, h2.k (fun q a b c => hq q (by omega) (by omega) c), h3.k (fun q a b c => hq q (by omega) (by omega) c), w, hw.k (hq _ (by omega) (by omega) (by omega)) (hq _ (by omega) (by omega) (by omega))⟩
set_option maxHeartbeats 4000000 in
set_option maxRecDepth 100000 in
/-- rivalIsMore() -/
theorem c_rivalIsMore (l : Launch) (D : va_G) (E : Nat → ClassId) (c0 gb gr : Nat) (vb sb vr sr : Int) (hb0 : vb.natAbs < 1000000 ^ 23) (hr0 : vr.natAbs < 1000000 ^ 23) (hsb : 0 ≤ sb ∧ sb ≤ 48000) (hsr : 0 ≤ sr ∧ sr ≤ 48000) : pw_M rvI l D E yX1_rivalIsMore wsX1_rivalIsMore ({ frames := 2, cells := 0, slots := 0, locals := 65 } : Room) [.ref (c0)] (fun H => CH D E c0 gb gr vb sb vr sr H) (fun z H => (z = 0 ∨ z = 1) ∧ (z = 1 ↔ vb * sr < vr * sb) ∧ CH D E c0 gb gr vb sb vr sr H) (fun q => c0 + 7 ≤ q ∧ q ≤ c0 + 8) (0) (0) := by
  refine pw_of (cc := cX1_rivalIsMore) (maxL := 1) (ret := (some .boolean)) (by decide +kernel) rfl (Nat.le_of_ble_eq_true rfl) ?_
  intro p e s m args below meth c hx hb hr hml hts hown hlocks hini hK ⟨hO, hgg, ⟨hGb, hWb⟩, ⟨hGr, hWr⟩, w, hWg⟩ ls hl
  have hown : s.vm.findClass RX1 = some m.cls := hown
  have hl : lv_has ls 1 [(0, .ref (c0))] := hl
  have hS : va_S (fun q => c0 + 7 ≤ q ∧ q ≤ c0 + 8) s.heap s.heap [] := va_S.rf
  have lk_12 := hts (.fieldLink RX1 12 "PolicyWorks$Chooser" "best" "LPolicyWorks$Gain;") (by decide +kernel)
  have lk_18 := hts (.fieldLink RX1 18 "PolicyWorks$Chooser" "rival" "LPolicyWorks$Gain;") (by decide +kernel)
  have lk_26 := hts (.fieldLink RX1 26 "PolicyWorks$Chooser" "gap" "LPolicyWorks$Whole;") (by decide +kernel)
  have lk_51 := hts (.fieldLink RX1 51 "PolicyWorks$Gain" "above" "LPolicyWorks$Whole;") (by decide +kernel)
  have lk_54 := hts (.fieldLink RX1 54 "PolicyWorks$Gain" "scale" "I") (by decide +kernel)
  have lk_65 := hts (.fieldLink RX1 65 "PolicyWorks$Whole" "sign" "I") (by decide +kernel)
  have hin1 : ∀ w ∈ wsX10, w ∈ wsX1_rivalIsMore := by decide +kernel
  have hin4 : ∀ w ∈ wsX40, w ∈ wsX1_rivalIsMore := by decide +kernel
  have hin8 : ∀ w ∈ wsX80, w ∈ wsX1_rivalIsMore := by decide +kernel
  have hbnd : ((vr * sb + -sr * vb).natAbs) < 1000000 ^ 24 := by
    have h1 : (vr * sb).natAbs ≤ 1000000 ^ 23 * 48000 := by rw [Int.natAbs_mul]; exact Nat.mul_le_mul (by omega) (by omega)
    have h2 : (-sr * vb).natAbs ≤ 48000 * 1000000 ^ 23 := by rw [Int.natAbs_mul]; exact Nat.mul_le_mul (by omega) (by omega)
    have h3 : 1000000 ^ 24 = 1000000 * 1000000 ^ 23 := bp_s 23
    omega
  have hbi := int_lt hbnd
  have e23 := bp_mono (show 23 ≤ 24 by omega)
  obtain ⟨k0, hR⟩ := hWg.r
  have ewv : wv (fun j => (fun j => 0 + sb * wdig vr j) j + -sr * wdig vb j) 24 = vr * sb + -sr * vb := by
    rw [wv_lin, wv_lin, wv_zero, wv_wdig (Nat.lt_of_lt_of_le hr0 e23), wv_wdig (Nat.lt_of_lt_of_le hb0 e23), Int.mul_comm sb]
    omega
  have hfb : ∀ j, -9000000000000000000 ≤ (fun j => (fun j => 0 + sb * wdig vr j) j + -sr * wdig vb j) j ∧ (fun j => (fun j => 0 + sb * wdig vr j) j + -sr * wdig vb j) j ≤ 9000000000000000000 := fun j => by
    have h1 := dig_b (c := sb) (M := 48000) (by omega) vr j
    have h2 := dig_b (c := -sr) (M := 48000) (by omega) vb j
    dsimp only
    omega
  refine lv_aload_n hx hb dX1_rivalIsMore_0 rfl (lv_at hl 0 rfl) ?_
  refine pw_get (C := RX1) (T := TX1) (N := 3) hx hb hts hin1 hown hK hO rfl 2 (by decide) lk_26 rfl rfl dX1_rivalIsMore_1 ?_
  refine pw_callVv (As := []) (rest := []) ⟨hx, hb, hml, hown, hts⟩ (c_clear l D E (c0 + 7) 24 (wdig w) k0 w.sign (by omega)) (cwV 0 hts gX1_rivalIsMore_X8_clear rfl rfl rfl (by decide +kernel) ⟨Nat.le_of_ble_eq_true rfl, Nat.le_of_ble_eq_true rfl⟩) hK hR.1 rfl hR rfl hl.1 rfl (Nat.le_of_ble_eq_true rfl) dX1_rivalIsMore_4 ⟨Nat.zero_le _, Nat.zero_le _⟩ hS (fun q h => by (try dsimp only at h); (try dsimp only); omega) (fun H1 locs1 hR hz1 hk1 hS => ?_)
  have hO := hO.k (hk1 _ hO.lt (by (try dsimp only); omega))
  have hGb := hGb.k (hk1 _ hGb.lt (by (try dsimp only); omega))
  have hWb := hWb.k (hk1 _ (by have := hWb.lt; omega) (by (try dsimp only); omega)) (hk1 _ hWb.lt (by (try dsimp only); omega))
  have hGr := hGr.k (hk1 _ hGr.lt (by (try dsimp only); omega))
  have hWr := hWr.k (hk1 _ (by have := hWr.lt; omega) (by (try dsimp only); omega)) (hk1 _ hWr.lt (by (try dsimp only); omega))
  refine lv_aload_n hx hb dX1_rivalIsMore_7 rfl (lv_at hl 0 rfl) ?_
  refine pw_get (C := RX1) (T := TX1) (N := 3) hx hb hts hin1 hown hK hO rfl 2 (by decide) lk_26 rfl rfl dX1_rivalIsMore_8 ?_
  refine lv_aload_n hx hb dX1_rivalIsMore_11 rfl (lv_at hl 0 rfl) ?_
  refine pw_get (C := RX1) (T := TX1) (N := 3) hx hb hts hin1 hown hK hO rfl 1 (by decide) lk_18 rfl rfl dX1_rivalIsMore_12 ?_
  refine pw_get (C := RX4) (T := TX4) (N := 2) hx hb hts hin4 hown hK hGr rfl 0 (by decide) lk_51 rfl rfl dX1_rivalIsMore_15 ?_
  refine lv_aload_n hx hb dX1_rivalIsMore_18 rfl (lv_at hl 0 rfl) ?_
  refine pw_get (C := RX1) (T := TX1) (N := 3) hx hb hts hin1 hown hK hO rfl 0 (by decide) lk_12 rfl rfl dX1_rivalIsMore_19 ?_
  refine pw_get (C := RX4) (T := TX4) (N := 2) hx hb hts hin4 hown hK hGb rfl 1 (by decide) lk_54 rfl rfl dX1_rivalIsMore_22 ?_
  refine pw_i2l hx hb dX1_rivalIsMore_25 ?_
  refine pw_callVv (As := [.ref (gr + 1), .long (lI (sb))]) (rest := []) ⟨hx, hb, hml, hown, hts⟩ (c_add l D E (c0 + 7) 24 (gr + 1) 24 (fun _ => 0) 0 0 vr sb (by omega) (by omega) (by omega)) (cwV 2 hts gX1_rivalIsMore_X8_add rfl rfl rfl (by decide +kernel) ⟨Nat.le_of_ble_eq_true rfl, Nat.le_of_ble_eq_true rfl⟩) hK hR.1 rfl ⟨hR, hWr⟩ rfl hl.1 rfl (Nat.le_of_ble_eq_true rfl) dX1_rivalIsMore_26 ⟨Nat.zero_le _, Nat.zero_le _⟩ hS (fun q h => by (try dsimp only at h); (try dsimp only); omega) (fun H1 locs1 hR hz1 hk1 hS => ?_)
  have hO := hO.k (hk1 _ hO.lt (by (try dsimp only); omega))
  have hGb := hGb.k (hk1 _ hGb.lt (by (try dsimp only); omega))
  have hWb := hWb.k (hk1 _ (by have := hWb.lt; omega) (by (try dsimp only); omega)) (hk1 _ hWb.lt (by (try dsimp only); omega))
  have hGr := hGr.k (hk1 _ hGr.lt (by (try dsimp only); omega))
  have hWr := hWr.k (hk1 _ (by have := hWr.lt; omega) (by (try dsimp only); omega)) (hk1 _ hWr.lt (by (try dsimp only); omega))
  refine lv_aload_n hx hb dX1_rivalIsMore_29 rfl (lv_at hl 0 rfl) ?_
  refine pw_get (C := RX1) (T := TX1) (N := 3) hx hb hts hin1 hown hK hO rfl 2 (by decide) lk_26 rfl rfl dX1_rivalIsMore_30 ?_
  refine lv_aload_n hx hb dX1_rivalIsMore_33 rfl (lv_at hl 0 rfl) ?_
  refine pw_get (C := RX1) (T := TX1) (N := 3) hx hb hts hin1 hown hK hO rfl 0 (by decide) lk_12 rfl rfl dX1_rivalIsMore_34 ?_
  refine pw_get (C := RX4) (T := TX4) (N := 2) hx hb hts hin4 hown hK hGb rfl 0 (by decide) lk_51 rfl rfl dX1_rivalIsMore_37 ?_
  refine lv_aload_n hx hb dX1_rivalIsMore_40 rfl (lv_at hl 0 rfl) ?_
  refine pw_get (C := RX1) (T := TX1) (N := 3) hx hb hts hin1 hown hK hO rfl 1 (by decide) lk_18 rfl rfl dX1_rivalIsMore_41 ?_
  refine pw_get (C := RX4) (T := TX4) (N := 2) hx hb hts hin4 hown hK hGr rfl 1 (by decide) lk_54 rfl rfl dX1_rivalIsMore_44 ?_
  refine pw_ineg hx hb dX1_rivalIsMore_47 ?_
  refine pw_i2l hx hb dX1_rivalIsMore_48 ?_
  refine pw_callVv (As := [.ref (gb + 1), .long (lI (-(sr)))]) (rest := []) ⟨hx, hb, hml, hown, hts⟩ (c_add l D E (c0 + 7) 24 (gb + 1) 24 (fun j => 0 + sb * wdig vr j) 0 0 vb (-sr) (by omega) (by omega) (by omega)) (cwV 2 hts gX1_rivalIsMore_X8_add rfl rfl rfl (by decide +kernel) ⟨Nat.le_of_ble_eq_true rfl, Nat.le_of_ble_eq_true rfl⟩) hK hR.1 rfl ⟨hR, hWb⟩ rfl hl.1 rfl (Nat.le_of_ble_eq_true rfl) dX1_rivalIsMore_49 ⟨Nat.zero_le _, Nat.zero_le _⟩ hS (fun q h => by (try dsimp only at h); (try dsimp only); omega) (fun H1 locs1 hR hz1 hk1 hS => ?_)
  have hO := hO.k (hk1 _ hO.lt (by (try dsimp only); omega))
  have hGb := hGb.k (hk1 _ hGb.lt (by (try dsimp only); omega))
  have hWb := hWb.k (hk1 _ (by have := hWb.lt; omega) (by (try dsimp only); omega)) (hk1 _ hWb.lt (by (try dsimp only); omega))
  have hGr := hGr.k (hk1 _ hGr.lt (by (try dsimp only); omega))
  have hWr := hWr.k (hk1 _ (by have := hWr.lt; omega) (by (try dsimp only); omega)) (hk1 _ hWr.lt (by (try dsimp only); omega))
  refine lv_aload_n hx hb dX1_rivalIsMore_52 rfl (lv_at hl 0 rfl) ?_
  refine pw_get (C := RX1) (T := TX1) (N := 3) hx hb hts hin1 hown hK hO rfl 2 (by decide) lk_26 rfl rfl dX1_rivalIsMore_53 ?_
  refine pw_callVv (As := []) (rest := []) ⟨hx, hb, hml, hown, hts⟩ (c_settle l D E (c0 + 7) 24 (fun j => (fun j => 0 + sb * wdig vr j) j + -sr * wdig vb j) 0 0 (by omega) (fun j _ => hfb j) (by rw [ewv]; exact hbi.1) (by rw [ewv]; exact hbi.2)) (cwV 0 hts gX1_rivalIsMore_X8_settle rfl rfl rfl (by decide +kernel) ⟨Nat.le_of_ble_eq_true rfl, Nat.le_of_ble_eq_true rfl⟩) hK hR.1 rfl hR rfl hl.1 rfl (Nat.le_of_ble_eq_true rfl) dX1_rivalIsMore_56 ⟨Nat.zero_le _, Nat.zero_le _⟩ hS (fun q h => by (try dsimp only at h); (try dsimp only); omega) (fun H1 locs1 hW hz1 hk1 hS => ?_)
  have hO := hO.k (hk1 _ hO.lt (by (try dsimp only); omega))
  have hGb := hGb.k (hk1 _ hGb.lt (by (try dsimp only); omega))
  have hWb := hWb.k (hk1 _ (by have := hWb.lt; omega) (by (try dsimp only); omega)) (hk1 _ hWb.lt (by (try dsimp only); omega))
  have hGr := hGr.k (hk1 _ hGr.lt (by (try dsimp only); omega))
  have hWr := hWr.k (hk1 _ (by have := hWr.lt; omega) (by (try dsimp only); omega)) (hk1 _ hWr.lt (by (try dsimp only); omega))
  rw [ewv] at hW
  obtain ⟨kg, ⟨hOg, hLg⟩, hkg⟩ := hW
  have hsg := sgn_i (vr * sb + -sr * vb)
  refine lv_aload_n hx hb dX1_rivalIsMore_59 rfl (lv_at hl 0 rfl) ?_
  refine pw_get (C := RX1) (T := TX1) (N := 3) hx hb hts hin1 hown hK hO rfl 2 (by decide) lk_26 rfl rfl dX1_rivalIsMore_60 ?_
  refine pw_get (C := RX8) (T := TX8) (N := 3) hx hb hts hin8 hown hK hOg rfl 2 (by decide) lk_65 rfl rfl dX1_rivalIsMore_63 ?_
  refine pw_if_le (tgt := 73) hx hb dX1_rivalIsMore_66 (by decide) (fun c_66 => ?_) (fun c_66 => ?_) (by rw [hsg]; split <;> (try split) <;> omega) (by rw [hsg]; split <;> (try split) <;> omega)
  · refine pw_iconst hx hb dX1_rivalIsMore_73 ?_
    have hneg : -sr * vb = -(vb * sr) := by rw [Int.neg_mul, Int.mul_comm]
    have hiff : (0 = (1 : Int)) ↔ vb * sr < vr * sb := by
      rw [hsg] at c_66
      split at c_66 <;> (try split at c_66) <;> omega
    exact pw_zret hx hb hr hlocks hS (by omega) ⟨by omega, hiff, hO, hgg, ⟨hGb, hWb⟩, ⟨hGr, hWr⟩, _, ⟨kg, ⟨hOg, hLg⟩, hkg⟩⟩ dX1_rivalIsMore_74
  · refine pw_iconst hx hb dX1_rivalIsMore_69 ?_
    refine lv_goto (tgt := 74) hx hb dX1_rivalIsMore_70 (by decide) ?_
    have hneg : -sr * vb = -(vb * sr) := by rw [Int.neg_mul, Int.mul_comm]
    have hiff : (1 = (1 : Int)) ↔ vb * sr < vr * sb := by
      rw [hsg] at c_66
      split at c_66 <;> (try split at c_66) <;> omega
    exact pw_zret hx hb hr hlocks hS (by omega) ⟨by omega, hiff, hO, hgg, ⟨hGb, hWb⟩, ⟨hGr, hWr⟩, _, ⟨kg, ⟨hOg, hLg⟩, hkg⟩⟩ dX1_rivalIsMore_74
