/-! the reference: values by going on step by step -/
theorem gnum_vs_eq {σ : MS} {vs vs0 : Nat → Int} {val bel : Nat} (h : gnum_vs σ vs vs0 val bel) (i : Nat) : gnum σ i (fun t => vs (val + t)) (vs bel) = gnum σ i (fun t => vs0 (val + t)) (vs0 bel) := by
  rw [h.2]
  exact gnum_eq h.1
/-- the values behind so many steps, v over b -/
def GS (σ : MS) : Nat → (Nat → Int) → Int → Prop
  | 0, v, b => 0 < b ∧ ∀ s, s < mN σ → v s = 0
  | k + 1, v, b => 0 < b ∧ ∃ v0 b0, GS σ k v0 b0 ∧ ∀ s, s < mN σ → v s * (b0 * gsc σ (4 * s + spk σ v0 b0 s)) = gnum σ (4 * s + spk σ v0 b0 s) v0 b0 * b
theorem GS.pos {σ : MS} {k : Nat} {v : Nat → Int} {b : Int} (h : GS σ k v b) : 0 < b := by
  cases k with
  | zero => exact h.1
  | succ k => exact h.1
theorem GS_uniq {σ : MS} (hok : mOK σ) (hr : rdy σ) : ∀ {k : Nat} {v v' : Nat → Int} {b b' : Int}, GS σ k v b → GS σ k v' b' → ∀ s, s < mN σ → v s * b' = v' s * b
  | 0, v, v', b, b', h, h', s, hs => by rw [h.2 s hs, h'.2 s hs, Int.zero_mul, Int.zero_mul]
  | k + 1, v, v', b, b', h, h', s, hs => by
    obtain ⟨h1, v0, b0, h2, h3⟩ := h
    obtain ⟨h1', v0', b0', h2', h3'⟩ := h'
    have hu := GS_uniq hok hr h2 h2'
    have ep : spk σ v0 b0 s = spk σ v0' b0' s := gpick_prop h2.pos h2'.pos hu _
    have eg := gnum_prop hu (4 * s + spk σ v0' b0' s)
    have e1 := h3 s hs
    have e2 := h3' s hs
    rw [ep] at e1
    have hg := gsc_pos hok hr hs (spk_lt (v := v0') (b := b0') hr hs)
    have hp : 0 < b0 * (b0' * gsc σ (4 * s + spk σ v0' b0' s)) := Int.mul_pos h2.pos (Int.mul_pos h2'.pos hg)
    refine Int.eq_of_mul_eq_mul_right (Int.ne_of_gt hp) ?_
    generalize gsc σ (4 * s + spk σ v0' b0' s) = gs at *
    generalize gnum σ (4 * s + spk σ v0' b0' s) v0 b0 = g1 at *
    generalize gnum σ (4 * s + spk σ v0' b0' s) v0' b0' = g2 at *
    have l1 : v s * b' * (b0 * (b0' * gs)) = (v s * (b0 * gs)) * (b' * b0') := by grind
    have l2 : v' s * b * (b0 * (b0' * gs)) = (v' s * (b0' * gs)) * (b * b0) := by grind
    rw [l1, l2, e1, e2]
    have l3 : g1 * b * (b' * b0') = (g1 * b0') * (b * b') := by grind
    have l4 : g2 * b' * (b * b0) = (g2 * b0) * (b * b') := by grind
    rw [l3, l4, eg]
def dd (σ : MS) (v : Nat → Int) (b : Int) (s : Nat) : Nat := mD σ (4 * s + spk σ v b s) * mT σ (4 * s + spk σ v b s)
theorem dd_ok {σ : MS} (hok : mOK σ) (hr : rdy σ) (v : Nat → Int) (b : Int) : ∀ s, s < mN σ → vok (dd σ v b s) := fun s hs => by
  have hN := hok.1
  have hC := hok.2.1 s (by omega)
  have hp := spk_lt (v := v) (b := b) hr hs
  obtain ⟨u1, u2, d1, d2, ww⟩ := hok.2.2.1 (4 * s + spk σ v b s) (by omega)
  have hT := mT_b hok (show 4 * s + spk σ v b s < 24 by omega)
  have hT0 := (hr.2 s hs).2 (spk σ v b s) hp
  exact vok_of (by omega) d2 (by omega) hT
def mG (n : Nat) : Nat := (2448000 * 2400 ^ 6) ^ n
theorem mG_s (n : Nat) : mG (n + 1) = mG n * (2448000 * 2400 ^ 6) := Nat.pow_succ _ _
theorem mG_b : ∀ n, n ≤ 8 → 0 < mG n ∧ mG n * 8000000000 < 268435456 ^ 60 := by
  intro n hn
  have h1 : mG n ≤ mG 8 := Nat.pow_le_pow_right (by decide +kernel) hn
  have h2 : mG 8 * 8000000000 < 268435456 ^ 60 := by decide +kernel
  exact ⟨Nat.pow_pos (by decide +kernel), Nat.lt_of_le_of_lt (Nat.mul_le_mul_right _ h1) h2⟩
/-- a step's values from the raised numbers -/
theorem GS_step {σ : MS} (hok : mOK σ) (hr : rdy σ) {k : Nat} {v v' : Nat → Int} {b b' : Int} (h : GS σ k v b) (hb : b' = b * (mB σ : Int) * ((PP (tgm (dd σ v b) (mN σ)) 30 : Nat) : Int)) (hv : ∀ s, s < mN σ → v' s = gnum σ (4 * s + spk σ v b s) v b * ((rsx (dd σ v b) (mN σ) s : Nat) : Int)) : GS σ (k + 1) v' b' := by
  have hb0 := h.pos
  have hB : 0 < (mB σ : Int) := by have := hok.2.2.2.1; omega
  have hL : 0 < ((PP (tgm (dd σ v b) (mN σ)) 30 : Nat) : Int) := by have := PP_pos (tgm (dd σ v b) (mN σ)) 30 (Nat.le_refl _); omega
  refine ⟨by rw [hb]; exact Int.mul_pos (Int.mul_pos hb0 hB) hL, v, b, h, fun s hs => ?_⟩
  have e := rs_mul hs (dd_ok hok hr v b s hs)
  have e2 : ((rsx (dd σ v b) (mN σ) s : Nat) : Int) * ((mD σ (4 * s + spk σ v b s) : Int) * (mT σ (4 * s + spk σ v b s) : Int)) = ((PP (tgm (dd σ v b) (mN σ)) 30 : Nat) : Int) := by
    rw [← Int.natCast_mul, ← Int.natCast_mul]
    exact congrArg Int.ofNat e
  rw [hb, hv s hs, ← e2]
  unfold gsc
  generalize ((rsx (dd σ v b) (mN σ) s : Nat) : Int) = r
  generalize gnum σ (4 * s + spk σ v b s) v b = g1
  generalize (mD σ (4 * s + spk σ v b s) : Int) = d1
  generalize (mT σ (4 * s + spk σ v b s) : Int) = t1
  generalize (mB σ : Int) = b1
  grind
set_option maxHeartbeats 4000000 in
set_option maxRecDepth 100000 in
/-- go(n) -/
theorem r_go (l : Launch) (D : va_G) (E : Nat → ClassId) (r0 : Nat) (σ : MS) (th so rn co : Int) (gU gD gW ch0 vs0 ow0 tg0 : Nat → Int) (n0 : Nat) (hn8 : n0 ≤ 8) (hok : mOK σ) (hrd : rdy σ) (hm : mR σ gU gD gW) : pw_M rvV l D E yX10_go wsX10_go ({ frames := 5, cells := 0, slots := 0, locals := 127 } : Room) [.ref (r0), .int (iI ((n0 : Int)))] (fun H => OA D r0 10 [.int (iI (th)), .int (iI ((mN σ : Int))), .ref (r0 + 1), .ref (r0 + 2), .ref (r0 + 3), .ref (r0 + 4), .int (iI ((mA σ : Int))), .int (iI ((mB σ : Int))), .int (iI (so)), .int (iI (rn)), .ref (r0 + 5), .ref (r0 + 6), .ref (r0 + 7), .ref (r0 + 8), .ref (r0 + 9), .ref (r0 + 10), .ref (r0 + 11), .ref (r0 + 12), .ref (r0 + 13), .int (iI (co))] H ∧ IA E (r0 + 1) 6 (fun s => (mC σ s : Int)) H ∧ IA E (r0 + 2) 24 gU H ∧ IA E (r0 + 3) 24 gD H ∧ IA E (r0 + 4) 144 gW H ∧ IA E (r0 + 6) 6 ch0 H ∧ BN E r0 vs0 H ∧ IA E (r0 + 11) 30 prm H ∧ IA E (r0 + 12) 30 ow0 H ∧ IA E (r0 + 13) 30 tg0 H) (fun _ H => ∃ ch ow tg vs, IA E (r0 + 6) 6 ch H ∧ BN E r0 vs H ∧ IA E (r0 + 12) 30 ow H ∧ IA E (r0 + 13) 30 tg H ∧ GS σ n0 (fun t => vs (55 + t)) (vs 67) ∧ (∀ t, t < mN σ → (vs (55 + t)).natAbs ≤ mG n0) ∧ (vs 67).natAbs ≤ mG n0 ∧ ∀ q, 68 ≤ q → vs q = vs0 q) (fun q => q = r0 + 6 ∨ (r0 + 8 ≤ q ∧ q ≤ r0 + 10) ∨ q = r0 + 12 ∨ q = r0 + 13) (0) (0) := by
  refine pw_of (cc := cX10_go) (maxL := 6) (ret := none) (by decide +kernel) rfl (Nat.le_of_ble_eq_true rfl) ?_
  intro p e s m args below meth c hx hb hr hml hts hown hlocks hini hK ⟨hO, hC, hU, hDn, hW, hCh, ⟨f, g, h, ⟨hf, hg, hh⟩, hN⟩, hP, hOw, hTg⟩ ls hl
  have hown : s.vm.findClass RX10 = some m.cls := hown
  have hl : lv_has ls 6 [(0, .ref (r0)), (1, .int (iI ((n0 : Int))))] := hl
  have hS : va_S (fun q => q = r0 + 6 ∨ (r0 + 8 ≤ q ∧ q ≤ r0 + 10) ∨ q = r0 + 12 ∨ q = r0 + 13) s.heap s.heap [] := va_S.rf
  have lk_16 := hts (.fieldLink RX10 16 "PolicyWorksModel" "downs" "[I") (by decide +kernel)
  have lk_26 := hts (.fieldLink RX10 26 "PolicyWorksModel" "discountDown" "I") (by decide +kernel)
  have lk_32 := hts (.fieldLink RX10 32 "PolicyWorksModel" "chosen" "[I") (by decide +kernel)
  have lk_47 := hts (.fieldLink RX10 47 "PolicyWorksModel" "primes" "[I") (by decide +kernel)
  have lk_50 := hts (.fieldLink RX10 50 "PolicyWorksModel" "own" "[I") (by decide +kernel)
  have lk_53 := hts (.fieldLink RX10 53 "PolicyWorksModel" "together" "[I") (by decide +kernel)
  have lk_103 := hts (.fieldLink RX10 103 "PolicyWorksModel" "states" "I") (by decide +kernel)
  have hin10 : ∀ w ∈ wsX100, w ∈ wsX10_go := by decide +kernel
  have hN6 := hok.1
  have hC4 := hok.2.1
  have hB20 := hok.2.2.2.2.1
  have hAB := hok.2.2.2.1
  have p60 : 268435456 ^ 60 < 268435456 ^ 62 ∧ 268435456 ^ 60 < 268435456 ^ 64 := by decide +kernel
  have loop : ∀ (kk k : Nat) (ch ow tg vs f g h : Nat → Int) (H : Heap) (locs : List Loc) (ls : Array Slot), k + kk = n0 → GS σ k (fun t => vs (55 + t)) (vs 67) → (∀ t, t < mN σ → (vs (55 + t)).natAbs ≤ mG k) → (vs 67).natAbs ≤ mG k → (∀ q, 68 ≤ q → vs (q) = vs0 q) → OA D r0 10 [.int (iI (th)), .int (iI ((mN σ : Int))), .ref (r0 + 1), .ref (r0 + 2), .ref (r0 + 3), .ref (r0 + 4), .int (iI ((mA σ : Int))), .int (iI ((mB σ : Int))), .int (iI (so)), .int (iI (rn)), .ref (r0 + 5), .ref (r0 + 6), .ref (r0 + 7), .ref (r0 + 8), .ref (r0 + 9), .ref (r0 + 10), .ref (r0 + 11), .ref (r0 + 12), .ref (r0 + 13), .int (iI (co))] H → IA E (r0 + 1) 6 (fun s => (mC σ s : Int)) H → IA E (r0 + 2) 24 gU H → IA E (r0 + 3) 24 gD H → IA E (r0 + 4) 144 gW H → IA E (r0 + 6) 6 ch H → IA E (r0 + 8) 5120 f H → IA E (r0 + 9) 80 g H → IA E (r0 + 10) 80 h H → (∀ c, c < 80 → Num f g h c (vs c)) → IA E (r0 + 11) 30 prm H → IA E (r0 + 12) 30 ow H → IA E (r0 + 13) 30 tg H → va_S (fun q => q = r0 + 6 ∨ (r0 + 8 ≤ q ∧ q ≤ r0 + 10) ∨ q = r0 + 12 ∨ q = r0 + 13) s.heap H locs → lv_has ls 6 [(0, .ref (r0)), (1, .int (iI ((n0 : Int)))), (2, .int (iI ((k : Int))))] → W p l e ({ frames := 5, cells := 0, slots := 0, locals := 127 } : Room) s m args below meth c H locs (0) (0) (MQ below (pw_Q rvV (fun _ H => ∃ ch ow tg vs, IA E (r0 + 6) 6 ch H ∧ BN E r0 vs H ∧ IA E (r0 + 12) 30 ow H ∧ IA E (r0 + 13) 30 tg H ∧ GS σ n0 (fun t => vs (55 + t)) (vs 67) ∧ (∀ t, t < mN σ → (vs (55 + t)).natAbs ≤ mG n0) ∧ (vs 67).natAbs ≤ mG n0 ∧ ∀ q, 68 ≤ q → vs q = vs0 q) (fun q => q = r0 + 6 ∨ (r0 + 8 ≤ q ∧ q ≤ r0 + 10) ∨ q = r0 + 12 ∨ q = r0 + 13)) args s (0) (0) (fun q => q = r0 + 6 ∨ (r0 + 8 ≤ q ∧ q ≤ r0 + 10) ∨ q = r0 + 12 ∨ q = r0 + 13)) (F0 m 34 ls []) := by
    intro kk
    induction kk with
    | zero =>
      intro k ch ow tg vs f g h H locs ls hk hGS hb1 hb2 hv8 hO hC hU hDn hW hCh hf hg hh hN hP hOw hTg hS hl
      have ek : k = n0 := by omega
      subst ek
      refine lv_iload_n hx hb dX10_go_34 rfl (lv_at hl 2 rfl) ?_
      refine lv_iload_n hx hb dX10_go_35 rfl (lv_at hl 1 rfl) ?_
      refine pw_icmp_ge (tgt := 344) hx hb dX10_go_36 (by decide) (fun c_36 => ?_) (fun c_36 => absurd c_36 (by omega))
      exact pw_vret hx hb hr hlocks hS ⟨ch, ow, tg, vs, hCh, ⟨f, g, h, ⟨hf, hg, hh⟩, hN⟩, hOw, hTg, hGS, hb1, hb2, hv8⟩ dX10_go_344
    | succ kk ih =>
      intro k ch ow tg v1 f g h H locs ls hk hGS hb1 hb2 hv8
      have hmg := mG_b k (by omega)
      have hmg2 := mG_b (k + 1) (by omega)
      have hms := mG_s k
      have hdd := dd_ok hok hrd (fun t => v1 (55 + t)) (v1 67)
      have hgb : ∀ q, q < mN σ → (gnum σ (4 * q + spk σ (fun t => v1 (55 + t)) (v1 67) q) (fun t => v1 (55 + t)) (v1 67)).natAbs ≤ 2448000 * mG k := fun q hq => by
        have := spk_lt (v := (fun t => v1 (55 + t))) (b := (v1 67)) hrd hq
        have := hC4 q (by omega)
        exact gnr_b hok (by omega) hb1 hb2
      have p6 : 2400 ^ mN σ ≤ 2400 ^ 6 := Nat.pow_le_pow_right (by omega) hN6
      have hLb := Nat.le_trans (tgm_b hdd) p6
      have hRb : ∀ q, q < mN σ → rsx (dd σ (fun t => v1 (55 + t)) (v1 67)) (mN σ) q ≤ 2400 ^ 6 := fun q hq => Nat.le_trans (rs_le hq hdd) p6
      have hbm : (v1 67 * (mB σ : Int)).natAbs ≤ mG k * 20 := mulb hb2 (by omega)
      have loop8 : ∀ (mm j : Nat) (ch ow tg vs f g h : Nat → Int) (H : Heap) (locs : List Loc) (ls : Array Slot), j + mm = 30 → vs (67) = (v1 67 * (mB σ : Int)) * ((PP (tgm (dd σ (fun t => v1 (55 + t)) (v1 67)) (mN σ)) j : Nat) : Int) → (∀ q, q < mN σ → vs (55 + q) = gnum σ (4 * q + spk σ (fun t => v1 (55 + t)) (v1 67) q) (fun t => v1 (55 + t)) (v1 67) * ((rsx (dd σ (fun t => v1 (55 + t)) (v1 67)) (mN σ) q : Nat) : Int)) → (∀ q, q < 30 → tg q = ((tgm (dd σ (fun t => v1 (55 + t)) (v1 67)) (mN σ)) q : Int)) → (∀ q, 68 ≤ q → vs (q) = vs0 q) → OA D r0 10 [.int (iI (th)), .int (iI ((mN σ : Int))), .ref (r0 + 1), .ref (r0 + 2), .ref (r0 + 3), .ref (r0 + 4), .int (iI ((mA σ : Int))), .int (iI ((mB σ : Int))), .int (iI (so)), .int (iI (rn)), .ref (r0 + 5), .ref (r0 + 6), .ref (r0 + 7), .ref (r0 + 8), .ref (r0 + 9), .ref (r0 + 10), .ref (r0 + 11), .ref (r0 + 12), .ref (r0 + 13), .int (iI (co))] H → IA E (r0 + 1) 6 (fun s => (mC σ s : Int)) H → IA E (r0 + 2) 24 gU H → IA E (r0 + 3) 24 gD H → IA E (r0 + 4) 144 gW H → IA E (r0 + 6) 6 ch H → IA E (r0 + 8) 5120 f H → IA E (r0 + 9) 80 g H → IA E (r0 + 10) 80 h H → (∀ c, c < 80 → Num f g h c (vs c)) → IA E (r0 + 11) 30 prm H → IA E (r0 + 12) 30 ow H → IA E (r0 + 13) 30 tg H → va_S (fun q => q = r0 + 6 ∨ (r0 + 8 ≤ q ∧ q ≤ r0 + 10) ∨ q = r0 + 12 ∨ q = r0 + 13) s.heap H locs → lv_has ls 6 [(0, .ref (r0)), (1, .int (iI ((n0 : Int)))), (2, .int (iI ((k : Int)))), (3, .int (iI ((j : Int))))] → W p l e ({ frames := 5, cells := 0, slots := 0, locals := 127 } : Room) s m args below meth c H locs (0) (0) (MQ below (pw_Q rvV (fun _ H => ∃ ch ow tg vs, IA E (r0 + 6) 6 ch H ∧ BN E r0 vs H ∧ IA E (r0 + 12) 30 ow H ∧ IA E (r0 + 13) 30 tg H ∧ GS σ n0 (fun t => vs (55 + t)) (vs 67) ∧ (∀ t, t < mN σ → (vs (55 + t)).natAbs ≤ mG n0) ∧ (vs 67).natAbs ≤ mG n0 ∧ ∀ q, 68 ≤ q → vs q = vs0 q) (fun q => q = r0 + 6 ∨ (r0 + 8 ≤ q ∧ q ≤ r0 + 10) ∨ q = r0 + 12 ∨ q = r0 + 13)) args s (0) (0) (fun q => q = r0 + 6 ∨ (r0 + 8 ≤ q ∧ q ≤ r0 + 10) ∨ q = r0 + 12 ∨ q = r0 + 13)) (F0 m 308 ls []) := by
        intro mm
        induction mm with
        | zero =>
          intro j ch ow tg vs f g h H locs ls hj h67 h55 htg hv8 hO hC hU hDn hW hCh hf hg hh hN hP hOw hTg hS hl
          have ej : j = 30 := by omega
          subst ej
          refine lv_iload_n hx hb dX10_go_308 rfl (lv_at hl 3 rfl) ?_
          refine pw_bipush hx hb dX10_go_309 ?_
          refine pw_icmp_ge (tgt := 338) hx hb dX10_go_311 (by decide) (fun c_311 => ?_) (fun c_311 => absurd c_311 (by omega))
          refine lv_iinc (v := iI (((k + 1 : Nat) : Int))) (lv' := [(2, .int (iI (((k + 1 : Nat) : Int)))), (0, .ref (r0)), (1, .int (iI ((n0 : Int)))), (3, .int (iI (((30 : Nat) : Int))))]) hx hb dX10_go_338 hl (k := 2) rfl (by show iI _ + iI _ = _; exact (iI_add _ _).trans (by first | rfl | (congr 1; omega))) (by decide) rfl (fun ls hl => ?_)
          refine lv_goto (tgt := 34) hx hb dX10_go_341 (by decide) ?_
          refine ih (k + 1) ch ow tg vs f g h _ _ _ (by omega) (GS_step hok hrd hGS h67 h55) (fun t ht => ?_) ?_ hv8 hO hC hU hDn hW hCh hf hg hh hN hP hOw hTg hS (lv_sub hl [1, 2, 0] rfl)
          · rw [h55 t ht]
            have h1 := mulb (hgb t ht) (show (((rsx (dd σ (fun t => v1 (55 + t)) (v1 67)) (mN σ) t : Nat) : Int)).natAbs ≤ 2400 ^ 6 by rw [Int.natAbs_natCast]; exact hRb t ht)
            rw [hms]
            exact Nat.le_trans h1 (by rw [Nat.mul_comm 2448000, Nat.mul_assoc]; exact Nat.le_refl _)
          · rw [h67]
            have h1 := mulb hbm (show (((PP (tgm (dd σ (fun t => v1 (55 + t)) (v1 67)) (mN σ)) 30 : Nat) : Int)).natAbs ≤ 2400 ^ 6 by rw [Int.natAbs_natCast]; exact hLb)
            rw [hms]
            exact Nat.le_trans h1 (by rw [Nat.mul_assoc]; exact Nat.mul_le_mul_left _ (Nat.mul_le_mul_right _ (by omega)))
        | succ mm ih2 =>
          intro j ch ow tg vs f g h H locs ls hj h67 h55 htg hv8 hO hC hU hDn hW hCh hf hg hh hN hP hOw hTg hS hl
          have hpr := pr_b j (by omega)
          have htl := tgm_le (dd σ (fun t => v1 (55 + t)) (v1 67)) j (mN σ)
          have hpj : PP (tgm (dd σ (fun t => v1 (55 + t)) (v1 67)) (mN σ)) (j + 1) = PP (tgm (dd σ (fun t => v1 (55 + t)) (v1 67)) (mN σ)) j * pr j ^ (tgm (dd σ (fun t => v1 (55 + t)) (v1 67)) (mN σ)) j := rfl
          have hpb := Nat.le_trans (PP_up (e := (tgm (dd σ (fun t => v1 (55 + t)) (v1 67)) (mN σ))) (show j + 1 ≤ 30 by omega) (Nat.le_refl _)) hLb
          have hrb : (vs 67).natAbs * pr j ^ (tgm (dd σ (fun t => v1 (55 + t)) (v1 67)) (mN σ)) j < 268435456 ^ 64 := by
            rw [h67, Int.natAbs_mul, Int.natAbs_natCast, Nat.mul_assoc, ← hpj]
            have h1 := Nat.mul_le_mul hbm hpb
            have h2 : mG k * 20 * 2400 ^ 6 ≤ mG (k + 1) := by rw [hms, Nat.mul_assoc]; exact Nat.mul_le_mul_left _ (Nat.mul_le_mul_right _ (by omega))
            omega
          refine lv_iload_n hx hb dX10_go_308 rfl (lv_at hl 3 rfl) ?_
          refine pw_bipush hx hb dX10_go_309 ?_
          refine pw_icmp_ge (tgt := 338) hx hb dX10_go_311 (by decide) (fun c_311 => absurd c_311 (by omega)) (fun c_311 => ?_)
          refine lv_aload_n hx hb dX10_go_314 rfl (lv_at hl 0 rfl) ?_
          refine pw_bipush hx hb dX10_go_315 ?_
          refine lv_aload_n hx hb dX10_go_317 rfl (lv_at hl 0 rfl) ?_
          refine pw_get (C := RX10) (T := TX10) (N := 20) hx hb hts hin10 hown hK hO rfl 16 (by decide) lk_47 rfl rfl dX10_go_318 ?_
          refine lv_iload_n hx hb dX10_go_321 rfl (lv_at hl 3 rfl) ?_
          refine pw_iald hx hb hK hP (j) rfl (by omega) (by omega) dX10_go_322 ?_
          refine pw_asi ((pr j : Int)) (prm_pr j (by omega)) ?_
          refine lv_aload_n hx hb dX10_go_323 rfl (lv_at hl 0 rfl) ?_
          refine pw_get (C := RX10) (T := TX10) (N := 20) hx hb hts hin10 hown hK hO rfl 18 (by decide) lk_53 rfl rfl dX10_go_324 ?_
          refine lv_iload_n hx hb dX10_go_327 rfl (lv_at hl 3 rfl) ?_
          refine pw_iald hx hb hK hTg (j) rfl (by omega) (by omega) dX10_go_328 ?_
          refine pw_asi (((tgm (dd σ (fun t => v1 (55 + t)) (v1 67)) (mN σ)) j : Int)) (htg j (by omega)) ?_
          refine pw_callVv (As := [.int (iI (67)), .int (iI ((pr j : Int))), .int (iI (((tgm (dd σ (fun t => v1 (55 + t)) (v1 67)) (mN σ)) j : Int)))]) (rest := []) ⟨hx, hb, hml, hown, hts⟩ (r_raise l D E r0 (oV th σ so rn co) vs (67) (pr j) ((tgm (dd σ (fun t => v1 (55 + t)) (v1 67)) (mN σ)) j) (by omega) (by omega) (by omega) (by omega) hrb) (cwV 3 hts gX10_go_X10_raise rfl rfl rfl (by decide +kernel) ⟨Nat.le_of_ble_eq_true rfl, Nat.le_of_ble_eq_true rfl⟩) hK hO rfl ⟨hO, f, g, h, ⟨hf, hg, hh⟩, hN⟩ rfl hl.1 rfl (Nat.le_of_ble_eq_true rfl) dX10_go_329 ⟨Nat.zero_le _, Nat.zero_le _⟩ hS (fun q h => by (try dsimp only at h); (try dsimp only); omega) (fun H1 locs1 ⟨vs1, ⟨f, g, h, ⟨hf, hg, hh⟩, hN⟩, hnew, hvo⟩ hz1 hk1 hS => ?_)
          have hO := hO.k (hk1 _ hO.lt (by (try dsimp only); omega))
          have hC := hC.k (hk1 _ hC.lt (by (try dsimp only); omega))
          have hU := hU.k (hk1 _ hU.lt (by (try dsimp only); omega))
          have hDn := hDn.k (hk1 _ hDn.lt (by (try dsimp only); omega))
          have hW := hW.k (hk1 _ hW.lt (by (try dsimp only); omega))
          have hCh := hCh.k (hk1 _ hCh.lt (by (try dsimp only); omega))
          have hP := hP.k (hk1 _ hP.lt (by (try dsimp only); omega))
          have hOw := hOw.k (hk1 _ hOw.lt (by (try dsimp only); omega))
          have hTg := hTg.k (hk1 _ hTg.lt (by (try dsimp only); omega))
          have h67 : vs1 (67) = (v1 67 * (mB σ : Int)) * ((PP (tgm (dd σ (fun t => v1 (55 + t)) (v1 67)) (mN σ)) (j + 1) : Nat) : Int) := by rw [hnew, h67, hpj, Int.natCast_mul, Int.mul_assoc]
          have h55 : ∀ q, q < mN σ → vs1 (55 + q) = gnum σ (4 * q + spk σ (fun t => v1 (55 + t)) (v1 67) q) (fun t => v1 (55 + t)) (v1 67) * ((rsx (dd σ (fun t => v1 (55 + t)) (v1 67)) (mN σ) q : Nat) : Int) := fun q hq => (hvo _ (by omega)).trans (h55 q hq)
          have hv8 : ∀ q, 68 ≤ q → vs1 (q) = vs0 q := fun q hq => (hvo _ (by omega)).trans (hv8 q hq)
          refine lv_iinc (v := iI (((j + 1 : Nat) : Int))) (lv' := [(3, .int (iI (((j + 1 : Nat) : Int)))), (0, .ref (r0)), (1, .int (iI ((n0 : Int)))), (2, .int (iI ((k : Int))))]) hx hb dX10_go_332 hl (k := 3) rfl (by show iI _ + iI _ = _; exact (iI_add _ _).trans (by first | rfl | (congr 1; omega))) (by decide) rfl (fun ls hl => ?_)
          refine lv_goto (tgt := 308) hx hb dX10_go_335 (by decide) ?_
          exact ih2 (j + 1) ch ow tg vs1 f g h _ _ _ (by omega) h67 h55 htg hv8 hO hC hU hDn hW hCh hf hg hh hN hP hOw hTg hS (lv_sub hl [1, 2, 3, 0] rfl)
      have loop5 : ∀ (mm n : Nat) (ch ow tg vs f g h : Nat → Int) (H : Heap) (locs : List Loc) (ls : Array Slot), n + mm = mN σ → (∀ q, q < mN σ → ch q = ((spk σ (fun t => v1 (55 + t)) (v1 67) q) : Int)) → (∀ q, n ≤ q ∧ q < mN σ → vs (61 + q) = gnum σ (4 * q + spk σ (fun t => v1 (55 + t)) (v1 67) q) (fun t => v1 (55 + t)) (v1 67)) → (∀ q, q < n → vs (55 + q) = gnum σ (4 * q + spk σ (fun t => v1 (55 + t)) (v1 67) q) (fun t => v1 (55 + t)) (v1 67) * ((rsx (dd σ (fun t => v1 (55 + t)) (v1 67)) (mN σ) q : Nat) : Int)) → vs (67) = v1 67 → (∀ q, q < 30 → tg q = ((tgm (dd σ (fun t => v1 (55 + t)) (v1 67)) (mN σ)) q : Int)) → (∀ q, 68 ≤ q → vs (q) = vs0 q) → OA D r0 10 [.int (iI (th)), .int (iI ((mN σ : Int))), .ref (r0 + 1), .ref (r0 + 2), .ref (r0 + 3), .ref (r0 + 4), .int (iI ((mA σ : Int))), .int (iI ((mB σ : Int))), .int (iI (so)), .int (iI (rn)), .ref (r0 + 5), .ref (r0 + 6), .ref (r0 + 7), .ref (r0 + 8), .ref (r0 + 9), .ref (r0 + 10), .ref (r0 + 11), .ref (r0 + 12), .ref (r0 + 13), .int (iI (co))] H → IA E (r0 + 1) 6 (fun s => (mC σ s : Int)) H → IA E (r0 + 2) 24 gU H → IA E (r0 + 3) 24 gD H → IA E (r0 + 4) 144 gW H → IA E (r0 + 6) 6 ch H → IA E (r0 + 8) 5120 f H → IA E (r0 + 9) 80 g H → IA E (r0 + 10) 80 h H → (∀ c, c < 80 → Num f g h c (vs c)) → IA E (r0 + 11) 30 prm H → IA E (r0 + 12) 30 ow H → IA E (r0 + 13) 30 tg H → va_S (fun q => q = r0 + 6 ∨ (r0 + 8 ≤ q ∧ q ≤ r0 + 10) ∨ q = r0 + 12 ∨ q = r0 + 13) s.heap H locs → lv_has ls 6 [(0, .ref (r0)), (1, .int (iI ((n0 : Int)))), (2, .int (iI ((k : Int)))), (3, .int (iI ((n : Int))))] → W p l e ({ frames := 5, cells := 0, slots := 0, locals := 127 } : Room) s m args below meth c H locs (0) (0) (MQ below (pw_Q rvV (fun _ H => ∃ ch ow tg vs, IA E (r0 + 6) 6 ch H ∧ BN E r0 vs H ∧ IA E (r0 + 12) 30 ow H ∧ IA E (r0 + 13) 30 tg H ∧ GS σ n0 (fun t => vs (55 + t)) (vs 67) ∧ (∀ t, t < mN σ → (vs (55 + t)).natAbs ≤ mG n0) ∧ (vs 67).natAbs ≤ mG n0 ∧ ∀ q, 68 ≤ q → vs q = vs0 q) (fun q => q = r0 + 6 ∨ (r0 + 8 ≤ q ∧ q ≤ r0 + 10) ∨ q = r0 + 12 ∨ q = r0 + 13)) args s (0) (0) (fun q => q = r0 + 6 ∨ (r0 + 8 ≤ q ∧ q ≤ r0 + 10) ∨ q = r0 + 12 ∨ q = r0 + 13)) (F0 m 194 ls []) := by
        intro mm
        induction mm with
        | zero =>
          intro n ch ow tg vs f g h H locs ls hn hch h61 h55 h67 htg hv8 hO hC hU hDn hW hCh hf hg hh hN hP hOw hTg hS hl
          have en : n = mN σ := by omega
          subst en
          have hbl : (v1 67 * (mB σ : Int)).natAbs < 268435456 ^ 64 := by omega
          refine lv_iload_n hx hb dX10_go_194 rfl (lv_at hl 3 rfl) ?_
          refine lv_aload_n hx hb dX10_go_195 rfl (lv_at hl 0 rfl) ?_
          refine pw_get (C := RX10) (T := TX10) (N := 20) hx hb hts hin10 hown hK hO rfl 1 (by decide) lk_103 rfl rfl dX10_go_196 ?_
          refine pw_icmp_ge (tgt := 296) hx hb dX10_go_199 (by decide) (fun c_199 => ?_) (fun c_199 => absurd c_199 (by omega))
          refine lv_aload_n hx hb dX10_go_296 rfl (lv_at hl 0 rfl) ?_
          refine pw_bipush hx hb dX10_go_297 ?_
          refine lv_aload_n hx hb dX10_go_299 rfl (lv_at hl 0 rfl) ?_
          refine pw_get (C := RX10) (T := TX10) (N := 20) hx hb hts hin10 hown hK hO rfl 7 (by decide) lk_26 rfl rfl dX10_go_300 ?_
          refine pw_callVv (As := [.int (iI (67)), .int (iI ((mB σ : Int)))]) (rest := []) ⟨hx, hb, hml, hown, hts⟩ (r_times l D E r0 (oV th σ so rn co) f g h 67 (v1 67) (mB σ : Int) (by omega) (by omega) (by omega) (num_at (hN (67) (by omega)) h67) hbl) (cwV 2 hts gX10_go_X10_times rfl rfl rfl (by decide +kernel) ⟨Nat.le_of_ble_eq_true rfl, Nat.le_of_ble_eq_true rfl⟩) hK hO rfl ⟨hO, hf, hg, hh⟩ rfl hl.1 rfl (Nat.le_of_ble_eq_true rfl) dX10_go_303 ⟨Nat.zero_le _, Nat.zero_le _⟩ hS (fun q h => by (try dsimp only at h); (try dsimp only); omega) (fun H1 locs1 ⟨f, g, h, ⟨hf, hg, hh⟩, hn1, ho1⟩ hz1 hk1 hS => ?_)
          have hO := hO.k (hk1 _ hO.lt (by (try dsimp only); omega))
          have hC := hC.k (hk1 _ hC.lt (by (try dsimp only); omega))
          have hU := hU.k (hk1 _ hU.lt (by (try dsimp only); omega))
          have hDn := hDn.k (hk1 _ hDn.lt (by (try dsimp only); omega))
          have hW := hW.k (hk1 _ hW.lt (by (try dsimp only); omega))
          have hCh := hCh.k (hk1 _ hCh.lt (by (try dsimp only); omega))
          have hP := hP.k (hk1 _ hP.lt (by (try dsimp only); omega))
          have hOw := hOw.k (hk1 _ hOw.lt (by (try dsimp only); omega))
          have hTg := hTg.k (hk1 _ hTg.lt (by (try dsimp only); omega))
          obtain ⟨vs, hva0, hvo, hN⟩ := bn_np hN hn1 ho1
          clear hn1 ho1
          have h55 : ∀ q, q < mN σ → vs (55 + q) = gnum σ (4 * q + spk σ (fun t => v1 (55 + t)) (v1 67) q) (fun t => v1 (55 + t)) (v1 67) * ((rsx (dd σ (fun t => v1 (55 + t)) (v1 67)) (mN σ) q : Nat) : Int) := fun q hq => (hvo _ (by omega)).trans (h55 q hq)
          have hv8 : ∀ q, 68 ≤ q → vs (q) = vs0 q := fun q hq => (hvo _ (by omega)).trans (hv8 q hq)
          have h67 : vs (67) = (v1 67 * (mB σ : Int)) := hva0
          clear hva0 hvo
          refine pw_iconst hx hb dX10_go_306 ?_
          refine pw_asi (((0 : Nat) : Int)) rfl ?_
          refine lv_istore_n (lv' := [(3, .int (iI (((0 : Nat) : Int)))), (0, .ref (r0)), (1, .int (iI ((n0 : Int)))), (2, .int (iI ((k : Int))))]) hx hb dX10_go_307 rfl hl (by decide) rfl (fun ls hl => ?_)
          exact loop8 30 0 ch ow tg vs f g h _ _ _ (by omega) (by rw [h67]; exact (Int.mul_one _).symm) h55 htg hv8 hO hC hU hDn hW hCh hf hg hh hN hP hOw hTg hS (lv_sub hl [1, 2, 3, 0] rfl)
        | succ mm ih2 =>
          intro n ch ow tg vs f g h H locs ls hn
          have hsl := spk_lt (v := (fun t => v1 (55 + t))) (b := (v1 67)) hrd (show n < mN σ by omega)
          have hc4 := hC4 n (by omega)
          have hmn := hm n (spk σ (fun t => v1 (55 + t)) (v1 67) n) (by omega) hsl
          obtain ⟨u1, u2, d1, d2, ww⟩ := hok.2.2.1 (4 * n + (spk σ (fun t => v1 (55 + t)) (v1 67) n)) (by omega)
          have hTb := mT_b hok (show 4 * n + (spk σ (fun t => v1 (55 + t)) (v1 67) n) < 24 by omega)
          have hgn := hgb n (by omega)
          have hrn := hRb n (by omega)
          have loop7 : ∀ (ii j : Nat) (ch ow tg vs f g h : Nat → Int) (H : Heap) (locs : List Loc) (ls : Array Slot), j + ii = 30 → (∀ q, q < mN σ → ch q = ((spk σ (fun t => v1 (55 + t)) (v1 67) q) : Int)) → (∀ q, n + 1 ≤ q ∧ q < mN σ → vs (61 + q) = gnum σ (4 * q + spk σ (fun t => v1 (55 + t)) (v1 67) q) (fun t => v1 (55 + t)) (v1 67)) → (∀ q, q < n → vs (55 + q) = gnum σ (4 * q + spk σ (fun t => v1 (55 + t)) (v1 67) q) (fun t => v1 (55 + t)) (v1 67) * ((rsx (dd σ (fun t => v1 (55 + t)) (v1 67)) (mN σ) q : Nat) : Int)) → vs (55 + n) = gnum σ (4 * n + spk σ (fun t => v1 (55 + t)) (v1 67) n) (fun t => v1 (55 + t)) (v1 67) * ((PP (fun q => (tgm (dd σ (fun t => v1 (55 + t)) (v1 67)) (mN σ)) q - (ex ((dd σ (fun t => v1 (55 + t)) (v1 67)) n)) q) j : Nat) : Int) → vs (67) = v1 67 → (∀ q, q < 30 → tg q = ((tgm (dd σ (fun t => v1 (55 + t)) (v1 67)) (mN σ)) q : Int)) → (∀ q, q < 30 → ow q = ((ex ((dd σ (fun t => v1 (55 + t)) (v1 67)) n)) q : Int)) → (∀ q, 68 ≤ q → vs (q) = vs0 q) → OA D r0 10 [.int (iI (th)), .int (iI ((mN σ : Int))), .ref (r0 + 1), .ref (r0 + 2), .ref (r0 + 3), .ref (r0 + 4), .int (iI ((mA σ : Int))), .int (iI ((mB σ : Int))), .int (iI (so)), .int (iI (rn)), .ref (r0 + 5), .ref (r0 + 6), .ref (r0 + 7), .ref (r0 + 8), .ref (r0 + 9), .ref (r0 + 10), .ref (r0 + 11), .ref (r0 + 12), .ref (r0 + 13), .int (iI (co))] H → IA E (r0 + 1) 6 (fun s => (mC σ s : Int)) H → IA E (r0 + 2) 24 gU H → IA E (r0 + 3) 24 gD H → IA E (r0 + 4) 144 gW H → IA E (r0 + 6) 6 ch H → IA E (r0 + 8) 5120 f H → IA E (r0 + 9) 80 g H → IA E (r0 + 10) 80 h H → (∀ c, c < 80 → Num f g h c (vs c)) → IA E (r0 + 11) 30 prm H → IA E (r0 + 12) 30 ow H → IA E (r0 + 13) 30 tg H → va_S (fun q => q = r0 + 6 ∨ (r0 + 8 ≤ q ∧ q ≤ r0 + 10) ∨ q = r0 + 12 ∨ q = r0 + 13) s.heap H locs → lv_has ls 6 [(0, .ref (r0)), (1, .int (iI ((n0 : Int)))), (2, .int (iI ((k : Int)))), (3, .int (iI ((n : Int)))), (4, .int (iI (((4 * n + (spk σ (fun t => v1 (55 + t)) (v1 67) n) : Nat) : Int)))), (5, .int (iI ((j : Int))))] → W p l e ({ frames := 5, cells := 0, slots := 0, locals := 127 } : Room) s m args below meth c H locs (0) (0) (MQ below (pw_Q rvV (fun _ H => ∃ ch ow tg vs, IA E (r0 + 6) 6 ch H ∧ BN E r0 vs H ∧ IA E (r0 + 12) 30 ow H ∧ IA E (r0 + 13) 30 tg H ∧ GS σ n0 (fun t => vs (55 + t)) (vs 67) ∧ (∀ t, t < mN σ → (vs (55 + t)).natAbs ≤ mG n0) ∧ (vs 67).natAbs ≤ mG n0 ∧ ∀ q, 68 ≤ q → vs q = vs0 q) (fun q => q = r0 + 6 ∨ (r0 + 8 ≤ q ∧ q ≤ r0 + 10) ∨ q = r0 + 12 ∨ q = r0 + 13)) args s (0) (0) (fun q => q = r0 + 6 ∨ (r0 + 8 ≤ q ∧ q ≤ r0 + 10) ∨ q = r0 + 12 ∨ q = r0 + 13)) (F0 m 247 ls []) := by
            intro ii
            induction ii with
            | zero =>
              intro j ch ow tg vs f g h H locs ls hj hch h61 h55 hcu h67 htg how hv8 hO hC hU hDn hW hCh hf hg hh hN hP hOw hTg hS hl
              have ej : j = 30 := by omega
              subst ej
              refine lv_iload hx hb dX10_go_247 (lv_at hl 5 rfl) ?_
              refine pw_bipush hx hb dX10_go_249 ?_
              refine pw_icmp_ge (tgt := 290) hx hb dX10_go_251 (by decide) (fun c_251 => ?_) (fun c_251 => absurd c_251 (by omega))
              refine lv_iinc (v := iI (((n + 1 : Nat) : Int))) (lv' := [(3, .int (iI (((n + 1 : Nat) : Int)))), (0, .ref (r0)), (1, .int (iI ((n0 : Int)))), (2, .int (iI ((k : Int)))), (4, .int (iI (((4 * n + (spk σ (fun t => v1 (55 + t)) (v1 67) n) : Nat) : Int)))), (5, .int (iI (((30 : Nat) : Int))))]) hx hb dX10_go_290 hl (k := 3) rfl (by show iI _ + iI _ = _; exact (iI_add _ _).trans (by first | rfl | (congr 1; omega))) (by decide) rfl (fun ls hl => ?_)
              refine lv_goto (tgt := 194) hx hb dX10_go_293 (by decide) ?_
              exact ih2 (n + 1) ch ow tg vs f g h _ _ _ (by omega) hch h61 (fun q hq => by
                by_cases e : q = n
                · rw [e]; exact hcu
                · exact h55 q (by omega)) h67 htg hv8 hO hC hU hDn hW hCh hf hg hh hN hP hOw hTg hS (lv_sub hl [1, 2, 3, 0] rfl)
            | succ ii ih3 =>
              intro j ch ow tg vs f g h H locs ls hj hch h61 h55 hcu h67 htg how hv8 hO hC hU hDn hW hCh hf hg hh hN hP hOw hTg hS hl
              have hpr := pr_b j (by omega)
              have htl := tgm_le (dd σ (fun t => v1 (55 + t)) (v1 67)) j (mN σ)
              have hge := tgm_ge (d := (dd σ (fun t => v1 (55 + t)) (v1 67))) (j := j) (show n < mN σ by omega)
              have hpj : PP (fun q => (tgm (dd σ (fun t => v1 (55 + t)) (v1 67)) (mN σ)) q - (ex ((dd σ (fun t => v1 (55 + t)) (v1 67)) n)) q) (j + 1) = PP (fun q => (tgm (dd σ (fun t => v1 (55 + t)) (v1 67)) (mN σ)) q - (ex ((dd σ (fun t => v1 (55 + t)) (v1 67)) n)) q) j * pr j ^ ((tgm (dd σ (fun t => v1 (55 + t)) (v1 67)) (mN σ)) j - (ex ((dd σ (fun t => v1 (55 + t)) (v1 67)) n)) j) := rfl
              have hpb : PP (fun q => (tgm (dd σ (fun t => v1 (55 + t)) (v1 67)) (mN σ)) q - (ex ((dd σ (fun t => v1 (55 + t)) (v1 67)) n)) q) (j + 1) ≤ 2400 ^ 6 := Nat.le_trans (PP_up (e := (fun q => (tgm (dd σ (fun t => v1 (55 + t)) (v1 67)) (mN σ)) q - (ex ((dd σ (fun t => v1 (55 + t)) (v1 67)) n)) q)) (show j + 1 ≤ 30 by omega) (Nat.le_refl _)) hrn
              have hrb : (vs (55 + n)).natAbs * pr j ^ ((tgm (dd σ (fun t => v1 (55 + t)) (v1 67)) (mN σ)) j - (ex ((dd σ (fun t => v1 (55 + t)) (v1 67)) n)) j) < 268435456 ^ 64 := by
                rw [hcu, Int.natAbs_mul, Int.natAbs_natCast, Nat.mul_assoc, ← hpj]
                have h1 := Nat.mul_le_mul hgn hpb
                have h2 : 2448000 * mG k * 2400 ^ 6 = mG (k + 1) := by rw [hms, Nat.mul_comm 2448000, Nat.mul_assoc]
                omega
              refine lv_iload hx hb dX10_go_247 (lv_at hl 5 rfl) ?_
              refine pw_bipush hx hb dX10_go_249 ?_
              refine pw_icmp_ge (tgt := 290) hx hb dX10_go_251 (by decide) (fun c_251 => absurd c_251 (by omega)) (fun c_251 => ?_)
              refine lv_aload_n hx hb dX10_go_254 rfl (lv_at hl 0 rfl) ?_
              refine pw_bipush hx hb dX10_go_255 ?_
              refine lv_iload_n hx hb dX10_go_257 rfl (lv_at hl 3 rfl) ?_
              refine pw_iadd hx hb dX10_go_258 ?_
              refine pw_asi (((55 + n : Nat) : Int)) (by omega) ?_
              refine lv_aload_n hx hb dX10_go_259 rfl (lv_at hl 0 rfl) ?_
              refine pw_get (C := RX10) (T := TX10) (N := 20) hx hb hts hin10 hown hK hO rfl 16 (by decide) lk_47 rfl rfl dX10_go_260 ?_
              refine lv_iload hx hb dX10_go_263 (lv_at hl 5 rfl) ?_
              refine pw_iald hx hb hK hP (j) rfl (by omega) (by omega) dX10_go_265 ?_
              refine pw_asi ((pr j : Int)) (prm_pr j (by omega)) ?_
              refine lv_aload_n hx hb dX10_go_266 rfl (lv_at hl 0 rfl) ?_
              refine pw_get (C := RX10) (T := TX10) (N := 20) hx hb hts hin10 hown hK hO rfl 18 (by decide) lk_53 rfl rfl dX10_go_267 ?_
              refine lv_iload hx hb dX10_go_270 (lv_at hl 5 rfl) ?_
              refine pw_iald hx hb hK hTg (j) rfl (by omega) (by omega) dX10_go_272 ?_
              refine pw_asi (((tgm (dd σ (fun t => v1 (55 + t)) (v1 67)) (mN σ)) j : Int)) (htg j (by omega)) ?_
              refine lv_aload_n hx hb dX10_go_273 rfl (lv_at hl 0 rfl) ?_
              refine pw_get (C := RX10) (T := TX10) (N := 20) hx hb hts hin10 hown hK hO rfl 17 (by decide) lk_50 rfl rfl dX10_go_274 ?_
              refine lv_iload hx hb dX10_go_277 (lv_at hl 5 rfl) ?_
              refine pw_iald hx hb hK hOw (j) rfl (by omega) (by omega) dX10_go_279 ?_
              refine pw_asi (((ex ((dd σ (fun t => v1 (55 + t)) (v1 67)) n)) j : Int)) (how j (by omega)) ?_
              refine pw_isub hx hb dX10_go_280 ?_
              refine pw_asi ((((tgm (dd σ (fun t => v1 (55 + t)) (v1 67)) (mN σ)) j - (ex ((dd σ (fun t => v1 (55 + t)) (v1 67)) n)) j : Nat) : Int)) (by omega) ?_
              refine pw_callVv (As := [.int (iI (((55 + n : Nat) : Int))), .int (iI ((pr j : Int))), .int (iI ((((tgm (dd σ (fun t => v1 (55 + t)) (v1 67)) (mN σ)) j - (ex ((dd σ (fun t => v1 (55 + t)) (v1 67)) n)) j : Nat) : Int)))]) (rest := []) ⟨hx, hb, hml, hown, hts⟩ (r_raise l D E r0 (oV th σ so rn co) vs (55 + n) (pr j) ((tgm (dd σ (fun t => v1 (55 + t)) (v1 67)) (mN σ)) j - (ex ((dd σ (fun t => v1 (55 + t)) (v1 67)) n)) j) (by omega) (by omega) (by omega) (by omega) hrb) (cwV 3 hts gX10_go_X10_raise rfl rfl rfl (by decide +kernel) ⟨Nat.le_of_ble_eq_true rfl, Nat.le_of_ble_eq_true rfl⟩) hK hO rfl ⟨hO, f, g, h, ⟨hf, hg, hh⟩, hN⟩ rfl hl.1 rfl (Nat.le_of_ble_eq_true rfl) dX10_go_281 ⟨Nat.zero_le _, Nat.zero_le _⟩ hS (fun q h => by (try dsimp only at h); (try dsimp only); omega) (fun H1 locs1 ⟨vs1, ⟨f, g, h, ⟨hf, hg, hh⟩, hN⟩, hnew, hvo⟩ hz1 hk1 hS => ?_)
              have hO := hO.k (hk1 _ hO.lt (by (try dsimp only); omega))
              have hC := hC.k (hk1 _ hC.lt (by (try dsimp only); omega))
              have hU := hU.k (hk1 _ hU.lt (by (try dsimp only); omega))
              have hDn := hDn.k (hk1 _ hDn.lt (by (try dsimp only); omega))
              have hW := hW.k (hk1 _ hW.lt (by (try dsimp only); omega))
              have hCh := hCh.k (hk1 _ hCh.lt (by (try dsimp only); omega))
              have hP := hP.k (hk1 _ hP.lt (by (try dsimp only); omega))
              have hOw := hOw.k (hk1 _ hOw.lt (by (try dsimp only); omega))
              have hTg := hTg.k (hk1 _ hTg.lt (by (try dsimp only); omega))
              have hcu : vs1 (55 + n) = gnum σ (4 * n + spk σ (fun t => v1 (55 + t)) (v1 67) n) (fun t => v1 (55 + t)) (v1 67) * ((PP (fun q => (tgm (dd σ (fun t => v1 (55 + t)) (v1 67)) (mN σ)) q - (ex ((dd σ (fun t => v1 (55 + t)) (v1 67)) n)) q) (j + 1) : Nat) : Int) := by rw [hnew, hcu, hpj, Int.natCast_mul, Int.mul_assoc]
              have h55 : ∀ q, q < n → vs1 (55 + q) = gnum σ (4 * q + spk σ (fun t => v1 (55 + t)) (v1 67) q) (fun t => v1 (55 + t)) (v1 67) * ((rsx (dd σ (fun t => v1 (55 + t)) (v1 67)) (mN σ) q : Nat) : Int) := fun q hq => (hvo _ (by omega)).trans (h55 q hq)
              have h61 : ∀ q, n + 1 ≤ q ∧ q < mN σ → vs1 (61 + q) = gnum σ (4 * q + spk σ (fun t => v1 (55 + t)) (v1 67) q) (fun t => v1 (55 + t)) (v1 67) := fun q hq => (hvo _ (by omega)).trans (h61 q hq)
              have h67 : vs1 (67) = v1 67 := (hvo _ (by omega)).trans h67
              have hv8 : ∀ q, 68 ≤ q → vs1 (q) = vs0 q := fun q hq => (hvo _ (by omega)).trans (hv8 q hq)
              refine lv_iinc (v := iI (((j + 1 : Nat) : Int))) (lv' := [(5, .int (iI (((j + 1 : Nat) : Int)))), (0, .ref (r0)), (1, .int (iI ((n0 : Int)))), (2, .int (iI ((k : Int)))), (3, .int (iI ((n : Int)))), (4, .int (iI (((4 * n + (spk σ (fun t => v1 (55 + t)) (v1 67) n) : Nat) : Int))))]) hx hb dX10_go_284 hl (k := 5) rfl (by show iI _ + iI _ = _; exact (iI_add _ _).trans (by first | rfl | (congr 1; omega))) (by decide) rfl (fun ls hl => ?_)
              refine lv_goto (tgt := 247) hx hb dX10_go_287 (by decide) ?_
              exact ih3 (j + 1) ch ow tg vs1 f g h _ _ _ (by omega) hch h61 h55 hcu h67 htg how hv8 hO hC hU hDn hW hCh hf hg hh hN hP hOw hTg hS (lv_sub hl [1, 2, 3, 4, 5, 0] rfl)
          intro hch h61 h55 h67 htg hv8 hO hC hU hDn hW hCh hf hg hh hN hP hOw hTg hS hl
          have h61n := h61 n ⟨Nat.le_refl n, by omega⟩
          refine lv_iload_n hx hb dX10_go_194 rfl (lv_at hl 3 rfl) ?_
          refine lv_aload_n hx hb dX10_go_195 rfl (lv_at hl 0 rfl) ?_
          refine pw_get (C := RX10) (T := TX10) (N := 20) hx hb hts hin10 hown hK hO rfl 1 (by decide) lk_103 rfl rfl dX10_go_196 ?_
          refine pw_icmp_ge (tgt := 296) hx hb dX10_go_199 (by decide) (fun c_199 => absurd c_199 (by omega)) (fun c_199 => ?_)
          refine pw_iconst hx hb dX10_go_202 ?_
          refine lv_iload_n hx hb dX10_go_203 rfl (lv_at hl 3 rfl) ?_
          refine pw_imul hx hb dX10_go_204 ?_
          refine lv_aload_n hx hb dX10_go_205 rfl (lv_at hl 0 rfl) ?_
          refine pw_get (C := RX10) (T := TX10) (N := 20) hx hb hts hin10 hown hK hO rfl 11 (by decide) lk_32 rfl rfl dX10_go_206 ?_
          refine lv_iload_n hx hb dX10_go_209 rfl (lv_at hl 3 rfl) ?_
          refine pw_iald hx hb hK hCh (n) rfl (by omega) (by omega) dX10_go_210 ?_
          refine pw_asi (((spk σ (fun t => v1 (55 + t)) (v1 67) n) : Int)) (hch n (by omega)) ?_
          refine pw_iadd hx hb dX10_go_211 ?_
          refine pw_asi (((4 * n + (spk σ (fun t => v1 (55 + t)) (v1 67) n)) : Int)) (by omega) ?_
          refine lv_istore (lv' := [(4, .int (iI (((4 * n + (spk σ (fun t => v1 (55 + t)) (v1 67) n)) : Int)))), (0, .ref (r0)), (1, .int (iI ((n0 : Int)))), (2, .int (iI ((k : Int)))), (3, .int (iI ((n : Int))))]) hx hb dX10_go_212 hl (by decide) rfl (fun ls hl => ?_)
          refine lv_aload_n hx hb dX10_go_214 rfl (lv_at hl 1 rfl) ?_
          refine lv_aload_n hx hb dX10_go_215 rfl (lv_at hl 1 rfl) ?_
          refine pw_get (C := RX10) (T := TX10) (N := 20) hx hb hts hin10 hown hK hO rfl 4 (by decide) lk_16 rfl rfl dX10_go_216 ?_
          refine lv_iload hx hb dX10_go_219 (lv_at hl 0 rfl) ?_
          refine pw_iald hx hb hK hDn ((4 * n + (spk σ (fun t => v1 (55 + t)) (v1 67) n))) rfl (by omega) (by omega) dX10_go_221 ?_
          refine pw_asi ((mD σ (4 * n + (spk σ (fun t => v1 (55 + t)) (v1 67) n)) : Int)) hmn.2.1 ?_
          refine lv_aload_n hx hb dX10_go_222 rfl (lv_at hl 1 rfl) ?_
          refine lv_iload hx hb dX10_go_223 (lv_at hl 0 rfl) ?_
          refine pw_callVi (As := [.int (iI (((4 * n + (spk σ (fun t => v1 (55 + t)) (v1 67) n)) : Int)))]) (rest := [.int (iI ((mD σ (4 * n + (spk σ (fun t => v1 (55 + t)) (v1 67) n)) : Int))), .ref (r0)]) ⟨hx, hb, hml, hown, hts⟩ (r_sumOf l D E r0 σ th so rn co (4 * n + (spk σ (fun t => v1 (55 + t)) (v1 67) n)) gW (by omega) hmn.2.2 hok) (cwV 1 hts gX10_go_X10_sumOf rfl rfl rfl (by decide +kernel) ⟨Nat.le_of_ble_eq_true rfl, Nat.le_of_ble_eq_true rfl⟩) hK hO rfl ⟨hO, hW⟩ rfl hl.1 rfl (Nat.le_of_ble_eq_true rfl) dX10_go_225 ⟨Nat.zero_le _, Nat.zero_le _⟩ hS (fun q h => h.elim) (fun zs H1 locs1 hzs hz1 hk1 hS => ?_)
          have hO := hO.k (hk1 _ hO.lt (fun h => h))
          have hC := hC.k (hk1 _ hC.lt (fun h => h))
          have hU := hU.k (hk1 _ hU.lt (fun h => h))
          have hDn := hDn.k (hk1 _ hDn.lt (fun h => h))
          have hW := hW.k (hk1 _ hW.lt (fun h => h))
          have hCh := hCh.k (hk1 _ hCh.lt (fun h => h))
          have hP := hP.k (hk1 _ hP.lt (fun h => h))
          have hOw := hOw.k (hk1 _ hOw.lt (fun h => h))
          have hTg := hTg.k (hk1 _ hTg.lt (fun h => h))
          have hf := hf.k (hk1 _ hf.lt (fun h => h))
          have hg := hg.k (hk1 _ hg.lt (fun h => h))
          have hh := hh.k (hk1 _ hh.lt (fun h => h))
          subst hzs
          refine pw_imul hx hb dX10_go_228 ?_
          refine pw_asi ((((dd σ (fun t => v1 (55 + t)) (v1 67)) n : Nat) : Int)) (by rw [← Int.natCast_mul]; rfl) ?_
          refine pw_callVv (As := [.int (iI ((((dd σ (fun t => v1 (55 + t)) (v1 67)) n : Nat) : Int)))]) (rest := []) ⟨hx, hb, hml, hown, hts⟩ (r_factor l D E r0 σ th so rn co ow ((dd σ (fun t => v1 (55 + t)) (v1 67)) n) (hdd n (by omega))) (cwV 1 hts gX10_go_X10_factor rfl rfl rfl (by decide +kernel) ⟨Nat.le_of_ble_eq_true rfl, Nat.le_of_ble_eq_true rfl⟩) hK hO rfl ⟨hO, hP, hOw⟩ rfl hl.1 rfl (Nat.le_of_ble_eq_true rfl) dX10_go_229 ⟨Nat.zero_le _, Nat.zero_le _⟩ hS (fun q h => by (try dsimp only at h); (try dsimp only); omega) (fun H1 locs1 ⟨ow, hOw, how⟩ hz1 hk1 hS => ?_)
          have hO := hO.k (hk1 _ hO.lt (by (try dsimp only); omega))
          have hC := hC.k (hk1 _ hC.lt (by (try dsimp only); omega))
          have hU := hU.k (hk1 _ hU.lt (by (try dsimp only); omega))
          have hDn := hDn.k (hk1 _ hDn.lt (by (try dsimp only); omega))
          have hW := hW.k (hk1 _ hW.lt (by (try dsimp only); omega))
          have hCh := hCh.k (hk1 _ hCh.lt (by (try dsimp only); omega))
          have hP := hP.k (hk1 _ hP.lt (by (try dsimp only); omega))
          have hTg := hTg.k (hk1 _ hTg.lt (by (try dsimp only); omega))
          have hf := hf.k (hk1 _ hf.lt (by (try dsimp only); omega))
          have hg := hg.k (hk1 _ hg.lt (by (try dsimp only); omega))
          have hh := hh.k (hk1 _ hh.lt (by (try dsimp only); omega))
          refine lv_aload_n hx hb dX10_go_232 rfl (lv_at hl 1 rfl) ?_
          refine pw_bipush hx hb dX10_go_233 ?_
          refine lv_iload_n hx hb dX10_go_235 rfl (lv_at hl 4 rfl) ?_
          refine pw_iadd hx hb dX10_go_236 ?_
          refine pw_asi (((61 + n : Nat) : Int)) (by omega) ?_
          refine pw_bipush hx hb dX10_go_237 ?_
          refine lv_iload_n hx hb dX10_go_239 rfl (lv_at hl 4 rfl) ?_
          refine pw_iadd hx hb dX10_go_240 ?_
          refine pw_asi (((55 + n : Nat) : Int)) (by omega) ?_
          refine pw_callVv (As := [.int (iI (((61 + n : Nat) : Int))), .int (iI (((55 + n : Nat) : Int)))]) (rest := []) ⟨hx, hb, hml, hown, hts⟩ (r_copy l D E r0 (oV th σ so rn co) f g h (61 + n) (55 + n) (gnum σ (4 * n + spk σ (fun t => v1 (55 + t)) (v1 67) n) (fun t => v1 (55 + t)) (v1 67)) (by omega) (by omega) (by omega) (num_at (hN (61 + n) (by omega)) h61n)) (cwV 2 hts gX10_go_X10_copy rfl rfl rfl (by decide +kernel) ⟨Nat.le_of_ble_eq_true rfl, Nat.le_of_ble_eq_true rfl⟩) hK hO rfl ⟨hO, hf, hg, hh⟩ rfl hl.1 rfl (Nat.le_of_ble_eq_true rfl) dX10_go_241 ⟨Nat.zero_le _, Nat.zero_le _⟩ hS (fun q h => by (try dsimp only at h); (try dsimp only); omega) (fun H1 locs1 ⟨f, g, h, ⟨hf, hg, hh⟩, hn1, ho1⟩ hz1 hk1 hS => ?_)
          have hO := hO.k (hk1 _ hO.lt (by (try dsimp only); omega))
          have hC := hC.k (hk1 _ hC.lt (by (try dsimp only); omega))
          have hU := hU.k (hk1 _ hU.lt (by (try dsimp only); omega))
          have hDn := hDn.k (hk1 _ hDn.lt (by (try dsimp only); omega))
          have hW := hW.k (hk1 _ hW.lt (by (try dsimp only); omega))
          have hCh := hCh.k (hk1 _ hCh.lt (by (try dsimp only); omega))
          have hP := hP.k (hk1 _ hP.lt (by (try dsimp only); omega))
          have hOw := hOw.k (hk1 _ hOw.lt (by (try dsimp only); omega))
          have hTg := hTg.k (hk1 _ hTg.lt (by (try dsimp only); omega))
          obtain ⟨vs, hva0, hvo, hN⟩ := bn_np hN hn1 ho1
          clear hn1 ho1
          have h61 : ∀ q, n ≤ q ∧ q < mN σ → vs (61 + q) = gnum σ (4 * q + spk σ (fun t => v1 (55 + t)) (v1 67) q) (fun t => v1 (55 + t)) (v1 67) := fun q hq => (hvo _ (by omega)).trans (h61 q hq)
          have h55 : ∀ q, q < n → vs (55 + q) = gnum σ (4 * q + spk σ (fun t => v1 (55 + t)) (v1 67) q) (fun t => v1 (55 + t)) (v1 67) * ((rsx (dd σ (fun t => v1 (55 + t)) (v1 67)) (mN σ) q : Nat) : Int) := fun q hq => (hvo _ (by omega)).trans (h55 q hq)
          have h67 : vs (67) = v1 67 := (hvo _ (by omega)).trans h67
          have hv8 : ∀ q, 68 ≤ q → vs (q) = vs0 q := fun q hq => (hvo _ (by omega)).trans (hv8 q hq)
          have hcu : vs (55 + n) = gnum σ (4 * n + spk σ (fun t => v1 (55 + t)) (v1 67) n) (fun t => v1 (55 + t)) (v1 67) := hva0
          clear hva0 hvo
          refine pw_iconst hx hb dX10_go_244 ?_
          refine pw_asi (((0 : Nat) : Int)) rfl ?_
          refine lv_istore (lv' := [(5, .int (iI (((0 : Nat) : Int)))), (4, .int (iI (((4 * n + (spk σ (fun t => v1 (55 + t)) (v1 67) n)) : Int)))), (0, .ref (r0)), (1, .int (iI ((n0 : Int)))), (2, .int (iI ((k : Int)))), (3, .int (iI ((n : Int))))]) hx hb dX10_go_245 hl (by decide) rfl (fun ls hl => ?_)
          exact loop7 30 0 ch ow tg vs f g h _ _ _ (by omega) hch (fun q hq => h61 q ⟨by omega, hq.2⟩) h55 (by rw [hcu]; exact (Int.mul_one _).symm) h67 htg how hv8 hO hC hU hDn hW hCh hf hg hh hN hP hOw hTg hS (lv_sub hl [2, 3, 4, 5, 1, 0] rfl)
      have loop3 : ∀ (mm n : Nat) (ch ow tg vs f g h : Nat → Int) (H : Heap) (locs : List Loc) (ls : Array Slot), n + mm = mN σ → (∀ q, q < n → ch q = ((spk σ (fun t => v1 (55 + t)) (v1 67) q) : Int)) → (∀ q, q < n → vs (61 + q) = gnum σ (4 * q + spk σ (fun t => v1 (55 + t)) (v1 67) q) (fun t => v1 (55 + t)) (v1 67)) → (∀ q, q < 30 → tg q = ((tgm (dd σ (fun t => v1 (55 + t)) (v1 67)) n) q : Int)) → (∀ q, (55 ≤ q ∧ q ≤ 60) ∨ 67 ≤ q → vs (q) = v1 q) → OA D r0 10 [.int (iI (th)), .int (iI ((mN σ : Int))), .ref (r0 + 1), .ref (r0 + 2), .ref (r0 + 3), .ref (r0 + 4), .int (iI ((mA σ : Int))), .int (iI ((mB σ : Int))), .int (iI (so)), .int (iI (rn)), .ref (r0 + 5), .ref (r0 + 6), .ref (r0 + 7), .ref (r0 + 8), .ref (r0 + 9), .ref (r0 + 10), .ref (r0 + 11), .ref (r0 + 12), .ref (r0 + 13), .int (iI (co))] H → IA E (r0 + 1) 6 (fun s => (mC σ s : Int)) H → IA E (r0 + 2) 24 gU H → IA E (r0 + 3) 24 gD H → IA E (r0 + 4) 144 gW H → IA E (r0 + 6) 6 ch H → IA E (r0 + 8) 5120 f H → IA E (r0 + 9) 80 g H → IA E (r0 + 10) 80 h H → (∀ c, c < 80 → Num f g h c (vs c)) → IA E (r0 + 11) 30 prm H → IA E (r0 + 12) 30 ow H → IA E (r0 + 13) 30 tg H → va_S (fun q => q = r0 + 6 ∨ (r0 + 8 ≤ q ∧ q ≤ r0 + 10) ∨ q = r0 + 12 ∨ q = r0 + 13) s.heap H locs → lv_has ls 6 [(0, .ref (r0)), (1, .int (iI ((n0 : Int)))), (2, .int (iI ((k : Int)))), (3, .int (iI ((n : Int))))] → W p l e ({ frames := 5, cells := 0, slots := 0, locals := 127 } : Room) s m args below meth c H locs (0) (0) (MQ below (pw_Q rvV (fun _ H => ∃ ch ow tg vs, IA E (r0 + 6) 6 ch H ∧ BN E r0 vs H ∧ IA E (r0 + 12) 30 ow H ∧ IA E (r0 + 13) 30 tg H ∧ GS σ n0 (fun t => vs (55 + t)) (vs 67) ∧ (∀ t, t < mN σ → (vs (55 + t)).natAbs ≤ mG n0) ∧ (vs 67).natAbs ≤ mG n0 ∧ ∀ q, 68 ≤ q → vs q = vs0 q) (fun q => q = r0 + 6 ∨ (r0 + 8 ≤ q ∧ q ≤ r0 + 10) ∨ q = r0 + 12 ∨ q = r0 + 13)) args s (0) (0) (fun q => q = r0 + 6 ∨ (r0 + 8 ≤ q ∧ q ≤ r0 + 10) ∨ q = r0 + 12 ∨ q = r0 + 13)) (F0 m 62 ls []) := by
        intro mm
        induction mm with
        | zero =>
          intro n ch ow tg vs f g h H locs ls hn hch h61 htg hkv hO hC hU hDn hW hCh hf hg hh hN hP hOw hTg hS hl
          have en : n = mN σ := by omega
          subst en
          refine lv_iload_n hx hb dX10_go_62 rfl (lv_at hl 3 rfl) ?_
          refine lv_aload_n hx hb dX10_go_63 rfl (lv_at hl 0 rfl) ?_
          refine pw_get (C := RX10) (T := TX10) (N := 20) hx hb hts hin10 hown hK hO rfl 1 (by decide) lk_103 rfl rfl dX10_go_64 ?_
          refine pw_icmp_ge (tgt := 192) hx hb dX10_go_67 (by decide) (fun c_67 => ?_) (fun c_67 => absurd c_67 (by omega))
          refine pw_iconst hx hb dX10_go_192 ?_
          refine pw_asi (((0 : Nat) : Int)) rfl ?_
          refine lv_istore_n (lv' := [(3, .int (iI (((0 : Nat) : Int)))), (0, .ref (r0)), (1, .int (iI ((n0 : Int)))), (2, .int (iI ((k : Int))))]) hx hb dX10_go_193 rfl hl (by decide) rfl (fun ls hl => ?_)
          exact loop5 (mN σ) 0 ch ow tg vs f g h _ _ _ (by omega) hch (fun q hq => h61 q hq.2) (fun q hq => by omega) (hkv 67 (by omega)) htg (fun q hq => (hkv q (by omega)).trans (hv8 q hq)) hO hC hU hDn hW hCh hf hg hh hN hP hOw hTg hS (lv_sub hl [1, 2, 3, 0] rfl)
        | succ mm ih2 =>
          intro n ch ow tg vs f g h H locs ls hn
          have hsl := spk_lt (v := (fun t => v1 (55 + t))) (b := (v1 67)) hrd (show n < mN σ by omega)
          have hc0 := (hrd.2 n (by omega)).1
          have hc4 := hC4 n (by omega)
          have hmn := hm n (spk σ (fun t => v1 (55 + t)) (v1 67) n) (by omega) hsl
          obtain ⟨u1, u2, d1, d2, ww⟩ := hok.2.2.1 (4 * n + (spk σ (fun t => v1 (55 + t)) (v1 67) n)) (by omega)
          have hTb := mT_b hok (show (4 * n + (spk σ (fun t => v1 (55 + t)) (v1 67) n)) < 24 by omega)
          have loop4 : ∀ (ii j : Nat) (ch ow tg vs f g h : Nat → Int) (H : Heap) (locs : List Loc) (ls : Array Slot), j + ii = 30 → (∀ q, q < n + 1 → ch q = ((spk σ (fun t => v1 (55 + t)) (v1 67) q) : Int)) → (∀ q, q < n + 1 → vs (61 + q) = gnum σ (4 * q + spk σ (fun t => v1 (55 + t)) (v1 67) q) (fun t => v1 (55 + t)) (v1 67)) → (∀ q, q < j → tg q = ((tgm (dd σ (fun t => v1 (55 + t)) (v1 67)) (n + 1)) q : Int)) → (∀ q, j ≤ q ∧ q < 30 → tg q = ((tgm (dd σ (fun t => v1 (55 + t)) (v1 67)) n) q : Int)) → (∀ q, q < 30 → ow q = ((ex ((dd σ (fun t => v1 (55 + t)) (v1 67)) n)) q : Int)) → (∀ q, (55 ≤ q ∧ q ≤ 60) ∨ 67 ≤ q → vs (q) = v1 q) → OA D r0 10 [.int (iI (th)), .int (iI ((mN σ : Int))), .ref (r0 + 1), .ref (r0 + 2), .ref (r0 + 3), .ref (r0 + 4), .int (iI ((mA σ : Int))), .int (iI ((mB σ : Int))), .int (iI (so)), .int (iI (rn)), .ref (r0 + 5), .ref (r0 + 6), .ref (r0 + 7), .ref (r0 + 8), .ref (r0 + 9), .ref (r0 + 10), .ref (r0 + 11), .ref (r0 + 12), .ref (r0 + 13), .int (iI (co))] H → IA E (r0 + 1) 6 (fun s => (mC σ s : Int)) H → IA E (r0 + 2) 24 gU H → IA E (r0 + 3) 24 gD H → IA E (r0 + 4) 144 gW H → IA E (r0 + 6) 6 ch H → IA E (r0 + 8) 5120 f H → IA E (r0 + 9) 80 g H → IA E (r0 + 10) 80 h H → (∀ c, c < 80 → Num f g h c (vs c)) → IA E (r0 + 11) 30 prm H → IA E (r0 + 12) 30 ow H → IA E (r0 + 13) 30 tg H → va_S (fun q => q = r0 + 6 ∨ (r0 + 8 ≤ q ∧ q ≤ r0 + 10) ∨ q = r0 + 12 ∨ q = r0 + 13) s.heap H locs → lv_has ls 6 [(0, .ref (r0)), (1, .int (iI ((n0 : Int)))), (2, .int (iI ((k : Int)))), (3, .int (iI ((n : Int)))), (4, .int (iI (((4 * n + (spk σ (fun t => v1 (55 + t)) (v1 67) n) : Nat) : Int)))), (5, .int (iI ((j : Int))))] → W p l e ({ frames := 5, cells := 0, slots := 0, locals := 127 } : Room) s m args below meth c H locs (0) (0) (MQ below (pw_Q rvV (fun _ H => ∃ ch ow tg vs, IA E (r0 + 6) 6 ch H ∧ BN E r0 vs H ∧ IA E (r0 + 12) 30 ow H ∧ IA E (r0 + 13) 30 tg H ∧ GS σ n0 (fun t => vs (55 + t)) (vs 67) ∧ (∀ t, t < mN σ → (vs (55 + t)).natAbs ≤ mG n0) ∧ (vs 67).natAbs ≤ mG n0 ∧ ∀ q, 68 ≤ q → vs q = vs0 q) (fun q => q = r0 + 6 ∨ (r0 + 8 ≤ q ∧ q ≤ r0 + 10) ∨ q = r0 + 12 ∨ q = r0 + 13)) args s (0) (0) (fun q => q = r0 + 6 ∨ (r0 + 8 ≤ q ∧ q ≤ r0 + 10) ∨ q = r0 + 12 ∨ q = r0 + 13)) (F0 m 132 ls []) := by
            intro ii
            induction ii with
            | zero =>
              intro j ch ow tg vs f g h H locs ls hj hch h61 ht1 ht2 how hkv hO hC hU hDn hW hCh hf hg hh hN hP hOw hTg hS hl
              have ej : j = 30 := by omega
              subst ej
              refine lv_iload hx hb dX10_go_132 (lv_at hl 5 rfl) ?_
              refine pw_bipush hx hb dX10_go_134 ?_
              refine pw_icmp_ge (tgt := 186) hx hb dX10_go_136 (by decide) (fun c_136 => ?_) (fun c_136 => absurd c_136 (by omega))
              refine lv_iinc (v := iI (((n + 1 : Nat) : Int))) (lv' := [(3, .int (iI (((n + 1 : Nat) : Int)))), (0, .ref (r0)), (1, .int (iI ((n0 : Int)))), (2, .int (iI ((k : Int)))), (4, .int (iI (((4 * n + (spk σ (fun t => v1 (55 + t)) (v1 67) n) : Nat) : Int)))), (5, .int (iI (((30 : Nat) : Int))))]) hx hb dX10_go_186 hl (k := 3) rfl (by show iI _ + iI _ = _; exact (iI_add _ _).trans (by first | rfl | (congr 1; omega))) (by decide) rfl (fun ls hl => ?_)
              refine lv_goto (tgt := 62) hx hb dX10_go_189 (by decide) ?_
              exact ih2 (n + 1) ch ow tg vs f g h _ _ _ (by omega) hch h61 ht1 hkv hO hC hU hDn hW hCh hf hg hh hN hP hOw hTg hS (lv_sub hl [1, 2, 3, 0] rfl)
            | succ ii ih3 =>
              intro j ch ow tg vs f g h H locs ls hj hch h61 ht1 ht2 how hkv hO hC hU hDn hW hCh hf hg hh hN hP hOw hTg hS hl
              have htj := ht2 j ⟨Nat.le_refl j, by omega⟩
              have hoj := how j (by omega)
              have hmx : (tgm (dd σ (fun t => v1 (55 + t)) (v1 67)) (n + 1)) j = max ((tgm (dd σ (fun t => v1 (55 + t)) (v1 67)) n) j) ((ex ((dd σ (fun t => v1 (55 + t)) (v1 67)) n)) j) := rfl
              have htl := tgm_le (dd σ (fun t => v1 (55 + t)) (v1 67)) j n
              have hel := ex_le ((dd σ (fun t => v1 (55 + t)) (v1 67)) n) j
              refine lv_iload hx hb dX10_go_132 (lv_at hl 5 rfl) ?_
              refine pw_bipush hx hb dX10_go_134 ?_
              refine pw_icmp_ge (tgt := 186) hx hb dX10_go_136 (by decide) (fun c_136 => absurd c_136 (by omega)) (fun c_136 => ?_)
              refine lv_aload_n hx hb dX10_go_139 rfl (lv_at hl 0 rfl) ?_
              refine pw_get (C := RX10) (T := TX10) (N := 20) hx hb hts hin10 hown hK hO rfl 18 (by decide) lk_53 rfl rfl dX10_go_140 ?_
              refine lv_iload hx hb dX10_go_143 (lv_at hl 5 rfl) ?_
              refine lv_aload_n hx hb dX10_go_145 rfl (lv_at hl 0 rfl) ?_
              refine pw_get (C := RX10) (T := TX10) (N := 20) hx hb hts hin10 hown hK hO rfl 17 (by decide) lk_50 rfl rfl dX10_go_146 ?_
              refine lv_iload hx hb dX10_go_149 (lv_at hl 5 rfl) ?_
              refine pw_iald hx hb hK hOw (j) rfl (by omega) (by omega) dX10_go_151 ?_
              refine pw_asi (((ex ((dd σ (fun t => v1 (55 + t)) (v1 67)) n)) j : Int)) hoj ?_
              refine lv_aload_n hx hb dX10_go_152 rfl (lv_at hl 0 rfl) ?_
              refine pw_get (C := RX10) (T := TX10) (N := 20) hx hb hts hin10 hown hK hO rfl 18 (by decide) lk_53 rfl rfl dX10_go_153 ?_
              refine lv_iload hx hb dX10_go_156 (lv_at hl 5 rfl) ?_
              refine pw_iald hx hb hK hTg (j) rfl (by omega) (by omega) dX10_go_158 ?_
              refine pw_asi (((tgm (dd σ (fun t => v1 (55 + t)) (v1 67)) n) j : Int)) htj ?_
              refine pw_icmp_le (tgt := 172) hx hb dX10_go_159 (by decide) (fun c_159 => ?_) (fun c_159 => ?_)
              · refine lv_aload_n hx hb dX10_go_172 rfl (lv_at hl 0 rfl) ?_
                refine pw_get (C := RX10) (T := TX10) (N := 20) hx hb hts hin10 hown hK hO rfl 18 (by decide) lk_53 rfl rfl dX10_go_173 ?_
                refine lv_iload hx hb dX10_go_176 (lv_at hl 5 rfl) ?_
                refine pw_iald hx hb hK hTg (j) rfl (by omega) (by omega) dX10_go_178 ?_
                refine pw_asi (((tgm (dd σ (fun t => v1 (55 + t)) (v1 67)) (n + 1)) j : Int)) (by rw [htj]; omega) ?_
                refine pw_iast hx hb hK hTg hS (by (try dsimp only); omega) (j) rfl (by omega) (by omega) dX10_go_179 (fun H1 locs1 hnew hz1 oq hS => ?_)
                have hO := hO.k (oq _ (by omega))
                have hC := hC.k (oq _ (by omega))
                have hU := hU.k (oq _ (by omega))
                have hDn := hDn.k (oq _ (by omega))
                have hW := hW.k (oq _ (by omega))
                have hCh := hCh.k (oq _ (by omega))
                have hP := hP.k (oq _ (by omega))
                have hOw := hOw.k (oq _ (by omega))
                have hf := hf.k (oq _ (by omega))
                have hg := hg.k (oq _ (by omega))
                have hh := hh.k (oq _ (by omega))
                have hTg := hnew
                clear hnew oq hz1
                refine lv_iinc (v := iI (((j + 1 : Nat) : Int))) (lv' := [(5, .int (iI (((j + 1 : Nat) : Int)))), (0, .ref (r0)), (1, .int (iI ((n0 : Int)))), (2, .int (iI ((k : Int)))), (3, .int (iI ((n : Int)))), (4, .int (iI (((4 * n + (spk σ (fun t => v1 (55 + t)) (v1 67) n) : Nat) : Int))))]) hx hb dX10_go_180 hl (k := 5) rfl (by show iI _ + iI _ = _; exact (iI_add _ _).trans (by first | rfl | (congr 1; omega))) (by decide) rfl (fun ls hl => ?_)
                refine lv_goto (tgt := 132) hx hb dX10_go_183 (by decide) ?_
                exact ih3 (j + 1) ch ow _ vs f g h _ _ _ (by omega) hch h61 (fun q hq => by
                  unfold ud
                  by_cases e : q = j
                  · subst e; rw [if_pos rfl]
                  · rw [if_neg e]; exact ht1 q (by omega)) (fun q hq => by
                  unfold ud
                  rw [if_neg (by omega)]
                  exact ht2 q ⟨by omega, hq.2⟩) how hkv hO hC hU hDn hW hCh hf hg hh hN hP hOw hTg hS (lv_sub hl [1, 2, 3, 4, 5, 0] rfl)
              · refine lv_aload_n hx hb dX10_go_162 rfl (lv_at hl 0 rfl) ?_
                refine pw_get (C := RX10) (T := TX10) (N := 20) hx hb hts hin10 hown hK hO rfl 17 (by decide) lk_50 rfl rfl dX10_go_163 ?_
                refine lv_iload hx hb dX10_go_166 (lv_at hl 5 rfl) ?_
                refine pw_iald hx hb hK hOw (j) rfl (by omega) (by omega) dX10_go_168 ?_
                refine pw_asi (((tgm (dd σ (fun t => v1 (55 + t)) (v1 67)) (n + 1)) j : Int)) (by rw [hoj]; omega) ?_
                refine lv_goto (tgt := 179) hx hb dX10_go_169 (by decide) ?_
                refine pw_iast hx hb hK hTg hS (by (try dsimp only); omega) (j) rfl (by omega) (by omega) dX10_go_179 (fun H1 locs1 hnew hz1 oq hS => ?_)
                have hO := hO.k (oq _ (by omega))
                have hC := hC.k (oq _ (by omega))
                have hU := hU.k (oq _ (by omega))
                have hDn := hDn.k (oq _ (by omega))
                have hW := hW.k (oq _ (by omega))
                have hCh := hCh.k (oq _ (by omega))
                have hP := hP.k (oq _ (by omega))
                have hOw := hOw.k (oq _ (by omega))
                have hf := hf.k (oq _ (by omega))
                have hg := hg.k (oq _ (by omega))
                have hh := hh.k (oq _ (by omega))
                have hTg := hnew
                clear hnew oq hz1
                refine lv_iinc (v := iI (((j + 1 : Nat) : Int))) (lv' := [(5, .int (iI (((j + 1 : Nat) : Int)))), (0, .ref (r0)), (1, .int (iI ((n0 : Int)))), (2, .int (iI ((k : Int)))), (3, .int (iI ((n : Int)))), (4, .int (iI (((4 * n + (spk σ (fun t => v1 (55 + t)) (v1 67) n) : Nat) : Int))))]) hx hb dX10_go_180 hl (k := 5) rfl (by show iI _ + iI _ = _; exact (iI_add _ _).trans (by first | rfl | (congr 1; omega))) (by decide) rfl (fun ls hl => ?_)
                refine lv_goto (tgt := 132) hx hb dX10_go_183 (by decide) ?_
                exact ih3 (j + 1) ch ow _ vs f g h _ _ _ (by omega) hch h61 (fun q hq => by
                  unfold ud
                  by_cases e : q = j
                  · subst e; rw [if_pos rfl]
                  · rw [if_neg e]; exact ht1 q (by omega)) (fun q hq => by
                  unfold ud
                  rw [if_neg (by omega)]
                  exact ht2 q ⟨by omega, hq.2⟩) how hkv hO hC hU hDn hW hCh hf hg hh hN hP hOw hTg hS (lv_sub hl [1, 2, 3, 4, 5, 0] rfl)
          intro hch h61 htg hkv hO hC hU hDn hW hCh hf hg hh hN hP hOw hTg hS hl
          have hev : gnum_vs σ vs v1 55 67 := ⟨fun t ht => hkv _ (by omega), hkv _ (by omega)⟩
          have hbq : ∀ t, t < mN σ → (vs (55 + t)).natAbs ≤ mG k := fun t ht => by rw [hkv _ (by omega)]; exact hb1 t ht
          have hbr : (vs 67).natAbs ≤ mG k := by rw [hkv _ (by omega)]; exact hb2
          refine lv_iload_n hx hb dX10_go_62 rfl (lv_at hl 3 rfl) ?_
          refine lv_aload_n hx hb dX10_go_63 rfl (lv_at hl 0 rfl) ?_
          refine pw_get (C := RX10) (T := TX10) (N := 20) hx hb hts hin10 hown hK hO rfl 1 (by decide) lk_103 rfl rfl dX10_go_64 ?_
          refine pw_icmp_ge (tgt := 192) hx hb dX10_go_67 (by decide) (fun c_67 => absurd c_67 (by omega)) (fun c_67 => ?_)
          refine lv_aload_n hx hb dX10_go_70 rfl (lv_at hl 0 rfl) ?_
          refine pw_get (C := RX10) (T := TX10) (N := 20) hx hb hts hin10 hown hK hO rfl 11 (by decide) lk_32 rfl rfl dX10_go_71 ?_
          refine lv_iload_n hx hb dX10_go_74 rfl (lv_at hl 3 rfl) ?_
          refine lv_aload_n hx hb dX10_go_75 rfl (lv_at hl 0 rfl) ?_
          refine lv_iload_n hx hb dX10_go_76 rfl (lv_at hl 3 rfl) ?_
          refine pw_bipush hx hb dX10_go_77 ?_
          refine pw_bipush hx hb dX10_go_79 ?_
          refine pw_callVi (As := [.int (iI ((n : Int))), .int (iI (55)), .int (iI (67))]) (rest := [.int (iI ((n : Int))), .ref (r0 + 6)]) ⟨hx, hb, hml, hown, hts⟩ (r_greatest l D E r0 σ th so rn co gU gD gW vs n 55 67 (mG k) (by omega) hc0 hm (by omega) (by omega) hok (by omega) (by omega) (by omega) (by omega) hbq hbr (by omega)) (cwV 3 hts gX10_go_X10_greatest rfl rfl rfl (by decide +kernel) ⟨Nat.le_of_ble_eq_true rfl, Nat.le_of_ble_eq_true rfl⟩) hK hO rfl ⟨hO, hU, hDn, hW, hC, f, g, h, ⟨hf, hg, hh⟩, hN⟩ rfl hl.1 rfl (Nat.le_of_ble_eq_true rfl) dX10_go_81 ⟨Nat.zero_le _, Nat.zero_le _⟩ hS (fun q h => by (try dsimp only at h); (try dsimp only); omega) (fun zg H1 locs1 ⟨hzg, vs2, ⟨f, g, h, ⟨hf, hg, hh⟩, hN⟩, hvo⟩ hz1 hk1 hS => ?_)
          have hO := hO.k (hk1 _ hO.lt (by (try dsimp only); omega))
          have hC := hC.k (hk1 _ hC.lt (by (try dsimp only); omega))
          have hU := hU.k (hk1 _ hU.lt (by (try dsimp only); omega))
          have hDn := hDn.k (hk1 _ hDn.lt (by (try dsimp only); omega))
          have hW := hW.k (hk1 _ hW.lt (by (try dsimp only); omega))
          have hCh := hCh.k (hk1 _ hCh.lt (by (try dsimp only); omega))
          have hP := hP.k (hk1 _ hP.lt (by (try dsimp only); omega))
          have hOw := hOw.k (hk1 _ hOw.lt (by (try dsimp only); omega))
          have hTg := hTg.k (hk1 _ hTg.lt (by (try dsimp only); omega))
          rw [gpick_vs hev] at hzg
          have hzg : zg = ((spk σ (fun t => v1 (55 + t)) (v1 67) n) : Int) := hzg
          subst hzg
          have hkv : ∀ q, (55 ≤ q ∧ q ≤ 60) ∨ 67 ≤ q → vs2 (q) = v1 q := fun q hq => (hvo q (by omega)).trans (hkv q hq)
          have h61 : ∀ q, q < n → vs2 (61 + q) = gnum σ (4 * q + spk σ (fun t => v1 (55 + t)) (v1 67) q) (fun t => v1 (55 + t)) (v1 67) := fun q hq => (hvo _ (by omega)).trans (h61 q hq)
          clear hvo hev hbq hbr
          have hev : gnum_vs σ vs2 v1 55 67 := ⟨fun t ht => hkv _ (by omega), hkv _ (by omega)⟩
          have hbq : ∀ t, t < mN σ → (vs2 (55 + t)).natAbs ≤ mG k := fun t ht => by rw [hkv _ (by omega)]; exact hb1 t ht
          have hbr : (vs2 67).natAbs ≤ mG k := by rw [hkv _ (by omega)]; exact hb2
          refine pw_iast hx hb hK hCh hS (by (try dsimp only); omega) (n) rfl (by omega) (by omega) dX10_go_84 (fun H1 locs1 hnew hz1 oq hS => ?_)
          have hO := hO.k (oq _ (by omega))
          have hC := hC.k (oq _ (by omega))
          have hU := hU.k (oq _ (by omega))
          have hDn := hDn.k (oq _ (by omega))
          have hW := hW.k (oq _ (by omega))
          have hP := hP.k (oq _ (by omega))
          have hOw := hOw.k (oq _ (by omega))
          have hTg := hTg.k (oq _ (by omega))
          have hf := hf.k (oq _ (by omega))
          have hg := hg.k (oq _ (by omega))
          have hh := hh.k (oq _ (by omega))
          have hCh := hnew
          clear hnew oq hz1
          refine pw_iconst hx hb dX10_go_85 ?_
          refine lv_iload_n hx hb dX10_go_86 rfl (lv_at hl 3 rfl) ?_
          refine pw_imul hx hb dX10_go_87 ?_
          refine lv_aload_n hx hb dX10_go_88 rfl (lv_at hl 0 rfl) ?_
          refine pw_get (C := RX10) (T := TX10) (N := 20) hx hb hts hin10 hown hK hO rfl 11 (by decide) lk_32 rfl rfl dX10_go_89 ?_
          refine lv_iload_n hx hb dX10_go_92 rfl (lv_at hl 3 rfl) ?_
          refine pw_iald hx hb hK hCh (n) rfl (by omega) (by omega) dX10_go_93 ?_
          refine pw_asi (((spk σ (fun t => v1 (55 + t)) (v1 67) n) : Int)) (by unfold ud; rw [if_pos rfl]) ?_
          refine pw_iadd hx hb dX10_go_94 ?_
          refine pw_asi (((4 * n + (spk σ (fun t => v1 (55 + t)) (v1 67) n)) : Int)) (by omega) ?_
          refine lv_istore (lv' := [(4, .int (iI (((4 * n + (spk σ (fun t => v1 (55 + t)) (v1 67) n)) : Int)))), (0, .ref (r0)), (1, .int (iI ((n0 : Int)))), (2, .int (iI ((k : Int)))), (3, .int (iI ((n : Int))))]) hx hb dX10_go_95 hl (by decide) rfl (fun ls hl => ?_)
          refine lv_aload_n hx hb dX10_go_97 rfl (lv_at hl 1 rfl) ?_
          refine lv_iload hx hb dX10_go_98 (lv_at hl 0 rfl) ?_
          refine pw_bipush hx hb dX10_go_100 ?_
          refine pw_bipush hx hb dX10_go_102 ?_
          refine pw_bipush hx hb dX10_go_104 ?_
          refine lv_iload_n hx hb dX10_go_106 rfl (lv_at hl 4 rfl) ?_
          refine pw_iadd hx hb dX10_go_107 ?_
          refine pw_asi (((61 + n : Nat) : Int)) (by omega) ?_
          refine pw_callVv (As := [.int (iI (((4 * n + (spk σ (fun t => v1 (55 + t)) (v1 67) n)) : Int))), .int (iI (55)), .int (iI (67)), .int (iI (((61 + n : Nat) : Int)))]) (rest := []) ⟨hx, hb, hml, hown, hts⟩ (r_gainInto l D E r0 σ th so rn co gU gD gW vs2 (4 * n + (spk σ (fun t => v1 (55 + t)) (v1 67) n)) 55 67 (61 + n) (mG k) (by omega) hmn (by omega) (by omega) (by omega) (by omega) hok (by omega) (by omega) (by omega) (by omega) hbq hbr (by omega)) (cwV 4 hts gX10_go_X10_gainInto rfl rfl rfl (by decide +kernel) ⟨Nat.le_of_ble_eq_true rfl, Nat.le_of_ble_eq_true rfl⟩) hK hO rfl ⟨hO, hU, hDn, hW, f, g, h, ⟨hf, hg, hh⟩, hN⟩ rfl hl.1 rfl (Nat.le_of_ble_eq_true rfl) dX10_go_108 ⟨Nat.zero_le _, Nat.zero_le _⟩ hS (fun q h => by (try dsimp only at h); (try dsimp only); omega) (fun H1 locs1 ⟨vs3, ⟨f, g, h, ⟨hf, hg, hh⟩, hN⟩, hg3, hvo⟩ hz1 hk1 hS => ?_)
          have hO := hO.k (hk1 _ hO.lt (by (try dsimp only); omega))
          have hC := hC.k (hk1 _ hC.lt (by (try dsimp only); omega))
          have hU := hU.k (hk1 _ hU.lt (by (try dsimp only); omega))
          have hDn := hDn.k (hk1 _ hDn.lt (by (try dsimp only); omega))
          have hW := hW.k (hk1 _ hW.lt (by (try dsimp only); omega))
          have hCh := hCh.k (hk1 _ hCh.lt (by (try dsimp only); omega))
          have hP := hP.k (hk1 _ hP.lt (by (try dsimp only); omega))
          have hOw := hOw.k (hk1 _ hOw.lt (by (try dsimp only); omega))
          have hTg := hTg.k (hk1 _ hTg.lt (by (try dsimp only); omega))
          rw [gnum_vs_eq hev] at hg3
          have hkv : ∀ q, (55 ≤ q ∧ q ≤ 60) ∨ 67 ≤ q → vs3 (q) = v1 q := fun q hq => (hvo q (by omega) (by omega)).trans (hkv q hq)
          have h61 : ∀ q, q < n + 1 → vs3 (61 + q) = gnum σ (4 * q + spk σ (fun t => v1 (55 + t)) (v1 67) q) (fun t => v1 (55 + t)) (v1 67) := fun q hq => by
            by_cases e : q = n
            · rw [e]; exact hg3
            · exact (hvo _ (by omega) (by omega)).trans (h61 q (by omega))
          clear hvo hev hbq hbr
          refine lv_aload_n hx hb dX10_go_111 rfl (lv_at hl 1 rfl) ?_
          refine lv_aload_n hx hb dX10_go_112 rfl (lv_at hl 1 rfl) ?_
          refine pw_get (C := RX10) (T := TX10) (N := 20) hx hb hts hin10 hown hK hO rfl 4 (by decide) lk_16 rfl rfl dX10_go_113 ?_
          refine lv_iload hx hb dX10_go_116 (lv_at hl 0 rfl) ?_
          refine pw_iald hx hb hK hDn ((4 * n + (spk σ (fun t => v1 (55 + t)) (v1 67) n))) rfl (by omega) (by omega) dX10_go_118 ?_
          refine pw_asi ((mD σ (4 * n + (spk σ (fun t => v1 (55 + t)) (v1 67) n)) : Int)) hmn.2.1 ?_
          refine lv_aload_n hx hb dX10_go_119 rfl (lv_at hl 1 rfl) ?_
          refine lv_iload hx hb dX10_go_120 (lv_at hl 0 rfl) ?_
          refine pw_callVi (As := [.int (iI (((4 * n + (spk σ (fun t => v1 (55 + t)) (v1 67) n)) : Int)))]) (rest := [.int (iI ((mD σ (4 * n + (spk σ (fun t => v1 (55 + t)) (v1 67) n)) : Int))), .ref (r0)]) ⟨hx, hb, hml, hown, hts⟩ (r_sumOf l D E r0 σ th so rn co (4 * n + (spk σ (fun t => v1 (55 + t)) (v1 67) n)) gW (by omega) hmn.2.2 hok) (cwV 1 hts gX10_go_X10_sumOf rfl rfl rfl (by decide +kernel) ⟨Nat.le_of_ble_eq_true rfl, Nat.le_of_ble_eq_true rfl⟩) hK hO rfl ⟨hO, hW⟩ rfl hl.1 rfl (Nat.le_of_ble_eq_true rfl) dX10_go_122 ⟨Nat.zero_le _, Nat.zero_le _⟩ hS (fun q h => h.elim) (fun zs H1 locs1 hzs hz1 hk1 hS => ?_)
          have hO := hO.k (hk1 _ hO.lt (fun h => h))
          have hC := hC.k (hk1 _ hC.lt (fun h => h))
          have hU := hU.k (hk1 _ hU.lt (fun h => h))
          have hDn := hDn.k (hk1 _ hDn.lt (fun h => h))
          have hW := hW.k (hk1 _ hW.lt (fun h => h))
          have hCh := hCh.k (hk1 _ hCh.lt (fun h => h))
          have hP := hP.k (hk1 _ hP.lt (fun h => h))
          have hOw := hOw.k (hk1 _ hOw.lt (fun h => h))
          have hTg := hTg.k (hk1 _ hTg.lt (fun h => h))
          have hf := hf.k (hk1 _ hf.lt (fun h => h))
          have hg := hg.k (hk1 _ hg.lt (fun h => h))
          have hh := hh.k (hk1 _ hh.lt (fun h => h))
          subst hzs
          refine pw_imul hx hb dX10_go_125 ?_
          refine pw_asi ((((dd σ (fun t => v1 (55 + t)) (v1 67)) n : Nat) : Int)) (by rw [← Int.natCast_mul]; rfl) ?_
          refine pw_callVv (As := [.int (iI ((((dd σ (fun t => v1 (55 + t)) (v1 67)) n : Nat) : Int)))]) (rest := []) ⟨hx, hb, hml, hown, hts⟩ (r_factor l D E r0 σ th so rn co ow ((dd σ (fun t => v1 (55 + t)) (v1 67)) n) (hdd n (by omega))) (cwV 1 hts gX10_go_X10_factor rfl rfl rfl (by decide +kernel) ⟨Nat.le_of_ble_eq_true rfl, Nat.le_of_ble_eq_true rfl⟩) hK hO rfl ⟨hO, hP, hOw⟩ rfl hl.1 rfl (Nat.le_of_ble_eq_true rfl) dX10_go_126 ⟨Nat.zero_le _, Nat.zero_le _⟩ hS (fun q h => by (try dsimp only at h); (try dsimp only); omega) (fun H1 locs1 ⟨ow, hOw, how⟩ hz1 hk1 hS => ?_)
          have hO := hO.k (hk1 _ hO.lt (by (try dsimp only); omega))
          have hC := hC.k (hk1 _ hC.lt (by (try dsimp only); omega))
          have hU := hU.k (hk1 _ hU.lt (by (try dsimp only); omega))
          have hDn := hDn.k (hk1 _ hDn.lt (by (try dsimp only); omega))
          have hW := hW.k (hk1 _ hW.lt (by (try dsimp only); omega))
          have hCh := hCh.k (hk1 _ hCh.lt (by (try dsimp only); omega))
          have hP := hP.k (hk1 _ hP.lt (by (try dsimp only); omega))
          have hTg := hTg.k (hk1 _ hTg.lt (by (try dsimp only); omega))
          have hf := hf.k (hk1 _ hf.lt (by (try dsimp only); omega))
          have hg := hg.k (hk1 _ hg.lt (by (try dsimp only); omega))
          have hh := hh.k (hk1 _ hh.lt (by (try dsimp only); omega))
          refine pw_iconst hx hb dX10_go_129 ?_
          refine pw_asi (((0 : Nat) : Int)) rfl ?_
          refine lv_istore (lv' := [(5, .int (iI (((0 : Nat) : Int)))), (4, .int (iI (((4 * n + (spk σ (fun t => v1 (55 + t)) (v1 67) n)) : Int)))), (0, .ref (r0)), (1, .int (iI ((n0 : Int)))), (2, .int (iI ((k : Int)))), (3, .int (iI ((n : Int))))]) hx hb dX10_go_130 hl (by decide) rfl (fun ls hl => ?_)
          exact loop4 30 0 _ ow tg vs3 f g h _ _ _ (by omega) (fun q hq => by
            unfold ud
            by_cases e : q = n
            · subst e; rw [if_pos rfl]
            · rw [if_neg e]; exact hch q (by omega)) h61 (fun q hq => by omega) (fun q hq => htg q hq.2) how hkv hO hC hU hDn hW hCh hf hg hh hN hP hOw hTg hS (lv_sub hl [2, 3, 4, 5, 1, 0] rfl)
      have loop2 : ∀ (mm j : Nat) (ch ow tg f g h : Nat → Int) (H : Heap) (locs : List Loc) (ls : Array Slot), j + mm = 30 → (∀ q, q < j → tg q = 0) → OA D r0 10 [.int (iI (th)), .int (iI ((mN σ : Int))), .ref (r0 + 1), .ref (r0 + 2), .ref (r0 + 3), .ref (r0 + 4), .int (iI ((mA σ : Int))), .int (iI ((mB σ : Int))), .int (iI (so)), .int (iI (rn)), .ref (r0 + 5), .ref (r0 + 6), .ref (r0 + 7), .ref (r0 + 8), .ref (r0 + 9), .ref (r0 + 10), .ref (r0 + 11), .ref (r0 + 12), .ref (r0 + 13), .int (iI (co))] H → IA E (r0 + 1) 6 (fun s => (mC σ s : Int)) H → IA E (r0 + 2) 24 gU H → IA E (r0 + 3) 24 gD H → IA E (r0 + 4) 144 gW H → IA E (r0 + 6) 6 ch H → IA E (r0 + 8) 5120 f H → IA E (r0 + 9) 80 g H → IA E (r0 + 10) 80 h H → (∀ c, c < 80 → Num f g h c (v1 c)) → IA E (r0 + 11) 30 prm H → IA E (r0 + 12) 30 ow H → IA E (r0 + 13) 30 tg H → va_S (fun q => q = r0 + 6 ∨ (r0 + 8 ≤ q ∧ q ≤ r0 + 10) ∨ q = r0 + 12 ∨ q = r0 + 13) s.heap H locs → lv_has ls 6 [(0, .ref (r0)), (1, .int (iI ((n0 : Int)))), (2, .int (iI ((k : Int)))), (3, .int (iI ((j : Int))))] → W p l e ({ frames := 5, cells := 0, slots := 0, locals := 127 } : Room) s m args below meth c H locs (0) (0) (MQ below (pw_Q rvV (fun _ H => ∃ ch ow tg vs, IA E (r0 + 6) 6 ch H ∧ BN E r0 vs H ∧ IA E (r0 + 12) 30 ow H ∧ IA E (r0 + 13) 30 tg H ∧ GS σ n0 (fun t => vs (55 + t)) (vs 67) ∧ (∀ t, t < mN σ → (vs (55 + t)).natAbs ≤ mG n0) ∧ (vs 67).natAbs ≤ mG n0 ∧ ∀ q, 68 ≤ q → vs q = vs0 q) (fun q => q = r0 + 6 ∨ (r0 + 8 ≤ q ∧ q ≤ r0 + 10) ∨ q = r0 + 12 ∨ q = r0 + 13)) args s (0) (0) (fun q => q = r0 + 6 ∨ (r0 + 8 ≤ q ∧ q ≤ r0 + 10) ∨ q = r0 + 12 ∨ q = r0 + 13)) (F0 m 41 ls []) := by
        intro mm
        induction mm with
        | zero =>
          intro j ch ow tg f g h H locs ls hj htg hO hC hU hDn hW hCh hf hg hh hN hP hOw hTg hS hl
          have ej : j = 30 := by omega
          subst ej
          refine lv_iload_n hx hb dX10_go_41 rfl (lv_at hl 3 rfl) ?_
          refine pw_bipush hx hb dX10_go_42 ?_
          refine pw_icmp_ge (tgt := 60) hx hb dX10_go_44 (by decide) (fun c_44 => ?_) (fun c_44 => absurd c_44 (by omega))
          refine pw_iconst hx hb dX10_go_60 ?_
          refine pw_asi (((0 : Nat) : Int)) rfl ?_
          refine lv_istore_n (lv' := [(3, .int (iI (((0 : Nat) : Int)))), (0, .ref (r0)), (1, .int (iI ((n0 : Int)))), (2, .int (iI ((k : Int))))]) hx hb dX10_go_61 rfl hl (by decide) rfl (fun ls hl => ?_)
          exact loop3 (mN σ) 0 ch ow tg v1 f g h _ _ _ (by omega) (fun q hq => by omega) (fun q hq => by omega) (fun q hq => htg q hq) (fun _ _ => rfl) hO hC hU hDn hW hCh hf hg hh hN hP hOw hTg hS (lv_sub hl [1, 2, 3, 0] rfl)
        | succ mm ih2 =>
          intro j ch ow tg f g h H locs ls hj htg hO hC hU hDn hW hCh hf hg hh hN hP hOw hTg hS hl
          refine lv_iload_n hx hb dX10_go_41 rfl (lv_at hl 3 rfl) ?_
          refine pw_bipush hx hb dX10_go_42 ?_
          refine pw_icmp_ge (tgt := 60) hx hb dX10_go_44 (by decide) (fun c_44 => absurd c_44 (by omega)) (fun c_44 => ?_)
          refine lv_aload_n hx hb dX10_go_47 rfl (lv_at hl 0 rfl) ?_
          refine pw_get (C := RX10) (T := TX10) (N := 20) hx hb hts hin10 hown hK hO rfl 18 (by decide) lk_53 rfl rfl dX10_go_48 ?_
          refine lv_iload_n hx hb dX10_go_51 rfl (lv_at hl 3 rfl) ?_
          refine pw_iconst hx hb dX10_go_52 ?_
          refine pw_iast hx hb hK hTg hS (by (try dsimp only); omega) (j) rfl (by omega) (by omega) dX10_go_53 (fun H1 locs1 hnew hz1 oq hS => ?_)
          have hO := hO.k (oq _ (by omega))
          have hC := hC.k (oq _ (by omega))
          have hU := hU.k (oq _ (by omega))
          have hDn := hDn.k (oq _ (by omega))
          have hW := hW.k (oq _ (by omega))
          have hCh := hCh.k (oq _ (by omega))
          have hP := hP.k (oq _ (by omega))
          have hOw := hOw.k (oq _ (by omega))
          have hf := hf.k (oq _ (by omega))
          have hg := hg.k (oq _ (by omega))
          have hh := hh.k (oq _ (by omega))
          have hTg := hnew
          clear hnew oq hz1
          refine lv_iinc (v := iI (((j + 1 : Nat) : Int))) (lv' := [(3, .int (iI (((j + 1 : Nat) : Int)))), (0, .ref (r0)), (1, .int (iI ((n0 : Int)))), (2, .int (iI ((k : Int))))]) hx hb dX10_go_54 hl (k := 3) rfl (by show iI _ + iI _ = _; exact (iI_add _ _).trans (by first | rfl | (congr 1; omega))) (by decide) rfl (fun ls hl => ?_)
          refine lv_goto (tgt := 41) hx hb dX10_go_57 (by decide) ?_
          exact ih2 (j + 1) ch ow _ f g h _ _ _ (by omega) (fun q hq => by
            unfold ud
            by_cases e : q = j
            · rw [if_pos e]
            · rw [if_neg e]; exact htg q (by omega)) hO hC hU hDn hW hCh hf hg hh hN hP hOw hTg hS (lv_sub hl [1, 2, 3, 0] rfl)
      intro hO hC hU hDn hW hCh hf hg hh hN hP hOw hTg hS hl
      refine lv_iload_n hx hb dX10_go_34 rfl (lv_at hl 2 rfl) ?_
      refine lv_iload_n hx hb dX10_go_35 rfl (lv_at hl 1 rfl) ?_
      refine pw_icmp_ge (tgt := 344) hx hb dX10_go_36 (by decide) (fun c_36 => absurd c_36 (by omega)) (fun c_36 => ?_)
      refine pw_iconst hx hb dX10_go_39 ?_
      refine pw_asi (((0 : Nat) : Int)) rfl ?_
      refine lv_istore_n (lv' := [(3, .int (iI (((0 : Nat) : Int)))), (0, .ref (r0)), (1, .int (iI ((n0 : Int)))), (2, .int (iI ((k : Int))))]) hx hb dX10_go_40 rfl hl (by decide) rfl (fun ls hl => ?_)
      exact loop2 30 0 ch ow tg f g h _ _ _ (by omega) (fun q hq => by omega) hO hC hU hDn hW hCh hf hg hh hN hP hOw hTg hS (lv_sub hl [1, 2, 3, 0] rfl)
  have loop0 : ∀ (mm k : Nat) (ch ow tg vs f g h : Nat → Int) (H : Heap) (locs : List Loc) (ls : Array Slot), k + mm = mN σ → (∀ q, q < k → vs (55 + q) = 0) → vs (67) = 1 → (∀ q, 68 ≤ q → vs (q) = vs0 q) → OA D r0 10 [.int (iI (th)), .int (iI ((mN σ : Int))), .ref (r0 + 1), .ref (r0 + 2), .ref (r0 + 3), .ref (r0 + 4), .int (iI ((mA σ : Int))), .int (iI ((mB σ : Int))), .int (iI (so)), .int (iI (rn)), .ref (r0 + 5), .ref (r0 + 6), .ref (r0 + 7), .ref (r0 + 8), .ref (r0 + 9), .ref (r0 + 10), .ref (r0 + 11), .ref (r0 + 12), .ref (r0 + 13), .int (iI (co))] H → IA E (r0 + 1) 6 (fun s => (mC σ s : Int)) H → IA E (r0 + 2) 24 gU H → IA E (r0 + 3) 24 gD H → IA E (r0 + 4) 144 gW H → IA E (r0 + 6) 6 ch H → IA E (r0 + 8) 5120 f H → IA E (r0 + 9) 80 g H → IA E (r0 + 10) 80 h H → (∀ c, c < 80 → Num f g h c (vs c)) → IA E (r0 + 11) 30 prm H → IA E (r0 + 12) 30 ow H → IA E (r0 + 13) 30 tg H → va_S (fun q => q = r0 + 6 ∨ (r0 + 8 ≤ q ∧ q ≤ r0 + 10) ∨ q = r0 + 12 ∨ q = r0 + 13) s.heap H locs → lv_has ls 6 [(0, .ref (r0)), (1, .int (iI ((n0 : Int)))), (2, .int (iI ((k : Int))))] → W p l e ({ frames := 5, cells := 0, slots := 0, locals := 127 } : Room) s m args below meth c H locs (0) (0) (MQ below (pw_Q rvV (fun _ H => ∃ ch ow tg vs, IA E (r0 + 6) 6 ch H ∧ BN E r0 vs H ∧ IA E (r0 + 12) 30 ow H ∧ IA E (r0 + 13) 30 tg H ∧ GS σ n0 (fun t => vs (55 + t)) (vs 67) ∧ (∀ t, t < mN σ → (vs (55 + t)).natAbs ≤ mG n0) ∧ (vs 67).natAbs ≤ mG n0 ∧ ∀ q, 68 ≤ q → vs q = vs0 q) (fun q => q = r0 + 6 ∨ (r0 + 8 ≤ q ∧ q ≤ r0 + 10) ∨ q = r0 + 12 ∨ q = r0 + 13)) args s (0) (0) (fun q => q = r0 + 6 ∨ (r0 + 8 ≤ q ∧ q ≤ r0 + 10) ∨ q = r0 + 12 ∨ q = r0 + 13)) (F0 m 9 ls []) := by
    intro mm
    induction mm with
    | zero =>
      intro k ch ow tg vs f g h H locs ls hk h55 h67 hv8 hO hC hU hDn hW hCh hf hg hh hN hP hOw hTg hS hl
      have ek : k = mN σ := by omega
      subst ek
      refine lv_iload_n hx hb dX10_go_9 rfl (lv_at hl 2 rfl) ?_
      refine lv_aload_n hx hb dX10_go_10 rfl (lv_at hl 0 rfl) ?_
      refine pw_get (C := RX10) (T := TX10) (N := 20) hx hb hts hin10 hown hK hO rfl 1 (by decide) lk_103 rfl rfl dX10_go_11 ?_
      refine pw_icmp_ge (tgt := 32) hx hb dX10_go_14 (by decide) (fun c_14 => ?_) (fun c_14 => absurd c_14 (by omega))
      refine pw_iconst hx hb dX10_go_32 ?_
      refine pw_asi (((0 : Nat) : Int)) rfl ?_
      refine lv_istore_n (lv' := [(2, .int (iI (((0 : Nat) : Int)))), (0, .ref (r0)), (1, .int (iI ((n0 : Int))))]) hx hb dX10_go_33 rfl hl (by decide) rfl (fun ls hl => ?_)
      exact loop n0 0 ch ow tg vs f g h _ _ _ (by omega) ⟨by rw [h67]; omega, fun s hs => h55 s hs⟩ (fun t ht => by rw [h55 t ht]; exact Nat.zero_le _) (by rw [h67]; exact (mG_b 0 (by omega)).1) hv8 hO hC hU hDn hW hCh hf hg hh hN hP hOw hTg hS (lv_sub hl [1, 2, 0] rfl)
    | succ mm ih =>
      intro k ch ow tg vs f g h H locs ls hk h55 h67 hv8 hO hC hU hDn hW hCh hf hg hh hN hP hOw hTg hS hl
      refine lv_iload_n hx hb dX10_go_9 rfl (lv_at hl 2 rfl) ?_
      refine lv_aload_n hx hb dX10_go_10 rfl (lv_at hl 0 rfl) ?_
      refine pw_get (C := RX10) (T := TX10) (N := 20) hx hb hts hin10 hown hK hO rfl 1 (by decide) lk_103 rfl rfl dX10_go_11 ?_
      refine pw_icmp_ge (tgt := 32) hx hb dX10_go_14 (by decide) (fun c_14 => absurd c_14 (by omega)) (fun c_14 => ?_)
      refine lv_aload_n hx hb dX10_go_17 rfl (lv_at hl 0 rfl) ?_
      refine pw_bipush hx hb dX10_go_18 ?_
      refine lv_iload_n hx hb dX10_go_20 rfl (lv_at hl 2 rfl) ?_
      refine pw_iadd hx hb dX10_go_21 ?_
      refine pw_asi (((55 + k : Nat) : Int)) (by omega) ?_
      refine pw_lconst (z := 0) hx hb dX10_go_22 ?_
      refine pw_callVv (As := [.int (iI (((55 + k : Nat) : Int))), .long (lI (0))]) (rest := []) ⟨hx, hb, hml, hown, hts⟩ (r_setSmall l D E r0 (oV th σ so rn co) f g h (55 + k) 0 (by omega) (by omega) (by omega)) (cwV 2 hts gX10_go_X10_setSmall rfl rfl rfl (by decide +kernel) ⟨Nat.le_of_ble_eq_true rfl, Nat.le_of_ble_eq_true rfl⟩) hK hO rfl ⟨hO, hf, hg, hh⟩ rfl hl.1 rfl (Nat.le_of_ble_eq_true rfl) dX10_go_23 ⟨Nat.zero_le _, Nat.zero_le _⟩ hS (fun q h => by (try dsimp only at h); (try dsimp only); omega) (fun H1 locs1 ⟨f, g, h, ⟨hf, hg, hh⟩, hn1, ho1⟩ hz1 hk1 hS => ?_)
      have hO := hO.k (hk1 _ hO.lt (by (try dsimp only); omega))
      have hC := hC.k (hk1 _ hC.lt (by (try dsimp only); omega))
      have hU := hU.k (hk1 _ hU.lt (by (try dsimp only); omega))
      have hDn := hDn.k (hk1 _ hDn.lt (by (try dsimp only); omega))
      have hW := hW.k (hk1 _ hW.lt (by (try dsimp only); omega))
      have hCh := hCh.k (hk1 _ hCh.lt (by (try dsimp only); omega))
      have hP := hP.k (hk1 _ hP.lt (by (try dsimp only); omega))
      have hOw := hOw.k (hk1 _ hOw.lt (by (try dsimp only); omega))
      have hTg := hTg.k (hk1 _ hTg.lt (by (try dsimp only); omega))
      obtain ⟨vs, hva0, hvo, hN⟩ := bn_np hN hn1 ho1
      clear hn1 ho1
      have h55 : ∀ q, q < k → vs (55 + q) = 0 := fun q hq => (hvo _ (by omega)).trans (h55 q hq)
      have h67 : vs (67) = 1 := (hvo _ (by omega)).trans h67
      have hv8 : ∀ q, 68 ≤ q → vs (q) = vs0 q := fun q hq => (hvo _ (by omega)).trans (hv8 q hq)
      have h5k : vs (55 + k) = 0 := hva0
      clear hva0 hvo
      refine lv_iinc (v := iI (((k + 1 : Nat) : Int))) (lv' := [(2, .int (iI (((k + 1 : Nat) : Int)))), (0, .ref (r0)), (1, .int (iI ((n0 : Int))))]) hx hb dX10_go_26 hl (k := 2) rfl (by show iI _ + iI _ = _; exact (iI_add _ _).trans (by first | rfl | (congr 1; omega))) (by decide) rfl (fun ls hl => ?_)
      refine lv_goto (tgt := 9) hx hb dX10_go_29 (by decide) ?_
      exact ih (k + 1) ch ow tg vs f g h _ _ _ (by omega) (fun q hq => by
        by_cases e : q = k
        · rw [e]; exact h5k
        · exact h55 q (by omega)) h67 hv8 hO hC hU hDn hW hCh hf hg hh hN hP hOw hTg hS (lv_sub hl [1, 2, 0] rfl)
  have hv8 : ∀ q, 68 ≤ q → vs0 (q) = vs0 q := fun _ _ => rfl
  refine lv_aload_n hx hb dX10_go_0 rfl (lv_at hl 0 rfl) ?_
  refine pw_bipush hx hb dX10_go_1 ?_
  refine pw_lconst (z := 1) hx hb dX10_go_3 ?_
  refine pw_callVv (As := [.int (iI (67)), .long (lI (1))]) (rest := []) ⟨hx, hb, hml, hown, hts⟩ (r_setSmall l D E r0 (oV th σ so rn co) f g h 67 1 (by omega) (by omega) (by omega)) (cwV 2 hts gX10_go_X10_setSmall rfl rfl rfl (by decide +kernel) ⟨Nat.le_of_ble_eq_true rfl, Nat.le_of_ble_eq_true rfl⟩) hK hO rfl ⟨hO, hf, hg, hh⟩ rfl hl.1 rfl (Nat.le_of_ble_eq_true rfl) dX10_go_4 ⟨Nat.zero_le _, Nat.zero_le _⟩ hS (fun q h => by (try dsimp only at h); (try dsimp only); omega) (fun H1 locs1 ⟨f, g, h, ⟨hf, hg, hh⟩, hn1, ho1⟩ hz1 hk1 hS => ?_)
  have hO := hO.k (hk1 _ hO.lt (by (try dsimp only); omega))
  have hC := hC.k (hk1 _ hC.lt (by (try dsimp only); omega))
  have hU := hU.k (hk1 _ hU.lt (by (try dsimp only); omega))
  have hDn := hDn.k (hk1 _ hDn.lt (by (try dsimp only); omega))
  have hW := hW.k (hk1 _ hW.lt (by (try dsimp only); omega))
  have hCh := hCh.k (hk1 _ hCh.lt (by (try dsimp only); omega))
  have hP := hP.k (hk1 _ hP.lt (by (try dsimp only); omega))
  have hOw := hOw.k (hk1 _ hOw.lt (by (try dsimp only); omega))
  have hTg := hTg.k (hk1 _ hTg.lt (by (try dsimp only); omega))
  obtain ⟨vs, hva0, hvo, hN⟩ := bn_np hN hn1 ho1
  clear hn1 ho1
  have hv8 : ∀ q, 68 ≤ q → vs (q) = vs0 q := fun q hq => (hvo _ (by omega)).trans (hv8 q hq)
  have h67 : vs (67) = 1 := hva0
  clear hva0 hvo
  refine pw_iconst hx hb dX10_go_7 ?_
  refine pw_asi (((0 : Nat) : Int)) rfl ?_
  refine lv_istore_n (lv' := [(2, .int (iI (((0 : Nat) : Int)))), (0, .ref (r0)), (1, .int (iI ((n0 : Int))))]) hx hb dX10_go_8 rfl hl (by decide) rfl (fun ls hl => ?_)
  exact loop0 (mN σ) 0 ch0 ow0 tg0 vs f g h _ _ _ (by omega) (fun q hq => by omega) h67 hv8 hO hC hU hDn hW hCh hf hg hh hN hP hOw hTg hS (lv_sub hl [1, 2, 0] rfl)
