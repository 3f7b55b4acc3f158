/-! the reference: solve -/
theorem gpick_vs {σ : MS} {vs vs0 : Nat → Int} {val bel st beg : Nat} (h : gnum_vs σ vs vs0 val bel) : ∀ a, gpick σ st beg (fun t => vs (val + t)) (vs bel) a = gpick σ st beg (fun t => vs0 (val + t)) (vs0 bel) a
  | 0 => rfl
  | a + 1 => by
    have ih := gpick_vs (st := st) (beg := beg) h a
    show (if a ≠ beg ∧ gmore σ (fun t => vs (val + t)) (vs bel) (4 * st + a) (4 * st + gpick σ st beg (fun t => vs (val + t)) (vs bel) a) then a else gpick σ st beg (fun t => vs (val + t)) (vs bel) a) = _
    rw [ih]
    have e := gmore_vs h (4 * st + a) (4 * st + gpick σ st beg (fun t => vs0 (val + t)) (vs0 bel) a)
    by_cases hc : a ≠ beg ∧ gmore σ (fun t => vs (val + t)) (vs bel) (4 * st + a) (4 * st + gpick σ st beg (fun t => vs0 (val + t)) (vs0 bel) a)
    · rw [if_pos hc, gpick_y ⟨hc.1, e.mp hc.2⟩]
    · rw [if_neg hc, gpick_n (fun q => hc ⟨q.1, e.mpr q.2⟩)]
/-- another pick than the first is the first of the greatest -/
theorem gpick_first {σ : MS} {st beg : Nat} {v : Nat → Int} {b : Int} {m : Nat} (hb : beg < m) (hs : ∀ k, k < m → 0 < gsc σ (4 * st + k)) : ∀ a, a ≤ m → gpick σ st beg v b a ≠ beg → gpick σ st beg v b a < a ∧ ∀ j, j < gpick σ st beg v b a → gmore σ v b (4 * st + gpick σ st beg v b a) (4 * st + j)
  | 0, _, h => absurd rfl h
  | a + 1, ha, h => by
    by_cases hc : a ≠ beg ∧ gmore σ v b (4 * st + a) (4 * st + gpick σ st beg v b a)
    · rw [gpick_y hc]
      refine ⟨by omega, fun j hj => ?_⟩
      have h1 := (gpick_ge (v := v) (b := b) hb hs a (by omega)).2.1 j hj
      have hp := gpick_lt (σ := σ) (st := st) (v := v) (b := b) hb a (by omega)
      exact frac_trans_lt (hs j (by omega)) (hs _ hp) (hs a (by omega)) h1 hc.2
    · rw [gpick_n hc] at h ⊢
      obtain ⟨h1, h2⟩ := gpick_first hb hs a (by omega) h
      exact ⟨by omega, h2⟩
/-- where the first action's pick gains no more than what was chosen, the choice stays; else both ways pick the same -/
theorem np_ref {σ : MS} (hok : mOK σ) (hr : rdy σ) {π : Nat → Nat} {v : Nat → Int} {b : Int} {s : Nat} (hs : s < mN σ) (hπ : π s < mC σ s) : ((gpick σ s 0 v b (mC σ s) = π s ∨ gnum σ (4 * s + π s) v b * gsc σ (4 * s + gpick σ s 0 v b (mC σ s)) = gnum σ (4 * s + gpick σ s 0 v b (mC σ s)) v b * gsc σ (4 * s + π s)) → npol σ π v b s = π s) ∧ (¬ (gnum σ (4 * s + π s) v b * gsc σ (4 * s + gpick σ s 0 v b (mC σ s)) = gnum σ (4 * s + gpick σ s 0 v b (mC σ s)) v b * gsc σ (4 * s + π s)) → npol σ π v b s = gpick σ s 0 v b (mC σ s)) := by
  have hg : ∀ k, k < mC σ s → 0 < gsc σ (4 * s + k) := fun k hk => gsc_pos hok hr hs hk
  have h0 : 0 < mC σ s := (hr.2 s hs).1
  obtain ⟨a1, a2, a3⟩ := gpick_ge (v := v) (b := b) h0 hg _ (Nat.le_refl _)
  obtain ⟨b1, b2, b3⟩ := gpick_ge (v := v) (b := b) hπ hg _ (Nat.le_refl _)
  have f0 := gpick_first (v := v) (b := b) h0 hg _ (Nat.le_refl _)
  have f1 := gpick_first (v := v) (b := b) hπ hg _ (Nat.le_refl _)
  have l0 := gpick_lt (σ := σ) (st := s) (v := v) (b := b) h0 _ (Nat.le_refl _)
  have l1 := gpick_lt (σ := σ) (st := s) (v := v) (b := b) hπ _ (Nat.le_refl _)
  have hle := a2 _ l1
  have hle2 := b2 _ l0
  have keep : gnum σ (4 * s + π s) v b * gsc σ (4 * s + gpick σ s 0 v b (mC σ s)) = gnum σ (4 * s + gpick σ s 0 v b (mC σ s)) v b * gsc σ (4 * s + π s) → npol σ π v b s = π s := fun e => by
    rcases Classical.em (npol σ π v b s = π s) with h | h
    · exact h
    · exfalso
      have h1 := b3 h
      have h2 : gmore σ v b (4 * s + gpick σ s 0 v b (mC σ s)) (4 * s + π s) := frac_lt_trans (hg _ hπ) (hg _ l1) (hg _ l0) h1 hle
      have h3 : gnum σ (4 * s + π s) v b * gsc σ (4 * s + gpick σ s 0 v b (mC σ s)) < gnum σ (4 * s + gpick σ s 0 v b (mC σ s)) v b * gsc σ (4 * s + π s) := h2
      omega
  refine ⟨fun h => ?_, fun h => ?_⟩
  · rcases h with h | h
    · exact keep (by rw [h])
    · exact keep h
  · have hne : npol σ π v b s ≠ π s := fun e => by
      have e' : gpick σ s (π s) v b (mC σ s) = π s := e
      rw [e'] at hle2
      have h1 := a2 _ hπ
      have h2 : gnum σ (4 * s + π s) v b * gsc σ (4 * s + gpick σ s 0 v b (mC σ s)) ≤ gnum σ (4 * s + gpick σ s 0 v b (mC σ s)) v b * gsc σ (4 * s + π s) := h1
      have h3 : gnum σ (4 * s + gpick σ s 0 v b (mC σ s)) v b * gsc σ (4 * s + π s) ≤ gnum σ (4 * s + π s) v b * gsc σ (4 * s + gpick σ s 0 v b (mC σ s)) := hle2
      exact h (by omega)
    obtain ⟨_, g1⟩ := f1 hne
    have g0 : ∀ j, j < gpick σ s 0 v b (mC σ s) → gmore σ v b (4 * s + gpick σ s 0 v b (mC σ s)) (4 * s + j) := by
      rcases Classical.em (gpick σ s 0 v b (mC σ s) = 0) with e | e
      · intro j hj; omega
      · exact (f0 e).2
    show gpick σ s (π s) v b (mC σ s) = _
    rcases Nat.lt_trichotomy (gpick σ s (π s) v b (mC σ s)) (gpick σ s 0 v b (mC σ s)) with q | q | q
    · have h1 := g0 _ q
      exact absurd h1 (Int.not_lt.mpr hle2)
    · exact q
    · have h1 := g1 _ q
      exact absurd h1 (Int.not_lt.mpr hle)
/-- the values that a round works with: those of the policy; mx and bw bound them -/
def RVal (mx bw : Nat) (σ : MS) (π : Nat → Nat) (vs : Nat → Int) : Prop := 0 < vs 54 ∧ (vs 54).natAbs ≤ mx ∧ (∀ s, s < mN σ → (vs (42 + s)).natAbs ≤ bw) ∧ ∃ v b, PV σ π v b ∧ ∀ s, s < mN σ → v s * vs 54 = vs (42 + s) * b
theorem rv_ex : ∃ mx bw : Nat, (mx * 8000000000 < 268435456 ^ 62 ∧ mx < 268435456 ^ 16 ∧ bw ≤ mx ∧ bw < 268435456 ^ 14 ∧ bw < 268435456 ^ 60) ∧ (∀ (σ : MS) (π : Nat → Nat) (cm : Nat), mOK σ → (∀ s, s < mN σ → π s < mC σ s) → cm ≤ 232792560 → (eP (qm σ π cm) (mN σ)).natAbs ≤ bw) ∧ ∀ (σ : MS) (π : Nat → Nat) (cm : Nat) (vs : Nat → Int), mOK σ → rdy σ → (∀ s, s < mN σ → π s < mC σ s) → (0 < cm ∧ cm ≤ 232792560 ∧ ∀ s, s < mN σ → mD σ (4 * s + π s) ∣ cm) → vs 54 = eP (qm σ π cm) (mN σ) * (cm : Int) → (∀ s, s < mN σ → vs (42 + s) = eY (qm σ π cm) (mN σ) (mN σ) s) → RVal mx bw σ π vs := by
  refine ⟨bdW * 232792560, bdW, by decide +kernel, fun σ π cm hok hπ hcm => eP_b (by omega) (qm_b hok hcm hπ) hok.1, fun σ π cm vs hok hr hπ hc h1 h2 => ?_⟩
  have hN6 := hok.1
  have hz := qm_z (cm := cm) hok hr hπ
  have hRb := qm_b hok hc.2.1 hπ
  have hPb : (eP (qm σ π cm) (mN σ)).natAbs ≤ bdW := eP_b (by omega) hRb hN6
  have hPp : 0 < eP (qm σ π cm) (mN σ) := det_pos hz (mN σ) (Nat.le_refl _)
  have hsol := qm_sol hok hπ hc.2.2 (X := eY (qm σ π cm) (mN σ) (mN σ)) (P := eP (qm σ π cm) (mN σ)) (fun i hi => eY_eq _ _ hi)
  obtain ⟨v, b, hPV⟩ := pv_ex hok hr hπ
  have hcr := pr_uniq hok hr hπ (fun s hs => (hPV.2.2 s hs).1) hsol
  refine ⟨?_, ?_, fun s hs => ?_, v, b, hPV, fun s hs => ?_⟩
  · rw [h1]; exact Int.mul_pos hPp (by omega)
  · rw [h1]; exact mulb hPb (by rw [Int.natAbs_natCast]; exact hc.2.1)
  · rw [h2 s hs]; exact eY_b (by omega) hRb hN6 _ _
  · rw [h1, h2 s hs]; exact hcr s hs
theorem rv_eq {mx bw : Nat} {σ : MS} {π : Nat → Nat} {vs vs' : Nat → Int} (h : RVal mx bw σ π vs) (h4 : vs' 54 = vs 54) (h5 : ∀ s, s < mN σ → vs' (42 + s) = vs (42 + s)) : RVal mx bw σ π vs' := by
  obtain ⟨a1, a2, a3, v, b, a4, a5⟩ := h
  exact ⟨by rw [h4]; exact a1, by rw [h4]; exact a2, fun s hs => by rw [h5 s hs]; exact a3 s hs, v, b, a4, fun s hs => by rw [h4, h5 s hs]; exact a5 s hs⟩
theorem rv_pi {mx bw : Nat} {σ : MS} {π π' : Nat → Nat} {vs : Nat → Int} (h : RVal mx bw σ π vs) (he : ∀ s, s < mN σ → π' s = π s) : RVal mx bw σ π' vs := by
  obtain ⟨a1, a2, a3, v, b, a4, a5⟩ := h
  exact ⟨a1, a2, a3, v, b, pv_congr a4 (fun s hs => (he s hs).symm), a5⟩
set_option maxHeartbeats 4000000 in
set_option maxRecDepth 100000 in
/-- solve() -/
theorem r_solve (l : Launch) (D : va_G) (E : Nat → ClassId) (r0 : Nat) (σ : MS) (rn : Int) : pw_M rvI l D E yX10_solve wsX10_solve ({ frames := 5, cells := 0, slots := 0, locals := 129 } : Room) [.ref (r0)] (fun H => RPO D E r0 σ rn H) (fun z H => (¬ rdy σ ∧ z = -1 ∧ RPO D E r0 σ rn H) ∨ (rdy σ ∧ ∃ r : Nat, z = (r : Int) ∧ 0 < r ∧ RPO D E r0 σ (r : Int) H)) (fun q => r0 ≤ q ∧ q ≤ r0 + 13) (0) (0) := by
  refine pw_of (cc := cX10_solve) (maxL := 5) (ret := (some .int)) (by decide +kernel) rfl (Nat.le_of_ble_eq_true rfl) ?_
  intro p e s m args below meth c hx hb hr hml hts hown hlocks hini hK ⟨th, so, co, bst, ch, nx, vs, ow, tg, gU, gD, gW, hO, hC, hU, hDn, hW, hBs, hCh, hNx, hB, hP, hOw, hTg, hRI⟩ ls hl
  have hown : s.vm.findClass RX10 = some m.cls := hown
  have hl : lv_has ls 5 [(0, .ref (r0))] := hl
  have hS : va_S (fun q => r0 ≤ q ∧ q ≤ r0 + 13) s.heap s.heap [] := va_S.rf
  have lk_29 := hts (.fieldLink RX10 29 "PolicyWorksModel" "best" "[I") (by decide +kernel)
  have lk_32 := hts (.fieldLink RX10 32 "PolicyWorksModel" "chosen" "[I") (by decide +kernel)
  have lk_35 := hts (.fieldLink RX10 35 "PolicyWorksModel" "next" "[I") (by decide +kernel)
  have lk_56 := hts (.fieldLink RX10 56 "PolicyWorksModel" "thrown" "I") (by decide +kernel)
  have lk_96 := hts (.fieldLink RX10 96 "PolicyWorksModel" "solved" "Z") (by decide +kernel)
  have lk_100 := hts (.fieldLink RX10 100 "PolicyWorksModel" "rounds" "I") (by decide +kernel)
  have lk_103 := hts (.fieldLink RX10 103 "PolicyWorksModel" "states" "I") (by decide +kernel)
  have hin10 : ∀ w ∈ wsX100, w ∈ wsX10_solve := by decide +kernel
  have hok := hRI.1
  have hm := hRI.2.1
  have hrn := hRI.2.2.1
  have hN6 := hok.1
  have hC4 := hok.2.1
  obtain ⟨mx, bw, ⟨x1, x2, x3, x4, x5⟩, hbw, hrv⟩ := rv_ex
  have p63 : 268435456 ^ 62 < 268435456 ^ 63 := by decide +kernel
  have fin2 : ∀ (j : Nat) (co : Int) (bst ch nx v1 : Nat → Int), rdy σ → 0 < j → j ≤ 4096 → RVal mx bw σ (fun s => (bst s).toNat) v1 → (∀ v b, PV σ (fun s => (bst s).toNat) v b → SOL σ j bst v b) → ∀ (kk n : Nat) (vs f g h : Nat → Int) (H : Heap) (locs : List Loc) (ls : Array Slot), n + kk = mN σ → (∀ q, q < n → vs (68 + q) = v1 (42 + q)) → (∀ c, c < 68 → vs (c) = v1 c) → OA D r0 10 [.int (iI (0)), .int (iI ((mN σ : Int))), .ref (r0 + 1), .ref (r0 + 2), .ref (r0 + 3), .ref (r0 + 4), .int (iI ((mA σ : Int))), .int (iI ((mB σ : Int))), .int (iI (1)), .int (iI ((j : Int))), .ref (r0 + 5), .ref (r0 + 6), .ref (r0 + 7), .ref (r0 + 8), .ref (r0 + 9), .ref (r0 + 10), .ref (r0 + 11), .ref (r0 + 12), .ref (r0 + 13), .int (iI (co))] H → IA E (r0 + 1) 6 (fun s => (mC σ s : Int)) H → IA E (r0 + 2) 24 gU H → IA E (r0 + 3) 24 gD H → IA E (r0 + 4) 144 gW H → IA E (r0 + 5) 6 bst H → IA E (r0 + 6) 6 ch H → IA E (r0 + 7) 6 nx H → IA E (r0 + 8) 5120 f H → IA E (r0 + 9) 80 g H → IA E (r0 + 10) 80 h H → (∀ c, c < 80 → Num f g h c (vs c)) → IA E (r0 + 11) 30 prm H → IA E (r0 + 12) 30 ow H → IA E (r0 + 13) 30 tg H → va_S (fun q => r0 ≤ q ∧ q ≤ r0 + 13) s.heap H locs → lv_has ls 5 [(0, .ref (r0)), (1, .int (iI (0))), (2, .int (iI ((n : Int))))] → W p l e ({ frames := 5, cells := 0, slots := 0, locals := 129 } : Room) s m args below meth c H locs (0) (0) (MQ below (pw_Q rvI (fun z H => (¬ rdy σ ∧ z = -1 ∧ RPO D E r0 σ rn H) ∨ (rdy σ ∧ ∃ r : Nat, z = (r : Int) ∧ 0 < r ∧ RPO D E r0 σ (r : Int) H)) (fun q => r0 ≤ q ∧ q ≤ r0 + 13)) args s (0) (0) (fun q => r0 ≤ q ∧ q ≤ r0 + 13)) (F0 m 225 ls []) := by
    intro j co bst ch nx v1 hrd hj0 hj1 hRV hSOL kk
    induction kk with
    | zero =>
      intro n vs f g h H locs ls hn hq68 hvc hO hC hU hDn hW hBs hCh hNx hf hg hh hN hP hOw hTg hS hl
      have en : n = mN σ := by omega
      subst en
      have h54 := hvc 54 (by omega)
      refine lv_iload_n hx hb dX10_solve_225 rfl (lv_at hl 2 rfl) ?_
      refine lv_aload_n hx hb dX10_solve_226 rfl (lv_at hl 0 rfl) ?_
      refine pw_get (C := RX10) (T := TX10) (N := 20) hx hb hts hin10 hown hK hO rfl 1 (by decide) lk_103 rfl rfl dX10_solve_227 ?_
      refine pw_icmp_ge (tgt := 251) hx hb dX10_solve_230 (by decide) (fun c_230 => ?_) (fun c_230 => absurd c_230 (by omega))
      refine lv_aload_n hx hb dX10_solve_251 rfl (lv_at hl 0 rfl) ?_
      refine pw_bipush hx hb dX10_solve_252 ?_
      refine pw_bipush hx hb dX10_solve_254 ?_
      refine pw_callVv (As := [.int (iI (54)), .int (iI (74))]) (rest := []) ⟨hx, hb, hml, hown, hts⟩ (r_copy l D E r0 (oV 0 σ 1 (j : Int) co) f g h 54 74 (v1 54) (by omega) (by omega) (by omega) (num_at (hN (54) (by omega)) h54)) (cwV 2 hts gX10_solve_X10_copy rfl rfl rfl (by decide +kernel) ⟨Nat.le_of_ble_eq_true rfl, Nat.le_of_ble_eq_true rfl⟩) hK hO rfl ⟨hO, hf, hg, hh⟩ rfl hl.1 rfl (Nat.le_of_ble_eq_true rfl) dX10_solve_256 ⟨Nat.zero_le _, Nat.zero_le _⟩ hS (fun q h => by (try dsimp only at h); (try dsimp only); omega) (fun H1 locs1 ⟨f, g, h, ⟨hf, hg, hh⟩, hn1, ho1⟩ hz1 hk1 hS => ?_)
      have hO := hO.k (hk1 _ hO.lt (by (try dsimp only); omega))
      have hC := hC.k (hk1 _ hC.lt (by (try dsimp only); omega))
      have hU := hU.k (hk1 _ hU.lt (by (try dsimp only); omega))
      have hDn := hDn.k (hk1 _ hDn.lt (by (try dsimp only); omega))
      have hW := hW.k (hk1 _ hW.lt (by (try dsimp only); omega))
      have hBs := hBs.k (hk1 _ hBs.lt (by (try dsimp only); omega))
      have hCh := hCh.k (hk1 _ hCh.lt (by (try dsimp only); omega))
      have hNx := hNx.k (hk1 _ hNx.lt (by (try dsimp only); omega))
      have hP := hP.k (hk1 _ hP.lt (by (try dsimp only); omega))
      have hOw := hOw.k (hk1 _ hOw.lt (by (try dsimp only); omega))
      have hTg := hTg.k (hk1 _ hTg.lt (by (try dsimp only); omega))
      obtain ⟨vs, hva0, hvo, hN⟩ := bn_np hN hn1 ho1
      clear hn1 ho1
      have hq68 : ∀ q, q < mN σ → vs (68 + q) = v1 (42 + q) := fun q hq => (hvo _ (by omega)).trans (hq68 q hq)
      have h74 : vs (74) = v1 54 := hva0
      clear hva0 hvo
      refine lv_aload_n hx hb dX10_solve_259 rfl (lv_at hl 0 rfl) ?_
      refine pw_get (C := RX10) (T := TX10) (N := 20) hx hb hts hin10 hown hK hO rfl 9 (by decide) lk_100 rfl rfl dX10_solve_260 ?_
      obtain ⟨y1, y2, y3, v, b, y4, y5⟩ := hRV
      exact pw_iret hx hb hr hlocks hS (Or.inr ⟨hrd, j, rfl, hj0, 0, 1, co, bst, ch, nx, vs, ow, tg, gU, gD, gW, hO, hC, hU, hDn, hW, hBs, hCh, hNx, ⟨f, g, h, ⟨hf, hg, hh⟩, hN⟩, hP, hOw, hTg, hok, hm, by omega, Or.inr ⟨by omega, rfl, hrd, v, b, hSOL v b y4, by rw [h74]; exact y1, by rw [h74]; omega, fun s hs => ⟨by rw [hq68 s hs, h74]; exact (y5 s hs).symm, by rw [hq68 s hs]; have := y3 s hs; omega⟩⟩⟩) dX10_solve_263
    | succ kk ih =>
      intro n vs f g h H locs ls hn hq68 hvc hO hC hU hDn hW hBs hCh hNx hf hg hh hN hP hOw hTg hS hl
      have h42 := hvc (42 + n) (by omega)
      refine lv_iload_n hx hb dX10_solve_225 rfl (lv_at hl 2 rfl) ?_
      refine lv_aload_n hx hb dX10_solve_226 rfl (lv_at hl 0 rfl) ?_
      refine pw_get (C := RX10) (T := TX10) (N := 20) hx hb hts hin10 hown hK hO rfl 1 (by decide) lk_103 rfl rfl dX10_solve_227 ?_
      refine pw_icmp_ge (tgt := 251) hx hb dX10_solve_230 (by decide) (fun c_230 => absurd c_230 (by omega)) (fun c_230 => ?_)
      refine lv_aload_n hx hb dX10_solve_233 rfl (lv_at hl 0 rfl) ?_
      refine pw_bipush hx hb dX10_solve_234 ?_
      refine lv_iload_n hx hb dX10_solve_236 rfl (lv_at hl 2 rfl) ?_
      refine pw_iadd hx hb dX10_solve_237 ?_
      refine pw_asi (((42 + n : Nat) : Int)) (by omega) ?_
      refine pw_bipush hx hb dX10_solve_238 ?_
      refine lv_iload_n hx hb dX10_solve_240 rfl (lv_at hl 2 rfl) ?_
      refine pw_iadd hx hb dX10_solve_241 ?_
      refine pw_asi (((68 + n : Nat) : Int)) (by omega) ?_
      refine pw_callVv (As := [.int (iI (((42 + n : Nat) : Int))), .int (iI (((68 + n : Nat) : Int)))]) (rest := []) ⟨hx, hb, hml, hown, hts⟩ (r_copy l D E r0 (oV 0 σ 1 (j : Int) co) f g h (42 + n) (68 + n) (v1 (42 + n)) (by omega) (by omega) (by omega) (num_at (hN (42 + n) (by omega)) h42)) (cwV 2 hts gX10_solve_X10_copy rfl rfl rfl (by decide +kernel) ⟨Nat.le_of_ble_eq_true rfl, Nat.le_of_ble_eq_true rfl⟩) hK hO rfl ⟨hO, hf, hg, hh⟩ rfl hl.1 rfl (Nat.le_of_ble_eq_true rfl) dX10_solve_242 ⟨Nat.zero_le _, Nat.zero_le _⟩ hS (fun q h => by (try dsimp only at h); (try dsimp only); omega) (fun H1 locs1 ⟨f, g, h, ⟨hf, hg, hh⟩, hn1, ho1⟩ hz1 hk1 hS => ?_)
      have hO := hO.k (hk1 _ hO.lt (by (try dsimp only); omega))
      have hC := hC.k (hk1 _ hC.lt (by (try dsimp only); omega))
      have hU := hU.k (hk1 _ hU.lt (by (try dsimp only); omega))
      have hDn := hDn.k (hk1 _ hDn.lt (by (try dsimp only); omega))
      have hW := hW.k (hk1 _ hW.lt (by (try dsimp only); omega))
      have hBs := hBs.k (hk1 _ hBs.lt (by (try dsimp only); omega))
      have hCh := hCh.k (hk1 _ hCh.lt (by (try dsimp only); omega))
      have hNx := hNx.k (hk1 _ hNx.lt (by (try dsimp only); omega))
      have hP := hP.k (hk1 _ hP.lt (by (try dsimp only); omega))
      have hOw := hOw.k (hk1 _ hOw.lt (by (try dsimp only); omega))
      have hTg := hTg.k (hk1 _ hTg.lt (by (try dsimp only); omega))
      obtain ⟨vs, hva0, hvo, hN⟩ := bn_np hN hn1 ho1
      clear hn1 ho1
      have hq68 : ∀ q, q < n → vs (68 + q) = v1 (42 + q) := fun q hq => (hvo _ (by omega)).trans (hq68 q hq)
      have hvc : ∀ c, c < 68 → vs (c) = v1 c := fun c hq => (hvo _ (by omega)).trans (hvc c hq)
      have h68 : vs (68 + n) = v1 (42 + n) := hva0
      clear hva0 hvo
      refine lv_iinc (v := iI (((n + 1 : Nat) : Int))) (lv' := [(2, .int (iI (((n + 1 : Nat) : Int)))), (0, .ref (r0)), (1, .int (iI (0)))]) hx hb dX10_solve_245 hl (k := 2) rfl (by show iI _ + iI _ = _; exact (iI_add _ _).trans (by first | rfl | (congr 1; omega))) (by decide) rfl (fun ls hl => ?_)
      refine lv_goto (tgt := 225) hx hb dX10_solve_248 (by decide) ?_
      exact ih (n + 1) vs f g h _ _ _ (by omega) (fun q hq2 => by
        by_cases e : q = n
        · rw [e]; exact h68
        · exact hq68 q (by omega)) hvc hO hC hU hDn hW hBs hCh hNx hf hg hh hN hP hOw hTg hS (lv_sub hl [1, 2, 0] rfl)
  have fin : ∀ (j : Nat) (co : Int) (bst ch nx v1 : Nat → Int) (H : Heap) (locs : List Loc) (ls : Array Slot), rdy σ → 0 < j → j ≤ 4096 → RVal mx bw σ (fun s => (bst s).toNat) v1 → (∀ v b, PV σ (fun s => (bst s).toNat) v b → SOL σ j bst v b) → OA D r0 10 [.int (iI (0)), .int (iI ((mN σ : Int))), .ref (r0 + 1), .ref (r0 + 2), .ref (r0 + 3), .ref (r0 + 4), .int (iI ((mA σ : Int))), .int (iI ((mB σ : Int))), .int (iI (so)), .int (iI ((j : Int))), .ref (r0 + 5), .ref (r0 + 6), .ref (r0 + 7), .ref (r0 + 8), .ref (r0 + 9), .ref (r0 + 10), .ref (r0 + 11), .ref (r0 + 12), .ref (r0 + 13), .int (iI (co))] H → IA E (r0 + 1) 6 (fun s => (mC σ s : Int)) H → IA E (r0 + 2) 24 gU H → IA E (r0 + 3) 24 gD H → IA E (r0 + 4) 144 gW H → IA E (r0 + 5) 6 bst H → IA E (r0 + 6) 6 ch H → IA E (r0 + 7) 6 nx H → BN E r0 v1 H → IA E (r0 + 11) 30 prm H → IA E (r0 + 12) 30 ow H → IA E (r0 + 13) 30 tg H → va_S (fun q => r0 ≤ q ∧ q ≤ r0 + 13) s.heap H locs → lv_has ls 5 [(0, .ref (r0)), (1, .int (iI (0)))] → W p l e ({ frames := 5, cells := 0, slots := 0, locals := 129 } : Room) s m args below meth c H locs (0) (0) (MQ below (pw_Q rvI (fun z H => (¬ rdy σ ∧ z = -1 ∧ RPO D E r0 σ rn H) ∨ (rdy σ ∧ ∃ r : Nat, z = (r : Int) ∧ 0 < r ∧ RPO D E r0 σ (r : Int) H)) (fun q => r0 ≤ q ∧ q ≤ r0 + 13)) args s (0) (0) (fun q => r0 ≤ q ∧ q ≤ r0 + 13)) (F0 m 44 ls []) := by
    intro j co bst ch nx v1 H locs ls hrd hj0 hj1 hRV hSOL hO hC hU hDn hW hBs hCh hNx hB hP hOw hTg hS hl
    refine lv_iload_n hx hb dX10_solve_44 rfl (lv_at hl 1 rfl) ?_
    refine pw_if_eq (tgt := 218) hx hb dX10_solve_45 (by decide) (fun c_45 => ?_) (fun c_45 => absurd c_45 (by omega))
    refine lv_aload_n hx hb dX10_solve_218 rfl (lv_at hl 0 rfl) ?_
    refine pw_iconst hx hb dX10_solve_219 ?_
    refine pw_put (C := RX10) (T := TX10) (N := 20) hx hb hts hin10 tyX10 tyX10_ok nmX10 hown hK hO hS (by (try dsimp only); omega) rfl 8 (by decide) lk_96 rfl rfl rfl rfl (by show _ < 20; decide) dX10_solve_220 (fun H1 locs1 hnew hz1 oq hS => ?_)
    have hC := hC.k (oq _ (by omega))
    have hU := hU.k (oq _ (by omega))
    have hDn := hDn.k (oq _ (by omega))
    have hW := hW.k (oq _ (by omega))
    have hBs := hBs.k (oq _ (by omega))
    have hCh := hCh.k (oq _ (by omega))
    have hNx := hNx.k (oq _ (by omega))
    have hB := hB.k (fun q h1 h2 h3 => (oq _ (by omega)))
    have hP := hP.k (oq _ (by omega))
    have hOw := hOw.k (oq _ (by omega))
    have hTg := hTg.k (oq _ (by omega))
    have hO : OA D (r0) 10 [.int (iI (0)), .int (iI ((mN σ : Int))), .ref (r0 + 1), .ref (r0 + 2), .ref (r0 + 3), .ref (r0 + 4), .int (iI ((mA σ : Int))), .int (iI ((mB σ : Int))), .int (iI (1)), .int (iI ((j : Int))), .ref (r0 + 5), .ref (r0 + 6), .ref (r0 + 7), .ref (r0 + 8), .ref (r0 + 9), .ref (r0 + 10), .ref (r0 + 11), .ref (r0 + 12), .ref (r0 + 13), .int (iI (co))] H1 := hnew
    clear hnew oq hz1
    obtain ⟨f, g, h, ⟨hf, hg, hh⟩, hN⟩ := hB
    refine pw_iconst hx hb dX10_solve_223 ?_
    refine lv_istore_n (lv' := [(2, .int (iI (0))), (0, .ref (r0)), (1, .int (iI (0)))]) hx hb dX10_solve_224 rfl hl (by decide) rfl (fun ls hl => ?_)
    exact fin2 j co bst ch nx v1 hrd hj0 hj1 hRV hSOL (mN σ) 0 v1 f g h _ _ _ (by omega) (fun q hq => by omega) (fun _ _ => rfl) hO hC hU hDn hW hBs hCh hNx hf hg hh hN hP hOw hTg hS (lv_sub hl [1, 2, 0] rfl)
  have loop : ∀ (kk j : Nat) (sq : Nat → Nat → Nat) (co : Int) (bst ch nx vs : Nat → Int) (H : Heap) (locs : List Loc) (ls : Array Slot), rdy σ → j + kk = 4096 → seqOK σ sq j → (∀ i, i < j → chg σ sq i) → (∀ s, s < mN σ → ch s = (sq j s : Int)) → OA D r0 10 [.int (iI (0)), .int (iI ((mN σ : Int))), .ref (r0 + 1), .ref (r0 + 2), .ref (r0 + 3), .ref (r0 + 4), .int (iI ((mA σ : Int))), .int (iI ((mB σ : Int))), .int (iI (so)), .int (iI ((j : Int))), .ref (r0 + 5), .ref (r0 + 6), .ref (r0 + 7), .ref (r0 + 8), .ref (r0 + 9), .ref (r0 + 10), .ref (r0 + 11), .ref (r0 + 12), .ref (r0 + 13), .int (iI (co))] H → IA E (r0 + 1) 6 (fun s => (mC σ s : Int)) H → IA E (r0 + 2) 24 gU H → IA E (r0 + 3) 24 gD H → IA E (r0 + 4) 144 gW H → IA E (r0 + 5) 6 bst H → IA E (r0 + 6) 6 ch H → IA E (r0 + 7) 6 nx H → BN E r0 vs H → IA E (r0 + 11) 30 prm H → IA E (r0 + 12) 30 ow H → IA E (r0 + 13) 30 tg H → va_S (fun q => r0 ≤ q ∧ q ≤ r0 + 13) s.heap H locs → lv_has ls 5 [(0, .ref (r0)), (1, .int (iI (1)))] → W p l e ({ frames := 5, cells := 0, slots := 0, locals := 129 } : Room) s m args below meth c H locs (0) (0) (MQ below (pw_Q rvI (fun z H => (¬ rdy σ ∧ z = -1 ∧ RPO D E r0 σ rn H) ∨ (rdy σ ∧ ∃ r : Nat, z = (r : Int) ∧ 0 < r ∧ RPO D E r0 σ (r : Int) H)) (fun q => r0 ≤ q ∧ q ≤ r0 + 13)) args s (0) (0) (fun q => r0 ≤ q ∧ q ≤ r0 + 13)) (F0 m 44 ls []) := by
    intro kk
    induction kk with
    | zero =>
      intro j sq co bst ch nx vs H locs ls hrd hj hsq hch
      have := rounds_lt hok hrd hsq hch
      exact absurd hj (by omega)
    | succ kk ih =>
      intro j sq co bst ch nx vs H locs ls hrd hj hsq hch hg0 hO hC hU hDn hW hBs hCh hNx hB hP hOw hTg hS hl
      have hj4 := rounds_lt hok hrd hsq hch
      have hlt := seq_lt hrd hsq j (Nat.le_refl j)
      have loop3 : ∀ (cm : Int) (nx vs vs2 : Nat → Int) (bt : Int), RVal mx bw σ (sq j) vs2 → vs 54 = vs2 54 → (∀ s, s < mN σ → vs (42 + s) = vs2 (42 + s)) → (∀ q, q < mN σ → nx q = (npol σ (sq j) (fun t => vs2 (42 + t)) (vs2 54) q : Int)) → (bt = 0 ∨ bt = 1) → (bt = 0 ↔ ∀ q, q < mN σ → npol σ (sq j) (fun t => vs2 (42 + t)) (vs2 54) q = sq j q) → ∀ (mm n : Nat) (bst ch : Nat → Int) (H : Heap) (locs : List Loc) (ls : Array Slot), n + mm = mN σ → (∀ q, q < n → bst q = (sq j q : Int) ∧ ch q = (npol σ (sq j) (fun t => vs2 (42 + t)) (vs2 54) q : Int)) → (∀ q, n ≤ q ∧ q < mN σ → ch q = (sq j q : Int)) → OA D r0 10 [.int (iI (0)), .int (iI ((mN σ : Int))), .ref (r0 + 1), .ref (r0 + 2), .ref (r0 + 3), .ref (r0 + 4), .int (iI ((mA σ : Int))), .int (iI ((mB σ : Int))), .int (iI (so)), .int (iI (((j + 1 : Nat) : Int))), .ref (r0 + 5), .ref (r0 + 6), .ref (r0 + 7), .ref (r0 + 8), .ref (r0 + 9), .ref (r0 + 10), .ref (r0 + 11), .ref (r0 + 12), .ref (r0 + 13), .int (iI (cm))] H → IA E (r0 + 1) 6 (fun s => (mC σ s : Int)) H → IA E (r0 + 2) 24 gU H → IA E (r0 + 3) 24 gD H → IA E (r0 + 4) 144 gW H → IA E (r0 + 5) 6 bst H → IA E (r0 + 6) 6 ch H → IA E (r0 + 7) 6 nx H → BN E r0 vs H → IA E (r0 + 11) 30 prm H → IA E (r0 + 12) 30 ow H → IA E (r0 + 13) 30 tg H → va_S (fun q => r0 ≤ q ∧ q ≤ r0 + 13) s.heap H locs → lv_has ls 5 [(0, .ref (r0)), (1, .int (iI (bt))), (2, .int (iI ((n : Int))))] → W p l e ({ frames := 5, cells := 0, slots := 0, locals := 129 } : Room) s m args below meth c H locs (0) (0) (MQ below (pw_Q rvI (fun z H => (¬ rdy σ ∧ z = -1 ∧ RPO D E r0 σ rn H) ∨ (rdy σ ∧ ∃ r : Nat, z = (r : Int) ∧ 0 < r ∧ RPO D E r0 σ (r : Int) H)) (fun q => r0 ≤ q ∧ q ≤ r0 + 13)) args s (0) (0) (fun q => r0 ≤ q ∧ q ≤ r0 + 13)) (F0 m 177 ls []) := by
        intro cm nx vs vs2 bt hRV e54 e42 hnx hbt hbi mm
        induction mm with
        | zero =>
          intro n bst ch H locs ls hn hd hu hO hC hU hDn hW hBs hCh hNx hB hP hOw hTg hS hl
          have en : n = mN σ := by omega
          subst en
          have hRV' := hRV
          obtain ⟨y1, y2, y3, v, b, y4, y5⟩ := hRV
          have hnp : ∀ s, s < mN σ → npol σ (sq j) v b s = npol σ (sq j) (fun t => vs2 (42 + t)) (vs2 54) s := fun s hs => gpick_prop y4.1 y1 y5 _
          obtain ⟨sn1, sn2, sn3⟩ := seq_next hsq y4
          have hbs : ∀ s, s < mN σ → (bst s).toNat = sq j s := fun s hs => by rw [(hd s hs).1]; rfl
          refine lv_iload_n hx hb dX10_solve_177 rfl (lv_at hl 2 rfl) ?_
          refine lv_aload_n hx hb dX10_solve_178 rfl (lv_at hl 0 rfl) ?_
          refine pw_get (C := RX10) (T := TX10) (N := 20) hx hb hts hin10 hown hK hO rfl 1 (by decide) lk_103 rfl rfl dX10_solve_179 ?_
          refine pw_icmp_ge (tgt := 215) hx hb dX10_solve_182 (by decide) (fun c_182 => ?_) (fun c_182 => absurd c_182 (by omega))
          refine lv_goto (tgt := 44) hx hb dX10_solve_215 (by decide) ?_
          rcases hbt with hz | hz
          · subst hz
            have hl : lv_has ls 5 [(0, .ref (r0)), (1, .int (iI (0)))] := lv_sub hl [0, 1] rfl
            have hno := hbi.mp rfl
            refine fin (j + 1) cm bst ch nx vs _ _ _ hrd (by omega) (by omega) (rv_eq (rv_pi hRV' hbs) e54 e42) (fun v1 b1 hp1 => ⟨(fun i => if i = j + 1 then npol σ (sq j) v b else sq i), sn1, by omega, fun i hi => (sn2 i (by omega)).mpr (hch i (by omega)), fun hc => ?_, fun s hs => ?_, ?_⟩) hO hC hU hDn hW hBs hCh hNx hB hP hOw hTg hS hl
            · obtain ⟨s1, hs1, hne⟩ := sn3.mp hc
              exact hne ((hnp s1 hs1).trans (hno s1 hs1))
            · show bst s = (((if j + 1 = j + 1 then npol σ (sq j) v b else sq (j + 1)) s : Nat) : Int)
              rw [if_pos rfl, (hd s hs).1, hnp s hs, hno s hs]
            · refine pv_congr hp1 (fun s hs => ?_)
              show (bst s).toNat = (if j + 1 = j + 1 then npol σ (sq j) v b else sq (j + 1)) s
              rw [if_pos rfl, hbs s hs, hnp s hs, hno s hs]
          · subst hz
            have hl : lv_has ls 5 [(0, .ref (r0)), (1, .int (iI (1)))] := lv_sub hl [0, 1] rfl
            refine ih (j + 1) (fun i => if i = j + 1 then npol σ (sq j) v b else sq i) cm bst ch nx vs _ _ _ hrd (by omega) sn1 (fun i hi => ?_) (fun s hs => ?_) hO hC hU hDn hW hBs hCh hNx hB hP hOw hTg hS hl
            · by_cases e : i = j
              · subst e
                refine sn3.mpr ?_
                rcases Classical.em (∃ s, s < mN σ ∧ npol σ (sq i) v b s ≠ sq i s) with h9 | h9
                · exact h9
                · exfalso
                  have h8 : (1 : Int) = 0 := hbi.mpr (fun s hs => by rw [← hnp s hs]; exact Classical.byContradiction (fun h7 => h9 ⟨s, hs, h7⟩))
                  omega
              · exact (sn2 i (by omega)).mpr (hch i (by omega))
            · show ch s = (((if j + 1 = j + 1 then npol σ (sq j) v b else sq (j + 1)) s : Nat) : Int)
              rw [if_pos rfl, (hd s hs).2, hnp s hs]
        | succ mm ih2 =>
          intro n bst ch H locs ls hn hd hu hO hC hU hDn hW hBs hCh hNx hB hP hOw hTg hS hl
          refine lv_iload_n hx hb dX10_solve_177 rfl (lv_at hl 2 rfl) ?_
          refine lv_aload_n hx hb dX10_solve_178 rfl (lv_at hl 0 rfl) ?_
          refine pw_get (C := RX10) (T := TX10) (N := 20) hx hb hts hin10 hown hK hO rfl 1 (by decide) lk_103 rfl rfl dX10_solve_179 ?_
          refine pw_icmp_ge (tgt := 215) hx hb dX10_solve_182 (by decide) (fun c_182 => absurd c_182 (by omega)) (fun c_182 => ?_)
          refine lv_aload_n hx hb dX10_solve_185 rfl (lv_at hl 0 rfl) ?_
          refine pw_get (C := RX10) (T := TX10) (N := 20) hx hb hts hin10 hown hK hO rfl 10 (by decide) lk_29 rfl rfl dX10_solve_186 ?_
          refine lv_iload_n hx hb dX10_solve_189 rfl (lv_at hl 2 rfl) ?_
          refine lv_aload_n hx hb dX10_solve_190 rfl (lv_at hl 0 rfl) ?_
          refine pw_get (C := RX10) (T := TX10) (N := 20) hx hb hts hin10 hown hK hO rfl 11 (by decide) lk_32 rfl rfl dX10_solve_191 ?_
          refine lv_iload_n hx hb dX10_solve_194 rfl (lv_at hl 2 rfl) ?_
          refine pw_iald hx hb hK hCh (n) rfl (by omega) (by omega) dX10_solve_195 ?_
          refine pw_asi ((sq j n : Int)) (hu n ⟨Nat.le_refl n, by omega⟩) ?_
          refine pw_iast hx hb hK hBs hS (by (try dsimp only); omega) (n) rfl (by omega) (by omega) dX10_solve_196 (fun H1 locs1 hnew hz1 oq hS => ?_)
          have hO := hO.k (oq _ (by omega))
          have hC := hC.k (oq _ (by omega))
          have hU := hU.k (oq _ (by omega))
          have hDn := hDn.k (oq _ (by omega))
          have hW := hW.k (oq _ (by omega))
          have hCh := hCh.k (oq _ (by omega))
          have hNx := hNx.k (oq _ (by omega))
          have hB := hB.k (fun q h1 h2 h3 => (oq _ (by omega)))
          have hP := hP.k (oq _ (by omega))
          have hOw := hOw.k (oq _ (by omega))
          have hTg := hTg.k (oq _ (by omega))
          have hBs := hnew
          clear hnew oq hz1
          refine lv_aload_n hx hb dX10_solve_197 rfl (lv_at hl 0 rfl) ?_
          refine pw_get (C := RX10) (T := TX10) (N := 20) hx hb hts hin10 hown hK hO rfl 11 (by decide) lk_32 rfl rfl dX10_solve_198 ?_
          refine lv_iload_n hx hb dX10_solve_201 rfl (lv_at hl 2 rfl) ?_
          refine lv_aload_n hx hb dX10_solve_202 rfl (lv_at hl 0 rfl) ?_
          refine pw_get (C := RX10) (T := TX10) (N := 20) hx hb hts hin10 hown hK hO rfl 12 (by decide) lk_35 rfl rfl dX10_solve_203 ?_
          refine lv_iload_n hx hb dX10_solve_206 rfl (lv_at hl 2 rfl) ?_
          refine pw_iald hx hb hK hNx (n) rfl (by omega) (by omega) dX10_solve_207 ?_
          refine pw_asi ((npol σ (sq j) (fun t => vs2 (42 + t)) (vs2 54) n : Int)) (hnx n (by omega)) ?_
          refine pw_iast hx hb hK hCh hS (by (try dsimp only); omega) (n) rfl (by omega) (by omega) dX10_solve_208 (fun H1 locs1 hnew hz1 oq hS => ?_)
          have hO := hO.k (oq _ (by omega))
          have hC := hC.k (oq _ (by omega))
          have hU := hU.k (oq _ (by omega))
          have hDn := hDn.k (oq _ (by omega))
          have hW := hW.k (oq _ (by omega))
          have hBs := hBs.k (oq _ (by omega))
          have hNx := hNx.k (oq _ (by omega))
          have hB := hB.k (fun q h1 h2 h3 => (oq _ (by omega)))
          have hP := hP.k (oq _ (by omega))
          have hOw := hOw.k (oq _ (by omega))
          have hTg := hTg.k (oq _ (by omega))
          have hCh := hnew
          clear hnew oq hz1
          refine lv_iinc (v := iI (((n + 1 : Nat) : Int))) (lv' := [(2, .int (iI (((n + 1 : Nat) : Int)))), (0, .ref (r0)), (1, .int (iI (bt)))]) hx hb dX10_solve_209 hl (k := 2) rfl (by show iI _ + iI _ = _; exact (iI_add _ _).trans (by first | rfl | (congr 1; omega))) (by decide) rfl (fun ls hl => ?_)
          refine lv_goto (tgt := 177) hx hb dX10_solve_212 (by decide) ?_
          exact ih2 (n + 1) _ _ _ _ _ (by omega) (fun q hq => by
            unfold ud
            by_cases e : q = n
            · subst e; rw [if_pos rfl, if_pos rfl]; exact ⟨rfl, rfl⟩
            · rw [if_neg e, if_neg e]; exact hd q (by omega)) (fun q hq => by
            unfold ud
            rw [if_neg (by omega)]
            exact hu q ⟨by omega, hq.2⟩) hO hC hU hDn hW hBs hCh hNx hB hP hOw hTg hS (lv_sub hl [1, 2, 0] rfl)
      have loop2 : ∀ (cm : Int) (vs2 : Nat → Int), RVal mx bw σ (sq j) vs2 → ∀ (mm n : Nat) (bt : Int) (nx vs : Nat → Int) (H : Heap) (locs : List Loc) (ls : Array Slot), n + mm = mN σ → (∀ c, c < 49 ∨ 51 < c → vs (c) = vs2 c) → (∀ q, q < n → nx q = (npol σ (sq j) (fun t => vs2 (42 + t)) (vs2 54) q : Int)) → (bt = 0 ∨ bt = 1) → (bt = 0 ↔ ∀ q, q < n → npol σ (sq j) (fun t => vs2 (42 + t)) (vs2 54) q = sq j q) → OA D r0 10 [.int (iI (0)), .int (iI ((mN σ : Int))), .ref (r0 + 1), .ref (r0 + 2), .ref (r0 + 3), .ref (r0 + 4), .int (iI ((mA σ : Int))), .int (iI ((mB σ : Int))), .int (iI (so)), .int (iI (((j + 1 : Nat) : Int))), .ref (r0 + 5), .ref (r0 + 6), .ref (r0 + 7), .ref (r0 + 8), .ref (r0 + 9), .ref (r0 + 10), .ref (r0 + 11), .ref (r0 + 12), .ref (r0 + 13), .int (iI (cm))] H → IA E (r0 + 1) 6 (fun s => (mC σ s : Int)) H → IA E (r0 + 2) 24 gU H → IA E (r0 + 3) 24 gD H → IA E (r0 + 4) 144 gW H → IA E (r0 + 5) 6 bst H → IA E (r0 + 6) 6 ch H → IA E (r0 + 7) 6 nx H → BN E r0 vs H → IA E (r0 + 11) 30 prm H → IA E (r0 + 12) 30 ow H → IA E (r0 + 13) 30 tg H → va_S (fun q => r0 ≤ q ∧ q ≤ r0 + 13) s.heap H locs → lv_has ls 5 [(0, .ref (r0)), (1, .int (iI (bt))), (2, .int (iI ((n : Int))))] → W p l e ({ frames := 5, cells := 0, slots := 0, locals := 129 } : Room) s m args below meth c H locs (0) (0) (MQ below (pw_Q rvI (fun z H => (¬ rdy σ ∧ z = -1 ∧ RPO D E r0 σ rn H) ∨ (rdy σ ∧ ∃ r : Nat, z = (r : Int) ∧ 0 < r ∧ RPO D E r0 σ (r : Int) H)) (fun q => r0 ≤ q ∧ q ≤ r0 + 13)) args s (0) (0) (fun q => r0 ≤ q ∧ q ≤ r0 + 13)) (F0 m 72 ls []) := by
        intro cm vs2 hRV mm
        induction mm with
        | zero =>
          intro n bt nx vs H locs ls hn hvc hnx hbt hbi hO hC hU hDn hW hBs hCh hNx hB hP hOw hTg hS hl
          have en : n = mN σ := by omega
          subst en
          refine lv_iload_n hx hb dX10_solve_72 rfl (lv_at hl 2 rfl) ?_
          refine lv_aload_n hx hb dX10_solve_73 rfl (lv_at hl 0 rfl) ?_
          refine pw_get (C := RX10) (T := TX10) (N := 20) hx hb hts hin10 hown hK hO rfl 1 (by decide) lk_103 rfl rfl dX10_solve_74 ?_
          refine pw_icmp_ge (tgt := 175) hx hb dX10_solve_77 (by decide) (fun c_77 => ?_) (fun c_77 => absurd c_77 (by omega))
          refine pw_iconst hx hb dX10_solve_175 ?_
          refine lv_istore_n (lv' := [(2, .int (iI (0))), (0, .ref (r0)), (1, .int (iI (bt)))]) hx hb dX10_solve_176 rfl hl (by decide) rfl (fun ls hl => ?_)
          exact loop3 cm nx vs vs2 bt hRV (hvc 54 (by omega)) (fun s hs => hvc _ (by omega)) hnx hbt hbi (mN σ) 0 bst ch _ _ _ (by omega) (fun q hq => by omega) (fun q hq => hg0 q hq.2) hO hC hU hDn hW hBs hCh hNx hB hP hOw hTg hS (lv_sub hl [1, 2, 0] rfl)
        | succ mm ih2 =>
          intro n bt nx vs H locs ls hn hvc hnx hbt hbi hO hC hU hDn hW hBs hCh hNx hB hP hOw hTg hS hl
          have hcn := (hrd.2 n (by omega)).1
          have hc4 := hC4 n (by omega)
          have hln := hlt n (by omega)
          obtain ⟨nr1, nr2⟩ := np_ref (v := (fun t => vs2 (42 + t))) (b := (vs2 54)) hok hrd (show n < mN σ by omega) hln
          have hgl := gpick_lt (σ := σ) (st := n) (v := (fun t => vs2 (42 + t))) (b := (vs2 54)) hcn _ (Nat.le_refl _)
          have hev : gnum_vs σ vs vs2 42 54 := ⟨fun t ht => hvc _ (by omega), hvc _ (by omega)⟩
          have hgn := hg0 n (by omega)
          refine lv_iload_n hx hb dX10_solve_72 rfl (lv_at hl 2 rfl) ?_
          refine lv_aload_n hx hb dX10_solve_73 rfl (lv_at hl 0 rfl) ?_
          refine pw_get (C := RX10) (T := TX10) (N := 20) hx hb hts hin10 hown hK hO rfl 1 (by decide) lk_103 rfl rfl dX10_solve_74 ?_
          refine pw_icmp_ge (tgt := 175) hx hb dX10_solve_77 (by decide) (fun c_77 => absurd c_77 (by omega)) (fun c_77 => ?_)
          refine lv_aload_n hx hb dX10_solve_80 rfl (lv_at hl 0 rfl) ?_
          refine lv_iload_n hx hb dX10_solve_81 rfl (lv_at hl 2 rfl) ?_
          refine pw_bipush hx hb dX10_solve_82 ?_
          refine pw_bipush hx hb dX10_solve_84 ?_
          refine pw_callVi (As := [.int (iI ((n : Int))), .int (iI (42)), .int (iI (54))]) (rest := []) ⟨hx, hb, hml, hown, hts⟩ (r_greatest l D E r0 σ 0 so ((j + 1 : Nat) : Int) cm gU gD gW vs n 42 54 mx (by omega) hcn hm (by omega) (by omega) hok (by omega) (by omega) (by omega) (by omega) (fun t ht => by rw [hvc _ (by omega)]; have := hRV.2.2.1 t ht; omega) (by rw [hvc 54 (by omega)]; exact hRV.2.1) x1) (cwV 3 hts gX10_solve_X10_greatest rfl rfl rfl (by decide +kernel) ⟨Nat.le_of_ble_eq_true rfl, Nat.le_of_ble_eq_true rfl⟩) hK hO rfl ⟨hO, hU, hDn, hW, hC, hB⟩ rfl hl.1 rfl (Nat.le_of_ble_eq_true rfl) dX10_solve_86 ⟨Nat.zero_le _, Nat.zero_le _⟩ hS (fun q h => by (try dsimp only at h); (try dsimp only); omega) (fun zg H1 locs1 ⟨hzg, vs1, hB, hvo⟩ hz1 hk1 hS => ?_)
          have hO := hO.k (hk1 _ hO.lt (by (try dsimp only); omega))
          have hC := hC.k (hk1 _ hC.lt (by (try dsimp only); omega))
          have hU := hU.k (hk1 _ hU.lt (by (try dsimp only); omega))
          have hDn := hDn.k (hk1 _ hDn.lt (by (try dsimp only); omega))
          have hW := hW.k (hk1 _ hW.lt (by (try dsimp only); omega))
          have hBs := hBs.k (hk1 _ hBs.lt (by (try dsimp only); omega))
          have hCh := hCh.k (hk1 _ hCh.lt (by (try dsimp only); omega))
          have hNx := hNx.k (hk1 _ hNx.lt (by (try dsimp only); omega))
          have hP := hP.k (hk1 _ hP.lt (by (try dsimp only); omega))
          have hOw := hOw.k (hk1 _ hOw.lt (by (try dsimp only); omega))
          have hTg := hTg.k (hk1 _ hTg.lt (by (try dsimp only); omega))
          rw [gpick_vs hev] at hzg
          subst hzg
          have hvc : ∀ c, c < 49 ∨ 51 < c → vs1 (c) = vs2 c := fun c hc => (hvo c hc).trans (hvc c hc)
          clear hvo hev
          have hev : gnum_vs σ vs1 vs2 42 54 := ⟨fun t ht => hvc _ (by omega), hvc _ (by omega)⟩
          refine lv_istore_n (lv' := [(3, .int (iI (((gpick σ n 0 (fun t => vs2 (42 + t)) (vs2 54) (mC σ n)) : Int)))), (0, .ref (r0)), (1, .int (iI (bt))), (2, .int (iI ((n : Int))))]) hx hb dX10_solve_89 rfl hl (by decide) rfl (fun ls hl => ?_)
          refine lv_iload_n hx hb dX10_solve_90 rfl (lv_at hl 0 rfl) ?_
          refine lv_aload_n hx hb dX10_solve_91 rfl (lv_at hl 1 rfl) ?_
          refine pw_get (C := RX10) (T := TX10) (N := 20) hx hb hts hin10 hown hK hO rfl 11 (by decide) lk_32 rfl rfl dX10_solve_92 ?_
          refine lv_iload_n hx hb dX10_solve_95 rfl (lv_at hl 3 rfl) ?_
          refine pw_iald hx hb hK hCh (n) rfl (by omega) (by omega) dX10_solve_96 ?_
          refine pw_asi ((sq j n : Int)) hgn ?_
          refine pw_icmp_eq (tgt := 126) hx hb dX10_solve_97 (by decide) (fun c_97 => ?_) (fun c_97 => ?_)
          · have hnp : npol σ (sq j) (fun t => vs2 (42 + t)) (vs2 54) n = sq j n := nr1 (Or.inl (by omega))
            refine pw_iconst hx hb dX10_solve_126 ?_
            refine lv_goto (tgt := 131) hx hb dX10_solve_127 (by decide) ?_
            refine lv_istore (lv' := [(4, .int (iI (1))), (3, .int (iI (((gpick σ n 0 (fun t => vs2 (42 + t)) (vs2 54) (mC σ n)) : Int)))), (0, .ref (r0)), (1, .int (iI (bt))), (2, .int (iI ((n : Int))))]) hx hb dX10_solve_131 hl (by decide) rfl (fun ls hl => ?_)
            refine lv_aload_n hx hb dX10_solve_133 rfl (lv_at hl 2 rfl) ?_
            refine pw_get (C := RX10) (T := TX10) (N := 20) hx hb hts hin10 hown hK hO rfl 12 (by decide) lk_35 rfl rfl dX10_solve_134 ?_
            refine lv_iload_n hx hb dX10_solve_137 rfl (lv_at hl 4 rfl) ?_
            refine lv_iload hx hb dX10_solve_138 (lv_at hl 0 rfl) ?_
            refine pw_if_eq (tgt := 152) hx hb dX10_solve_140 (by decide) (fun c_140 => absurd c_140 (by omega)) (fun c_140 => ?_)
            refine lv_aload_n hx hb dX10_solve_143 rfl (lv_at hl 2 rfl) ?_
            refine pw_get (C := RX10) (T := TX10) (N := 20) hx hb hts hin10 hown hK hO rfl 11 (by decide) lk_32 rfl rfl dX10_solve_144 ?_
            refine lv_iload_n hx hb dX10_solve_147 rfl (lv_at hl 4 rfl) ?_
            refine pw_iald hx hb hK hCh (n) rfl (by omega) (by omega) dX10_solve_148 ?_
            refine pw_asi ((sq j n : Int)) hgn ?_
            refine lv_goto (tgt := 153) hx hb dX10_solve_149 (by decide) ?_
            refine pw_iast hx hb hK hNx hS (by (try dsimp only); omega) (n) rfl (by omega) (by omega) dX10_solve_153 (fun H1 locs1 hnew hz1 oq hS => ?_)
            have hO := hO.k (oq _ (by omega))
            have hC := hC.k (oq _ (by omega))
            have hU := hU.k (oq _ (by omega))
            have hDn := hDn.k (oq _ (by omega))
            have hW := hW.k (oq _ (by omega))
            have hBs := hBs.k (oq _ (by omega))
            have hCh := hCh.k (oq _ (by omega))
            have hB := hB.k (fun q h1 h2 h3 => (oq _ (by omega)))
            have hP := hP.k (oq _ (by omega))
            have hOw := hOw.k (oq _ (by omega))
            have hTg := hTg.k (oq _ (by omega))
            have hNx := hnew
            clear hnew oq hz1
            refine lv_iload_n hx hb dX10_solve_154 rfl (lv_at hl 3 rfl) ?_
            refine pw_if_ne (tgt := 163) hx hb dX10_solve_155 (by decide) (fun c_155 => ?_) (fun c_155 => ?_)
            · refine pw_iconst hx hb dX10_solve_163 ?_
              refine lv_goto (tgt := 168) hx hb dX10_solve_164 (by decide) ?_
              refine lv_istore_n (lv' := [(1, .int (iI (1))), (4, .int (iI (1))), (3, .int (iI (((gpick σ n 0 (fun t => vs2 (42 + t)) (vs2 54) (mC σ n)) : Int)))), (0, .ref (r0)), (2, .int (iI ((n : Int))))]) hx hb dX10_solve_168 rfl hl (by decide) rfl (fun ls hl => ?_)
              refine lv_iinc (v := iI (((n + 1 : Nat) : Int))) (lv' := [(2, .int (iI (((n + 1 : Nat) : Int)))), (1, .int (iI (1))), (4, .int (iI (1))), (3, .int (iI (((gpick σ n 0 (fun t => vs2 (42 + t)) (vs2 54) (mC σ n)) : Int)))), (0, .ref (r0))]) hx hb dX10_solve_169 hl (k := 4) rfl (by show iI _ + iI _ = _; exact (iI_add _ _).trans (by first | rfl | (congr 1; omega))) (by decide) rfl (fun ls hl => ?_)
              refine lv_goto (tgt := 72) hx hb dX10_solve_172 (by decide) ?_
              refine ih2 (n + 1) 1 _ vs1 _ _ _ (by omega) hvc (fun q hq => by
                unfold ud
                by_cases e : q = n
                · subst e; rw [if_pos rfl, hnp]
                · rw [if_neg e]; exact hnx q (by omega)) (by omega) ⟨fun h => ?_, fun h => ?_⟩ hO hC hU hDn hW hBs hCh hNx hB hP hOw hTg hS (lv_sub hl [4, 1, 0] rfl)
              · omega
              · have h7 : bt = 0 := hbi.mpr (fun q hq => h q (by omega))
                omega
            · refine lv_iload hx hb dX10_solve_158 (lv_at hl 0 rfl) ?_
              refine pw_if_ne (tgt := 167) hx hb dX10_solve_160 (by decide) (fun c_160 => ?_) (fun c_160 => absurd c_160 (by omega))
              refine pw_iconst hx hb dX10_solve_167 ?_
              refine lv_istore_n (lv' := [(1, .int (iI (0))), (4, .int (iI (1))), (3, .int (iI (((gpick σ n 0 (fun t => vs2 (42 + t)) (vs2 54) (mC σ n)) : Int)))), (0, .ref (r0)), (2, .int (iI ((n : Int))))]) hx hb dX10_solve_168 rfl hl (by decide) rfl (fun ls hl => ?_)
              refine lv_iinc (v := iI (((n + 1 : Nat) : Int))) (lv' := [(2, .int (iI (((n + 1 : Nat) : Int)))), (1, .int (iI (0))), (4, .int (iI (1))), (3, .int (iI (((gpick σ n 0 (fun t => vs2 (42 + t)) (vs2 54) (mC σ n)) : Int)))), (0, .ref (r0))]) hx hb dX10_solve_169 hl (k := 4) rfl (by show iI _ + iI _ = _; exact (iI_add _ _).trans (by first | rfl | (congr 1; omega))) (by decide) rfl (fun ls hl => ?_)
              refine lv_goto (tgt := 72) hx hb dX10_solve_172 (by decide) ?_
              refine ih2 (n + 1) 0 _ vs1 _ _ _ (by omega) hvc (fun q hq => by
                unfold ud
                by_cases e : q = n
                · subst e; rw [if_pos rfl, hnp]
                · rw [if_neg e]; exact hnx q (by omega)) (by omega) ⟨fun h => ?_, fun h => ?_⟩ hO hC hU hDn hW hBs hCh hNx hB hP hOw hTg hS (lv_sub hl [4, 1, 0] rfl)
              · intro q hq
                by_cases e : q = n
                · rw [e, hnp]
                · exact hbi.mp (by omega) q (by omega)
              · rfl
          · refine lv_aload_n hx hb dX10_solve_100 rfl (lv_at hl 1 rfl) ?_
            refine pw_iconst hx hb dX10_solve_101 ?_
            refine lv_iload_n hx hb dX10_solve_102 rfl (lv_at hl 3 rfl) ?_
            refine pw_imul hx hb dX10_solve_103 ?_
            refine lv_aload_n hx hb dX10_solve_104 rfl (lv_at hl 1 rfl) ?_
            refine pw_get (C := RX10) (T := TX10) (N := 20) hx hb hts hin10 hown hK hO rfl 11 (by decide) lk_32 rfl rfl dX10_solve_105 ?_
            refine lv_iload_n hx hb dX10_solve_108 rfl (lv_at hl 3 rfl) ?_
            refine pw_iald hx hb hK hCh (n) rfl (by omega) (by omega) dX10_solve_109 ?_
            refine pw_asi ((sq j n : Int)) hgn ?_
            refine pw_iadd hx hb dX10_solve_110 ?_
            refine pw_asi (((4 * n + sq j n : Nat) : Int)) (by omega) ?_
            refine pw_iconst hx hb dX10_solve_111 ?_
            refine lv_iload_n hx hb dX10_solve_112 rfl (lv_at hl 3 rfl) ?_
            refine pw_imul hx hb dX10_solve_113 ?_
            refine lv_iload_n hx hb dX10_solve_114 rfl (lv_at hl 0 rfl) ?_
            refine pw_iadd hx hb dX10_solve_115 ?_
            refine pw_asi (((4 * n + (gpick σ n 0 (fun t => vs2 (42 + t)) (vs2 54) (mC σ n)) : Nat) : Int)) (by omega) ?_
            refine pw_bipush hx hb dX10_solve_116 ?_
            refine pw_bipush hx hb dX10_solve_118 ?_
            refine pw_callVi (As := [.int (iI (((4 * n + sq j n : Nat) : Int))), .int (iI (((4 * n + (gpick σ n 0 (fun t => vs2 (42 + t)) (vs2 54) (mC σ n)) : Nat) : Int))), .int (iI (42)), .int (iI (54))]) (rest := []) ⟨hx, hb, hml, hown, hts⟩ (r_compareGains l D E r0 σ 0 so ((j + 1 : Nat) : Int) cm gU gD gW vs1 (4 * n + sq j n) (4 * n + (gpick σ n 0 (fun t => vs2 (42 + t)) (vs2 54) (mC σ n))) 42 54 mx (by omega) (by omega) (hm n _ (by omega) hln) (hm n _ (by omega) hgl) (by omega) (by omega) hok (by omega) (by omega) (by omega) (by omega) (fun t ht => by rw [hvc _ (by omega)]; have := hRV.2.2.1 t ht; omega) (by rw [hvc 54 (by omega)]; exact hRV.2.1) x1) (cwV 4 hts gX10_solve_X10_compareGains rfl rfl rfl (by decide +kernel) ⟨Nat.le_of_ble_eq_true rfl, Nat.le_of_ble_eq_true rfl⟩) hK hO rfl ⟨hO, hU, hDn, hW, hB⟩ rfl hl.1 rfl (Nat.le_of_ble_eq_true rfl) dX10_solve_120 ⟨Nat.zero_le _, Nat.zero_le _⟩ hS (fun q h => by (try dsimp only at h); (try dsimp only); omega) (fun zc H1 locs1 ⟨hzp, hz0, hzb, vs3, hB, hvo⟩ hz1 hk1 hS => ?_)
            have hO := hO.k (hk1 _ hO.lt (by (try dsimp only); omega))
            have hC := hC.k (hk1 _ hC.lt (by (try dsimp only); omega))
            have hU := hU.k (hk1 _ hU.lt (by (try dsimp only); omega))
            have hDn := hDn.k (hk1 _ hDn.lt (by (try dsimp only); omega))
            have hW := hW.k (hk1 _ hW.lt (by (try dsimp only); omega))
            have hBs := hBs.k (hk1 _ hBs.lt (by (try dsimp only); omega))
            have hCh := hCh.k (hk1 _ hCh.lt (by (try dsimp only); omega))
            have hNx := hNx.k (hk1 _ hNx.lt (by (try dsimp only); omega))
            have hP := hP.k (hk1 _ hP.lt (by (try dsimp only); omega))
            have hOw := hOw.k (hk1 _ hOw.lt (by (try dsimp only); omega))
            have hTg := hTg.k (hk1 _ hTg.lt (by (try dsimp only); omega))
            rw [hev.2, gnum_eq (v := fun t => vs1 (42 + t)) (v' := fun t => vs2 (42 + t)) hev.1, gnum_eq (v := fun t => vs1 (42 + t)) (v' := fun t => vs2 (42 + t)) hev.1] at hz0
            have hvc : ∀ c, c < 49 ∨ 51 < c → vs3 (c) = vs2 c := fun c hc => (hvo c hc).trans (hvc c hc)
            refine pw_if_ne (tgt := 130) hx hb dX10_solve_123 (by decide) (fun c_123 => ?_) (fun c_123 => ?_)
            · have hnp : npol σ (sq j) (fun t => vs2 (42 + t)) (vs2 54) n = (gpick σ n 0 (fun t => vs2 (42 + t)) (vs2 54) (mC σ n)) := nr2 (fun h => by have := hz0.mpr h; omega)
              have hne : ¬ ((gpick σ n 0 (fun t => vs2 (42 + t)) (vs2 54) (mC σ n)) = sq j n) := by omega
              refine pw_iconst hx hb dX10_solve_130 ?_
              refine lv_istore (lv' := [(4, .int (iI (0))), (3, .int (iI (((gpick σ n 0 (fun t => vs2 (42 + t)) (vs2 54) (mC σ n)) : Int)))), (0, .ref (r0)), (1, .int (iI (bt))), (2, .int (iI ((n : Int))))]) hx hb dX10_solve_131 hl (by decide) rfl (fun ls hl => ?_)
              refine lv_aload_n hx hb dX10_solve_133 rfl (lv_at hl 2 rfl) ?_
              refine pw_get (C := RX10) (T := TX10) (N := 20) hx hb hts hin10 hown hK hO rfl 12 (by decide) lk_35 rfl rfl dX10_solve_134 ?_
              refine lv_iload_n hx hb dX10_solve_137 rfl (lv_at hl 4 rfl) ?_
              refine lv_iload hx hb dX10_solve_138 (lv_at hl 0 rfl) ?_
              refine pw_if_eq (tgt := 152) hx hb dX10_solve_140 (by decide) (fun c_140 => ?_) (fun c_140 => absurd c_140 (by omega))
              refine lv_iload_n hx hb dX10_solve_152 rfl (lv_at hl 1 rfl) ?_
              refine pw_iast hx hb hK hNx hS (by (try dsimp only); omega) (n) rfl (by omega) (by omega) dX10_solve_153 (fun H1 locs1 hnew hz1 oq hS => ?_)
              have hO := hO.k (oq _ (by omega))
              have hC := hC.k (oq _ (by omega))
              have hU := hU.k (oq _ (by omega))
              have hDn := hDn.k (oq _ (by omega))
              have hW := hW.k (oq _ (by omega))
              have hBs := hBs.k (oq _ (by omega))
              have hCh := hCh.k (oq _ (by omega))
              have hB := hB.k (fun q h1 h2 h3 => (oq _ (by omega)))
              have hP := hP.k (oq _ (by omega))
              have hOw := hOw.k (oq _ (by omega))
              have hTg := hTg.k (oq _ (by omega))
              have hNx := hnew
              clear hnew oq hz1
              refine lv_iload_n hx hb dX10_solve_154 rfl (lv_at hl 3 rfl) ?_
              refine pw_if_ne (tgt := 163) hx hb dX10_solve_155 (by decide) (fun c_155 => ?_) (fun c_155 => ?_)
              · refine pw_iconst hx hb dX10_solve_163 ?_
                refine lv_goto (tgt := 168) hx hb dX10_solve_164 (by decide) ?_
                refine lv_istore_n (lv' := [(1, .int (iI (1))), (4, .int (iI (0))), (3, .int (iI (((gpick σ n 0 (fun t => vs2 (42 + t)) (vs2 54) (mC σ n)) : Int)))), (0, .ref (r0)), (2, .int (iI ((n : Int))))]) hx hb dX10_solve_168 rfl hl (by decide) rfl (fun ls hl => ?_)
                refine lv_iinc (v := iI (((n + 1 : Nat) : Int))) (lv' := [(2, .int (iI (((n + 1 : Nat) : Int)))), (1, .int (iI (1))), (4, .int (iI (0))), (3, .int (iI (((gpick σ n 0 (fun t => vs2 (42 + t)) (vs2 54) (mC σ n)) : Int)))), (0, .ref (r0))]) hx hb dX10_solve_169 hl (k := 4) rfl (by show iI _ + iI _ = _; exact (iI_add _ _).trans (by first | rfl | (congr 1; omega))) (by decide) rfl (fun ls hl => ?_)
                refine lv_goto (tgt := 72) hx hb dX10_solve_172 (by decide) ?_
                refine ih2 (n + 1) 1 _ vs3 _ _ _ (by omega) hvc (fun q hq => by
                  unfold ud
                  by_cases e : q = n
                  · subst e; rw [if_pos rfl, hnp]
                  · rw [if_neg e]; exact hnx q (by omega)) (by omega) ⟨fun h => ?_, fun h => ?_⟩ hO hC hU hDn hW hBs hCh hNx hB hP hOw hTg hS (lv_sub hl [4, 1, 0] rfl)
                · omega
                · have h7 : bt = 0 := hbi.mpr (fun q hq => h q (by omega))
                  omega
              · refine lv_iload hx hb dX10_solve_158 (lv_at hl 0 rfl) ?_
                refine pw_if_ne (tgt := 167) hx hb dX10_solve_160 (by decide) (fun c_160 => absurd c_160 (by omega)) (fun c_160 => ?_)
                refine pw_iconst hx hb dX10_solve_163 ?_
                refine lv_goto (tgt := 168) hx hb dX10_solve_164 (by decide) ?_
                refine lv_istore_n (lv' := [(1, .int (iI (1))), (4, .int (iI (0))), (3, .int (iI (((gpick σ n 0 (fun t => vs2 (42 + t)) (vs2 54) (mC σ n)) : Int)))), (0, .ref (r0)), (2, .int (iI ((n : Int))))]) hx hb dX10_solve_168 rfl hl (by decide) rfl (fun ls hl => ?_)
                refine lv_iinc (v := iI (((n + 1 : Nat) : Int))) (lv' := [(2, .int (iI (((n + 1 : Nat) : Int)))), (1, .int (iI (1))), (4, .int (iI (0))), (3, .int (iI (((gpick σ n 0 (fun t => vs2 (42 + t)) (vs2 54) (mC σ n)) : Int)))), (0, .ref (r0))]) hx hb dX10_solve_169 hl (k := 4) rfl (by show iI _ + iI _ = _; exact (iI_add _ _).trans (by first | rfl | (congr 1; omega))) (by decide) rfl (fun ls hl => ?_)
                refine lv_goto (tgt := 72) hx hb dX10_solve_172 (by decide) ?_
                refine ih2 (n + 1) 1 _ vs3 _ _ _ (by omega) hvc (fun q hq => by
                  unfold ud
                  by_cases e : q = n
                  · subst e; rw [if_pos rfl, hnp]
                  · rw [if_neg e]; exact hnx q (by omega)) (by omega) ⟨fun h => ?_, fun h => ?_⟩ hO hC hU hDn hW hBs hCh hNx hB hP hOw hTg hS (lv_sub hl [4, 1, 0] rfl)
                · omega
                · have h7 := h n (by omega)
                  rw [hnp] at h7
                  exact absurd h7 hne
            · have hnp : npol σ (sq j) (fun t => vs2 (42 + t)) (vs2 54) n = sq j n := nr1 (Or.inr (hz0.mp (by omega)))
              refine pw_iconst hx hb dX10_solve_126 ?_
              refine lv_goto (tgt := 131) hx hb dX10_solve_127 (by decide) ?_
              refine lv_istore (lv' := [(4, .int (iI (1))), (3, .int (iI (((gpick σ n 0 (fun t => vs2 (42 + t)) (vs2 54) (mC σ n)) : Int)))), (0, .ref (r0)), (1, .int (iI (bt))), (2, .int (iI ((n : Int))))]) hx hb dX10_solve_131 hl (by decide) rfl (fun ls hl => ?_)
              refine lv_aload_n hx hb dX10_solve_133 rfl (lv_at hl 2 rfl) ?_
              refine pw_get (C := RX10) (T := TX10) (N := 20) hx hb hts hin10 hown hK hO rfl 12 (by decide) lk_35 rfl rfl dX10_solve_134 ?_
              refine lv_iload_n hx hb dX10_solve_137 rfl (lv_at hl 4 rfl) ?_
              refine lv_iload hx hb dX10_solve_138 (lv_at hl 0 rfl) ?_
              refine pw_if_eq (tgt := 152) hx hb dX10_solve_140 (by decide) (fun c_140 => absurd c_140 (by omega)) (fun c_140 => ?_)
              refine lv_aload_n hx hb dX10_solve_143 rfl (lv_at hl 2 rfl) ?_
              refine pw_get (C := RX10) (T := TX10) (N := 20) hx hb hts hin10 hown hK hO rfl 11 (by decide) lk_32 rfl rfl dX10_solve_144 ?_
              refine lv_iload_n hx hb dX10_solve_147 rfl (lv_at hl 4 rfl) ?_
              refine pw_iald hx hb hK hCh (n) rfl (by omega) (by omega) dX10_solve_148 ?_
              refine pw_asi ((sq j n : Int)) hgn ?_
              refine lv_goto (tgt := 153) hx hb dX10_solve_149 (by decide) ?_
              refine pw_iast hx hb hK hNx hS (by (try dsimp only); omega) (n) rfl (by omega) (by omega) dX10_solve_153 (fun H1 locs1 hnew hz1 oq hS => ?_)
              have hO := hO.k (oq _ (by omega))
              have hC := hC.k (oq _ (by omega))
              have hU := hU.k (oq _ (by omega))
              have hDn := hDn.k (oq _ (by omega))
              have hW := hW.k (oq _ (by omega))
              have hBs := hBs.k (oq _ (by omega))
              have hCh := hCh.k (oq _ (by omega))
              have hB := hB.k (fun q h1 h2 h3 => (oq _ (by omega)))
              have hP := hP.k (oq _ (by omega))
              have hOw := hOw.k (oq _ (by omega))
              have hTg := hTg.k (oq _ (by omega))
              have hNx := hnew
              clear hnew oq hz1
              refine lv_iload_n hx hb dX10_solve_154 rfl (lv_at hl 3 rfl) ?_
              refine pw_if_ne (tgt := 163) hx hb dX10_solve_155 (by decide) (fun c_155 => ?_) (fun c_155 => ?_)
              · refine pw_iconst hx hb dX10_solve_163 ?_
                refine lv_goto (tgt := 168) hx hb dX10_solve_164 (by decide) ?_
                refine lv_istore_n (lv' := [(1, .int (iI (1))), (4, .int (iI (1))), (3, .int (iI (((gpick σ n 0 (fun t => vs2 (42 + t)) (vs2 54) (mC σ n)) : Int)))), (0, .ref (r0)), (2, .int (iI ((n : Int))))]) hx hb dX10_solve_168 rfl hl (by decide) rfl (fun ls hl => ?_)
                refine lv_iinc (v := iI (((n + 1 : Nat) : Int))) (lv' := [(2, .int (iI (((n + 1 : Nat) : Int)))), (1, .int (iI (1))), (4, .int (iI (1))), (3, .int (iI (((gpick σ n 0 (fun t => vs2 (42 + t)) (vs2 54) (mC σ n)) : Int)))), (0, .ref (r0))]) hx hb dX10_solve_169 hl (k := 4) rfl (by show iI _ + iI _ = _; exact (iI_add _ _).trans (by first | rfl | (congr 1; omega))) (by decide) rfl (fun ls hl => ?_)
                refine lv_goto (tgt := 72) hx hb dX10_solve_172 (by decide) ?_
                refine ih2 (n + 1) 1 _ vs3 _ _ _ (by omega) hvc (fun q hq => by
                  unfold ud
                  by_cases e : q = n
                  · subst e; rw [if_pos rfl, hnp]
                  · rw [if_neg e]; exact hnx q (by omega)) (by omega) ⟨fun h => ?_, fun h => ?_⟩ hO hC hU hDn hW hBs hCh hNx hB hP hOw hTg hS (lv_sub hl [4, 1, 0] rfl)
                · omega
                · have h7 : bt = 0 := hbi.mpr (fun q hq => h q (by omega))
                  omega
              · refine lv_iload hx hb dX10_solve_158 (lv_at hl 0 rfl) ?_
                refine pw_if_ne (tgt := 167) hx hb dX10_solve_160 (by decide) (fun c_160 => ?_) (fun c_160 => absurd c_160 (by omega))
                refine pw_iconst hx hb dX10_solve_167 ?_
                refine lv_istore_n (lv' := [(1, .int (iI (0))), (4, .int (iI (1))), (3, .int (iI (((gpick σ n 0 (fun t => vs2 (42 + t)) (vs2 54) (mC σ n)) : Int)))), (0, .ref (r0)), (2, .int (iI ((n : Int))))]) hx hb dX10_solve_168 rfl hl (by decide) rfl (fun ls hl => ?_)
                refine lv_iinc (v := iI (((n + 1 : Nat) : Int))) (lv' := [(2, .int (iI (((n + 1 : Nat) : Int)))), (1, .int (iI (0))), (4, .int (iI (1))), (3, .int (iI (((gpick σ n 0 (fun t => vs2 (42 + t)) (vs2 54) (mC σ n)) : Int)))), (0, .ref (r0))]) hx hb dX10_solve_169 hl (k := 4) rfl (by show iI _ + iI _ = _; exact (iI_add _ _).trans (by first | rfl | (congr 1; omega))) (by decide) rfl (fun ls hl => ?_)
                refine lv_goto (tgt := 72) hx hb dX10_solve_172 (by decide) ?_
                refine ih2 (n + 1) 0 _ vs3 _ _ _ (by omega) hvc (fun q hq => by
                  unfold ud
                  by_cases e : q = n
                  · subst e; rw [if_pos rfl, hnp]
                  · rw [if_neg e]; exact hnx q (by omega)) (by omega) ⟨fun h => ?_, fun h => ?_⟩ hO hC hU hDn hW hBs hCh hNx hB hP hOw hTg hS (lv_sub hl [4, 1, 0] rfl)
                · intro q hq
                  by_cases e : q = n
                  · rw [e, hnp]
                  · exact hbi.mp (by omega) q (by omega)
                · rfl
      refine lv_iload_n hx hb dX10_solve_44 rfl (lv_at hl 1 rfl) ?_
      refine pw_if_eq (tgt := 218) hx hb dX10_solve_45 (by decide) (fun c_45 => absurd c_45 (by omega)) (fun c_45 => ?_)
      refine lv_aload_n hx hb dX10_solve_48 rfl (lv_at hl 0 rfl) ?_
      refine lv_dup hx hb dX10_solve_49 rfl ?_
      refine pw_get (C := RX10) (T := TX10) (N := 20) hx hb hts hin10 hown hK hO rfl 9 (by decide) lk_100 rfl rfl dX10_solve_50 ?_
      refine pw_iconst hx hb dX10_solve_53 ?_
      refine pw_iadd hx hb dX10_solve_54 ?_
      refine pw_asi (((j + 1 : Nat) : Int)) (by omega) ?_
      refine pw_put (C := RX10) (T := TX10) (N := 20) hx hb hts hin10 tyX10 tyX10_ok nmX10 hown hK hO hS (by (try dsimp only); omega) rfl 9 (by decide) lk_100 rfl rfl rfl rfl (by show _ < 20; decide) dX10_solve_55 (fun H1 locs1 hnew hz1 oq hS => ?_)
      have hC := hC.k (oq _ (by omega))
      have hU := hU.k (oq _ (by omega))
      have hDn := hDn.k (oq _ (by omega))
      have hW := hW.k (oq _ (by omega))
      have hBs := hBs.k (oq _ (by omega))
      have hCh := hCh.k (oq _ (by omega))
      have hNx := hNx.k (oq _ (by omega))
      have hB := hB.k (fun q h1 h2 h3 => (oq _ (by omega)))
      have hP := hP.k (oq _ (by omega))
      have hOw := hOw.k (oq _ (by omega))
      have hTg := hTg.k (oq _ (by omega))
      have hO : OA D (r0) 10 [.int (iI (0)), .int (iI ((mN σ : Int))), .ref (r0 + 1), .ref (r0 + 2), .ref (r0 + 3), .ref (r0 + 4), .int (iI ((mA σ : Int))), .int (iI ((mB σ : Int))), .int (iI (so)), .int (iI (((j + 1 : Nat) : Int))), .ref (r0 + 5), .ref (r0 + 6), .ref (r0 + 7), .ref (r0 + 8), .ref (r0 + 9), .ref (r0 + 10), .ref (r0 + 11), .ref (r0 + 12), .ref (r0 + 13), .int (iI (co))] H1 := hnew
      clear hnew oq hz1
      refine lv_aload_n hx hb dX10_solve_58 rfl (lv_at hl 0 rfl) ?_
      refine pw_callVv (As := []) (rest := []) ⟨hx, hb, hml, hown, hts⟩ (r_valuePolicy l D E r0 σ 0 so ((j + 1 : Nat) : Int) co gU gD gW ch vs (sq j) hok hrd hm hlt hg0) (cwV 0 hts gX10_solve_X10_valuePolicy rfl rfl rfl (by decide +kernel) ⟨Nat.le_of_ble_eq_true rfl, Nat.le_of_ble_eq_true rfl⟩) hK hO rfl ⟨hO, hU, hDn, hW, hCh, hB⟩ rfl hl.1 rfl (Nat.le_of_ble_eq_true rfl) dX10_solve_59 ⟨Nat.zero_le _, Nat.zero_le _⟩ hS (fun q h => by (try dsimp only at h); (try dsimp only); omega) (fun H1 locs1 ⟨cm, vs1, hO, hB, hcm, h48, hY, hvo⟩ hz1 hk1 hS => ?_)
      have hC := hC.k (hk1 _ hC.lt (by (try dsimp only); omega))
      have hU := hU.k (hk1 _ hU.lt (by (try dsimp only); omega))
      have hDn := hDn.k (hk1 _ hDn.lt (by (try dsimp only); omega))
      have hW := hW.k (hk1 _ hW.lt (by (try dsimp only); omega))
      have hBs := hBs.k (hk1 _ hBs.lt (by (try dsimp only); omega))
      have hCh := hCh.k (hk1 _ hCh.lt (by (try dsimp only); omega))
      have hNx := hNx.k (hk1 _ hNx.lt (by (try dsimp only); omega))
      have hP := hP.k (hk1 _ hP.lt (by (try dsimp only); omega))
      have hOw := hOw.k (hk1 _ hOw.lt (by (try dsimp only); omega))
      have hTg := hTg.k (hk1 _ hTg.lt (by (try dsimp only); omega))
      have hb48 : (vs1 48).natAbs ≤ bw := by rw [h48]; exact hbw σ (sq j) cm hok hlt hcm.2.1
      refine lv_aload_n hx hb dX10_solve_62 rfl (lv_at hl 0 rfl) ?_
      refine pw_bipush hx hb dX10_solve_63 ?_
      refine pw_callVv (As := [.int (iI (54))]) (rest := []) ⟨hx, hb, hml, hown, hts⟩ (r_belowInto l D E r0 σ 0 so ((j + 1 : Nat) : Int) cm vs1 54 hcm.2.1 (by omega) (by omega) (by omega)) (cwV 1 hts gX10_solve_X10_belowInto rfl rfl rfl (by decide +kernel) ⟨Nat.le_of_ble_eq_true rfl, Nat.le_of_ble_eq_true rfl⟩) hK hO rfl ⟨hO, hB⟩ rfl hl.1 rfl (Nat.le_of_ble_eq_true rfl) dX10_solve_65 ⟨Nat.zero_le _, Nat.zero_le _⟩ hS (fun q h => by (try dsimp only at h); (try dsimp only); omega) (fun H1 locs1 ⟨vs2, hB, h54, hvo2⟩ hz1 hk1 hS => ?_)
      have hO := hO.k (hk1 _ hO.lt (by (try dsimp only); omega))
      have hC := hC.k (hk1 _ hC.lt (by (try dsimp only); omega))
      have hU := hU.k (hk1 _ hU.lt (by (try dsimp only); omega))
      have hDn := hDn.k (hk1 _ hDn.lt (by (try dsimp only); omega))
      have hW := hW.k (hk1 _ hW.lt (by (try dsimp only); omega))
      have hBs := hBs.k (hk1 _ hBs.lt (by (try dsimp only); omega))
      have hCh := hCh.k (hk1 _ hCh.lt (by (try dsimp only); omega))
      have hNx := hNx.k (hk1 _ hNx.lt (by (try dsimp only); omega))
      have hP := hP.k (hk1 _ hP.lt (by (try dsimp only); omega))
      have hOw := hOw.k (hk1 _ hOw.lt (by (try dsimp only); omega))
      have hTg := hTg.k (hk1 _ hTg.lt (by (try dsimp only); omega))
      have hRV : RVal mx bw σ (sq j) vs2 := hrv σ (sq j) cm vs2 hok hrd hlt hcm (by rw [h54, h48]) (fun s hs => by rw [hvo2 _ (by omega)]; exact hY s hs)
      refine pw_iconst hx hb dX10_solve_68 ?_
      refine lv_istore_n (lv' := [(1, .int (iI (0))), (0, .ref (r0))]) hx hb dX10_solve_69 rfl hl (by decide) rfl (fun ls hl => ?_)
      refine pw_iconst hx hb dX10_solve_70 ?_
      refine lv_istore_n (lv' := [(2, .int (iI (0))), (1, .int (iI (0))), (0, .ref (r0))]) hx hb dX10_solve_71 rfl hl (by decide) rfl (fun ls hl => ?_)
      exact loop2 (cm : Int) vs2 hRV (mN σ) 0 0 nx vs2 _ _ _ (by omega) (fun _ _ => rfl) (fun q hq => by omega) (Or.inl rfl) ⟨fun _ q hq => by omega, fun _ => rfl⟩ hO hC hU hDn hW hBs hCh hNx hB hP hOw hTg hS (lv_sub hl [2, 1, 0] rfl)
  have loop0 : ∀ (mm n : Nat) (ch : Nat → Int) (H : Heap) (locs : List Loc) (ls : Array Slot), rdy σ → n + mm = mN σ → (∀ q, q < n → ch q = 0) → OA D r0 10 [.int (iI (0)), .int (iI ((mN σ : Int))), .ref (r0 + 1), .ref (r0 + 2), .ref (r0 + 3), .ref (r0 + 4), .int (iI ((mA σ : Int))), .int (iI ((mB σ : Int))), .int (iI (so)), .int (iI (rn)), .ref (r0 + 5), .ref (r0 + 6), .ref (r0 + 7), .ref (r0 + 8), .ref (r0 + 9), .ref (r0 + 10), .ref (r0 + 11), .ref (r0 + 12), .ref (r0 + 13), .int (iI (co))] H → IA E (r0 + 1) 6 (fun s => (mC σ s : Int)) H → IA E (r0 + 2) 24 gU H → IA E (r0 + 3) 24 gD H → IA E (r0 + 4) 144 gW H → IA E (r0 + 5) 6 bst H → IA E (r0 + 6) 6 ch H → IA E (r0 + 7) 6 nx H → BN E r0 vs H → IA E (r0 + 11) 30 prm H → IA E (r0 + 12) 30 ow H → IA E (r0 + 13) 30 tg H → va_S (fun q => r0 ≤ q ∧ q ≤ r0 + 13) s.heap H locs → lv_has ls 5 [(0, .ref (r0)), (1, .int (iI ((n : Int))))] → W p l e ({ frames := 5, cells := 0, slots := 0, locals := 129 } : Room) s m args below meth c H locs (0) (0) (MQ below (pw_Q rvI (fun z H => (¬ rdy σ ∧ z = -1 ∧ RPO D E r0 σ rn H) ∨ (rdy σ ∧ ∃ r : Nat, z = (r : Int) ∧ 0 < r ∧ RPO D E r0 σ (r : Int) H)) (fun q => r0 ≤ q ∧ q ≤ r0 + 13)) args s (0) (0) (fun q => r0 ≤ q ∧ q ≤ r0 + 13)) (F0 m 16 ls []) := by
    intro mm
    induction mm with
    | zero =>
      intro n ch H locs ls hrd hn hc0 hO hC hU hDn hW hBs hCh hNx hB hP hOw hTg hS hl
      have en : n = mN σ := by omega
      subst en
      refine lv_iload_n hx hb dX10_solve_16 rfl (lv_at hl 1 rfl) ?_
      refine lv_aload_n hx hb dX10_solve_17 rfl (lv_at hl 0 rfl) ?_
      refine pw_get (C := RX10) (T := TX10) (N := 20) hx hb hts hin10 hown hK hO rfl 1 (by decide) lk_103 rfl rfl dX10_solve_18 ?_
      refine pw_icmp_ge (tgt := 37) hx hb dX10_solve_21 (by decide) (fun c_21 => ?_) (fun c_21 => absurd c_21 (by omega))
      refine lv_aload_n hx hb dX10_solve_37 rfl (lv_at hl 0 rfl) ?_
      refine pw_iconst hx hb dX10_solve_38 ?_
      refine pw_asi (((0 : Nat) : Int)) rfl ?_
      refine pw_put (C := RX10) (T := TX10) (N := 20) hx hb hts hin10 tyX10 tyX10_ok nmX10 hown hK hO hS (by (try dsimp only); omega) rfl 9 (by decide) lk_100 rfl rfl rfl rfl (by show _ < 20; decide) dX10_solve_39 (fun H1 locs1 hnew hz1 oq hS => ?_)
      have hC := hC.k (oq _ (by omega))
      have hU := hU.k (oq _ (by omega))
      have hDn := hDn.k (oq _ (by omega))
      have hW := hW.k (oq _ (by omega))
      have hBs := hBs.k (oq _ (by omega))
      have hCh := hCh.k (oq _ (by omega))
      have hNx := hNx.k (oq _ (by omega))
      have hB := hB.k (fun q h1 h2 h3 => (oq _ (by omega)))
      have hP := hP.k (oq _ (by omega))
      have hOw := hOw.k (oq _ (by omega))
      have hTg := hTg.k (oq _ (by omega))
      have hO : OA D (r0) 10 [.int (iI (0)), .int (iI ((mN σ : Int))), .ref (r0 + 1), .ref (r0 + 2), .ref (r0 + 3), .ref (r0 + 4), .int (iI ((mA σ : Int))), .int (iI ((mB σ : Int))), .int (iI (so)), .int (iI (((0 : Nat) : Int))), .ref (r0 + 5), .ref (r0 + 6), .ref (r0 + 7), .ref (r0 + 8), .ref (r0 + 9), .ref (r0 + 10), .ref (r0 + 11), .ref (r0 + 12), .ref (r0 + 13), .int (iI (co))] H1 := hnew
      clear hnew oq hz1
      refine pw_iconst hx hb dX10_solve_42 ?_
      refine lv_istore_n (lv' := [(1, .int (iI (1))), (0, .ref (r0))]) hx hb dX10_solve_43 rfl hl (by decide) rfl (fun ls hl => ?_)
      exact loop 4096 0 (fun _ _ => 0) co bst ch nx vs _ _ _ hrd (by omega) ⟨fun s hs => rfl, fun j hj => absurd hj (Nat.not_lt_zero j)⟩ (fun i hi => absurd hi (Nat.not_lt_zero i)) (fun s hs => hc0 s hs) hO hC hU hDn hW hBs hCh hNx hB hP hOw hTg hS (lv_sub hl [1, 0] rfl)
    | succ mm ih =>
      intro n ch H locs ls hrd hn hc0 hO hC hU hDn hW hBs hCh hNx hB hP hOw hTg hS hl
      refine lv_iload_n hx hb dX10_solve_16 rfl (lv_at hl 1 rfl) ?_
      refine lv_aload_n hx hb dX10_solve_17 rfl (lv_at hl 0 rfl) ?_
      refine pw_get (C := RX10) (T := TX10) (N := 20) hx hb hts hin10 hown hK hO rfl 1 (by decide) lk_103 rfl rfl dX10_solve_18 ?_
      refine pw_icmp_ge (tgt := 37) hx hb dX10_solve_21 (by decide) (fun c_21 => absurd c_21 (by omega)) (fun c_21 => ?_)
      refine lv_aload_n hx hb dX10_solve_24 rfl (lv_at hl 0 rfl) ?_
      refine pw_get (C := RX10) (T := TX10) (N := 20) hx hb hts hin10 hown hK hO rfl 11 (by decide) lk_32 rfl rfl dX10_solve_25 ?_
      refine lv_iload_n hx hb dX10_solve_28 rfl (lv_at hl 1 rfl) ?_
      refine pw_iconst hx hb dX10_solve_29 ?_
      refine pw_iast hx hb hK hCh hS (by (try dsimp only); omega) (n) rfl (by omega) (by omega) dX10_solve_30 (fun H1 locs1 hnew hz1 oq hS => ?_)
      have hO := hO.k (oq _ (by omega))
      have hC := hC.k (oq _ (by omega))
      have hU := hU.k (oq _ (by omega))
      have hDn := hDn.k (oq _ (by omega))
      have hW := hW.k (oq _ (by omega))
      have hBs := hBs.k (oq _ (by omega))
      have hNx := hNx.k (oq _ (by omega))
      have hB := hB.k (fun q h1 h2 h3 => (oq _ (by omega)))
      have hP := hP.k (oq _ (by omega))
      have hOw := hOw.k (oq _ (by omega))
      have hTg := hTg.k (oq _ (by omega))
      have hCh := hnew
      clear hnew oq hz1
      refine lv_iinc (v := iI (((n + 1 : Nat) : Int))) (lv' := [(1, .int (iI (((n + 1 : Nat) : Int)))), (0, .ref (r0))]) hx hb dX10_solve_31 hl (k := 1) rfl (by show iI _ + iI _ = _; exact (iI_add _ _).trans (by first | rfl | (congr 1; omega))) (by decide) rfl (fun ls hl => ?_)
      refine lv_goto (tgt := 16) hx hb dX10_solve_34 (by decide) ?_
      exact ih (n + 1) _ _ _ _ hrd (by omega) (fun q hq => by
        unfold ud
        by_cases e : q = n
        · rw [if_pos e]
        · rw [if_neg e]; exact hc0 q (by omega)) hO hC hU hDn hW hBs hCh hNx hB hP hOw hTg hS (lv_sub hl [1, 0] rfl)
  refine lv_aload_n hx hb dX10_solve_0 rfl (lv_at hl 0 rfl) ?_
  refine pw_iconst hx hb dX10_solve_1 ?_
  refine pw_put (C := RX10) (T := TX10) (N := 20) hx hb hts hin10 tyX10 tyX10_ok nmX10 hown hK hO hS (by (try dsimp only); omega) rfl 0 (by decide) lk_56 rfl rfl rfl rfl (by show _ < 20; decide) dX10_solve_2 (fun H1 locs1 hnew hz1 oq hS => ?_)
  have hC := hC.k (oq _ (by omega))
  have hU := hU.k (oq _ (by omega))
  have hDn := hDn.k (oq _ (by omega))
  have hW := hW.k (oq _ (by omega))
  have hBs := hBs.k (oq _ (by omega))
  have hCh := hCh.k (oq _ (by omega))
  have hNx := hNx.k (oq _ (by omega))
  have hB := hB.k (fun q h1 h2 h3 => (oq _ (by omega)))
  have hP := hP.k (oq _ (by omega))
  have hOw := hOw.k (oq _ (by omega))
  have hTg := hTg.k (oq _ (by omega))
  have hO : OA D (r0) 10 [.int (iI (0)), .int (iI ((mN σ : Int))), .ref (r0 + 1), .ref (r0 + 2), .ref (r0 + 3), .ref (r0 + 4), .int (iI ((mA σ : Int))), .int (iI ((mB σ : Int))), .int (iI (so)), .int (iI (rn)), .ref (r0 + 5), .ref (r0 + 6), .ref (r0 + 7), .ref (r0 + 8), .ref (r0 + 9), .ref (r0 + 10), .ref (r0 + 11), .ref (r0 + 12), .ref (r0 + 13), .int (iI (co))] H1 := hnew
  clear hnew oq hz1
  refine lv_aload_n hx hb dX10_solve_5 rfl (lv_at hl 0 rfl) ?_
  refine pw_callVi (As := []) (rest := []) ⟨hx, hb, hml, hown, hts⟩ (r_isReady l D E r0 σ 0 so rn co gU gD gW hok hm) (cwV 0 hts gX10_solve_X10_isReady rfl rfl rfl (by decide +kernel) ⟨Nat.le_of_ble_eq_true rfl, Nat.le_of_ble_eq_true rfl⟩) hK hO rfl ⟨hO, hC, hW⟩ rfl hl.1 rfl (Nat.le_of_ble_eq_true rfl) dX10_solve_6 ⟨Nat.zero_le _, Nat.zero_le _⟩ hS (fun q h => h.elim) (fun z H1 locs1 ⟨hz01, hzr⟩ hz1 hk1 hS => ?_)
  have hO := hO.k (hk1 _ hO.lt (fun h => h))
  have hC := hC.k (hk1 _ hC.lt (fun h => h))
  have hU := hU.k (hk1 _ hU.lt (fun h => h))
  have hDn := hDn.k (hk1 _ hDn.lt (fun h => h))
  have hW := hW.k (hk1 _ hW.lt (fun h => h))
  have hBs := hBs.k (hk1 _ hBs.lt (fun h => h))
  have hCh := hCh.k (hk1 _ hCh.lt (fun h => h))
  have hNx := hNx.k (hk1 _ hNx.lt (fun h => h))
  have hB := hB.k (fun q h1 h2 h3 => (hk1 _ h3 (fun h => h)))
  have hP := hP.k (hk1 _ hP.lt (fun h => h))
  have hOw := hOw.k (hk1 _ hOw.lt (fun h => h))
  have hTg := hTg.k (hk1 _ hTg.lt (fun h => h))
  refine pw_if_ne (tgt := 14) hx hb dX10_solve_9 (by decide) (fun c_9 => ?_) (fun c_9 => ?_)
  · refine pw_iconst hx hb dX10_solve_14 ?_
    refine lv_istore_n (lv' := [(1, .int (iI (0))), (0, .ref (r0))]) hx hb dX10_solve_15 rfl hl (by decide) rfl (fun ls hl => ?_)
    exact loop0 (mN σ) 0 ch _ _ _ (hzr.mp (by omega)) (by omega) (fun q hq => by omega) hO hC hU hDn hW hBs hCh hNx hB hP hOw hTg hS (lv_sub hl [1, 0] rfl)
  · refine pw_iconst hx hb dX10_solve_12 ?_
    exact pw_iret hx hb hr hlocks hS (Or.inl ⟨fun h => absurd (hzr.mpr h) (by omega), rfl, ⟨_, _, _, _, _, _, _, _, _, _, _, _, hO, hC, hU, hDn, hW, hBs, hCh, hNx, hB, hP, hOw, hTg, hRI⟩⟩) dX10_solve_13
set_option maxHeartbeats 4000000 in
set_option maxRecDepth 100000 in
/-- policy(k) -/
theorem r_policy (l : Launch) (D : va_G) (E : Nat → ClassId) (r0 : Nat) (σ : MS) (rn k : Int) (k1 : -2147483648 ≤ k) (k2 : k ≤ 2147483647) : pw_M rvI l D E yX10_policy wsX10_policy ({ frames := 1, cells := 0, slots := 0, locals := 21 } : Room) [.ref (r0), .int (iI (k))] (fun H => RPO D E r0 σ rn H) (fun z H => RPO D E r0 σ rn H ∧ ((¬ (0 < rn ∧ 0 ≤ k ∧ k < (mN σ : Int)) ∧ z = -1) ∨ ((0 < rn ∧ 0 ≤ k ∧ k < (mN σ : Int)) ∧ ∃ bp bv bd, SOL σ rn.toNat bp bv bd ∧ z = bp k.toNat))) (fun q => r0 ≤ q ∧ q ≤ r0 + 13) (0) (0) := by
  refine pw_of (cc := cX10_policy) (maxL := 2) (ret := (some .int)) (by decide +kernel) rfl (Nat.le_of_ble_eq_true rfl) ?_
  intro p e s m args below meth c hx hb hr hml hts hown hlocks hini hK ⟨th, so, co, bst, ch, nx, vs, ow, tg, gU, gD, gW, hO, hC, hU, hDn, hW, hBs, hCh, hNx, hB, hP, hOw, hTg, hRI⟩ ls hl
  have hown : s.vm.findClass RX10 = some m.cls := hown
  have hl : lv_has ls 2 [(0, .ref (r0)), (1, .int (iI (k)))] := hl
  have hS : va_S (fun q => r0 ≤ q ∧ q ≤ r0 + 13) s.heap s.heap [] := va_S.rf
  have lk_29 := hts (.fieldLink RX10 29 "PolicyWorksModel" "best" "[I") (by decide +kernel)
  have lk_56 := hts (.fieldLink RX10 56 "PolicyWorksModel" "thrown" "I") (by decide +kernel)
  have lk_96 := hts (.fieldLink RX10 96 "PolicyWorksModel" "solved" "Z") (by decide +kernel)
  have hin10 : ∀ w ∈ wsX100, w ∈ wsX10_policy := by decide +kernel
  have hok := hRI.1
  have hN6 := hok.1
  have hso := hRI.2.2.2
  refine lv_aload_n hx hb dX10_policy_0 rfl (lv_at hl 0 rfl) ?_
  refine pw_iconst hx hb dX10_policy_1 ?_
  refine pw_put (C := RX10) (T := TX10) (N := 20) hx hb hts hin10 tyX10 tyX10_ok nmX10 hown hK hO hS (by (try dsimp only); omega) rfl 0 (by decide) lk_56 rfl rfl rfl rfl (by show _ < 20; decide) dX10_policy_2 (fun H1 locs1 hnew hz1 oq hS => ?_)
  have hC := hC.k (oq _ (by omega))
  have hU := hU.k (oq _ (by omega))
  have hDn := hDn.k (oq _ (by omega))
  have hW := hW.k (oq _ (by omega))
  have hBs := hBs.k (oq _ (by omega))
  have hCh := hCh.k (oq _ (by omega))
  have hNx := hNx.k (oq _ (by omega))
  have hB := hB.k (fun q h1 h2 h3 => (oq _ (by omega)))
  have hP := hP.k (oq _ (by omega))
  have hOw := hOw.k (oq _ (by omega))
  have hTg := hTg.k (oq _ (by omega))
  have hO : OA D (r0) 10 [.int (iI (0)), .int (iI ((mN σ : Int))), .ref (r0 + 1), .ref (r0 + 2), .ref (r0 + 3), .ref (r0 + 4), .int (iI ((mA σ : Int))), .int (iI ((mB σ : Int))), .int (iI (so)), .int (iI (rn)), .ref (r0 + 5), .ref (r0 + 6), .ref (r0 + 7), .ref (r0 + 8), .ref (r0 + 9), .ref (r0 + 10), .ref (r0 + 11), .ref (r0 + 12), .ref (r0 + 13), .int (iI (co))] H1 := hnew
  clear hnew oq hz1
  refine lv_aload_n hx hb dX10_policy_5 rfl (lv_at hl 0 rfl) ?_
  refine pw_get (C := RX10) (T := TX10) (N := 20) hx hb hts hin10 hown hK hO rfl 8 (by decide) lk_96 rfl rfl dX10_policy_6 ?_
  refine pw_if_eq (tgt := 29) hx hb dX10_policy_9 (by decide) (fun c_9 => ?_) (fun c_9 => ?_)
  · refine pw_iconst hx hb dX10_policy_29 ?_
    exact pw_iret hx hb hr hlocks hS ⟨⟨_, _, _, _, _, _, _, _, _, _, _, _, hO, hC, hU, hDn, hW, hBs, hCh, hNx, hB, hP, hOw, hTg, hRI⟩, Or.inl ⟨fun h => by omega, rfl⟩⟩ dX10_policy_30
  · refine lv_aload_n hx hb dX10_policy_12 rfl (lv_at hl 0 rfl) ?_
    refine lv_iload_n hx hb dX10_policy_13 rfl (lv_at hl 1 rfl) ?_
    refine pw_callVi (As := [.int (iI (k))]) (rest := []) ⟨hx, hb, hml, hown, hts⟩ (r_isState l D E r0 σ 0 so rn co hok k k1 k2) (cwV 1 hts gX10_policy_X10_isState rfl rfl rfl (by decide +kernel) ⟨Nat.le_of_ble_eq_true rfl, Nat.le_of_ble_eq_true rfl⟩) hK hO rfl hO rfl hl.1 rfl (Nat.le_of_ble_eq_true rfl) dX10_policy_14 ⟨Nat.zero_le _, Nat.zero_le _⟩ hS (fun q h => h.elim) (fun z H1 locs1 hz hz1 hk1 hS => ?_)
    have hO := hO.k (hk1 _ hO.lt (fun h => h))
    have hC := hC.k (hk1 _ hC.lt (fun h => h))
    have hU := hU.k (hk1 _ hU.lt (fun h => h))
    have hDn := hDn.k (hk1 _ hDn.lt (fun h => h))
    have hW := hW.k (hk1 _ hW.lt (fun h => h))
    have hBs := hBs.k (hk1 _ hBs.lt (fun h => h))
    have hCh := hCh.k (hk1 _ hCh.lt (fun h => h))
    have hNx := hNx.k (hk1 _ hNx.lt (fun h => h))
    have hB := hB.k (fun q h1 h2 h3 => (hk1 _ h3 (fun h => h)))
    have hP := hP.k (hk1 _ hP.lt (fun h => h))
    have hOw := hOw.k (hk1 _ hOw.lt (fun h => h))
    have hTg := hTg.k (hk1 _ hTg.lt (fun h => h))
    have hz01 : 0 ≤ z ∧ z ≤ 1 := by rw [hz]; split <;> omega
    refine pw_if_eq (tgt := 29) hx hb dX10_policy_17 (by decide) (fun c_17 => ?_) (fun c_17 => ?_)
    · refine pw_iconst hx hb dX10_policy_29 ?_
      exact pw_iret hx hb hr hlocks hS ⟨⟨_, _, _, _, _, _, _, _, _, _, _, _, hO, hC, hU, hDn, hW, hBs, hCh, hNx, hB, hP, hOw, hTg, hRI⟩, Or.inl ⟨fun h => by rw [if_pos ⟨h.2.1, h.2.2⟩] at hz; omega, rfl⟩⟩ dX10_policy_30
    · have hkin : 0 ≤ k ∧ k < (mN σ : Int) := by
        by_cases h : 0 ≤ k ∧ k < (mN σ : Int)
        · exact h
        · rw [if_neg h] at hz; omega
      refine lv_aload_n hx hb dX10_policy_20 rfl (lv_at hl 0 rfl) ?_
      refine pw_get (C := RX10) (T := TX10) (N := 20) hx hb hts hin10 hown hK hO rfl 10 (by decide) lk_29 rfl rfl dX10_policy_21 ?_
      refine lv_iload_n hx hb dX10_policy_24 rfl (lv_at hl 1 rfl) ?_
      refine pw_iald hx hb hK hBs (k.toNat) (by omega) (by omega) (by omega) dX10_policy_25 ?_
      refine lv_goto (tgt := 30) hx hb dX10_policy_26 (by decide) ?_
      rcases hso with hso | hso
      · omega
      · obtain ⟨a1, a2, a3, bv, bd, a4, a5⟩ := hso
        exact pw_iret hx hb hr hlocks hS ⟨⟨_, _, _, _, _, _, _, _, _, _, _, _, hO, hC, hU, hDn, hW, hBs, hCh, hNx, hB, hP, hOw, hTg, hRI⟩, Or.inr ⟨⟨a1, hkin⟩, bst, bv, bd, a4, rfl⟩⟩ dX10_policy_30
