/-! the reference: what callers set -/
def oV (th : Int) (σ : MS) (so rn co : Int) : Nat → Int
  | 0 => th
  | 1 => (mN σ : Int)
  | 2 => (mA σ : Int)
  | 3 => (mB σ : Int)
  | 4 => so
  | 5 => rn
  | _ => co
theorem BN.k {E : Nat → ClassId} {r0 : Nat} {vs : Nat → Int} {H H1 : Heap} (h : BN E r0 vs H) (hq : ∀ q, r0 + 8 ≤ q → q ≤ r0 + 10 → q < H.size → H1[q]? = H[q]?) : BN E r0 vs H1 := by
  obtain ⟨f, g, h, ⟨h1, h2, h3⟩, h4⟩ := h
  exact ⟨f, g, h, ⟨h1.k (hq _ (by omega) (by omega) h1.lt), h2.k (hq _ (by omega) (by omega) h2.lt), h3.k (hq _ (by omega) (by omega) h3.lt)⟩, h4⟩
def prm (j : Nat) : Int := (([2, 3, 5, 7, 11, 13, 17, 19, 23, 29, 31, 37, 41, 43, 47, 53, 59, 61, 67, 71, 73, 79, 83, 89, 97, 101, 103, 107, 109, 113] : List Int)[j]?).getD 0
/-- the reference's arrays hold the model, for the actions that are there -/
def mR (σ : MS) (gU gD gW : Nat → Int) : Prop := ∀ s k, s < 6 → k < mC σ s → gU (4 * s + k) = mU σ (4 * s + k) ∧ gD (4 * s + k) = (mD σ (4 * s + k) : Int) ∧ ∀ t, t < 6 → gW (6 * (4 * s + k) + t) = (mW σ (4 * s + k) t : Int)
def RI (σ : MS) (rn so : Int) (bst vs gU gD gW : Nat → Int) : Prop := mOK σ ∧ mR σ gU gD gW ∧ (0 ≤ rn ∧ rn ≤ 4096) ∧ ((rn = 0 ∧ so = 0) ∨ (0 < rn ∧ so = 1 ∧ rdy σ ∧ ∃ bv bd, SOL σ rn.toNat bst bv bd ∧ 0 < vs 74 ∧ (vs 74).natAbs < 268435456 ^ 16 ∧ ∀ s, s < mN σ → vs (68 + s) * bd = bv s * vs 74 ∧ (vs (68 + s)).natAbs < 268435456 ^ 14))
/-- the reference between calls -/
def RPO (D : va_G) (E : Nat → ClassId) (r0 : Nat) (σ : MS) (rn : Int) (H : Heap) : Prop := ∃ th so co bst ch nx vs ow tg gU gD gW, OA D r0 10 [.int (iI (th)), .int (iI ((mN σ : Int))), .ref (r0 + 1), .ref (r0 + 2), .ref (r0 + 3), .ref (r0 + 4), .int (iI ((mA σ : Int))), .int (iI ((mB σ : Int))), .int (iI (so)), .int (iI (rn)), .ref (r0 + 5), .ref (r0 + 6), .ref (r0 + 7), .ref (r0 + 8), .ref (r0 + 9), .ref (r0 + 10), .ref (r0 + 11), .ref (r0 + 12), .ref (r0 + 13), .int (iI (co))] H ∧ IA E (r0 + 1) 6 (fun s => (mC σ s : Int)) H ∧ IA E (r0 + 2) 24 gU H ∧ IA E (r0 + 3) 24 gD H ∧ IA E (r0 + 4) 144 gW H ∧ IA E (r0 + 5) 6 bst H ∧ IA E (r0 + 6) 6 ch H ∧ IA E (r0 + 7) 6 nx H ∧ BN E r0 vs H ∧ IA E (r0 + 11) 30 prm H ∧ IA E (r0 + 12) 30 ow H ∧ IA E (r0 + 13) 30 tg H ∧ RI σ rn so bst vs gU gD gW
theorem RI0 {σ : MS} {bst vs gU gD gW : Nat → Int} (h : mOK σ) (hm : mR σ gU gD gW) : RI σ 0 0 bst vs gU gD gW := ⟨h, hm, by omega, Or.inl ⟨rfl, rfl⟩⟩
theorem sB_ones : ∀ m : Nat, sB (fun _ => 1) m = m
  | 0 => rfl
  | m + 1 => by show sB (fun _ => 1) m + 1 = m + 1; rw [sB_ones m]
theorem sA_all (σ : MS) : ∀ n : Nat, sA σ (qR σ 0) (n + 1) = sA σ (qR σ 0) n + mC σ n := fun n => by
  show sA σ (qR σ 0) n + sB (fun k => qR σ 0 (4 * n + k)) (mC σ n) = _
  have e : (fun k => qR σ 0 (4 * n + k)) = fun _ => 1 := by funext k; unfold qR; rw [if_pos (Or.inl rfl)]
  rw [e, sB_ones]
set_option maxHeartbeats 4000000 in
set_option maxRecDepth 100000 in
/-- in(v, lo, hi) -/
theorem r_in (l : Launch) (D : va_G) (E : Nat → ClassId) (v lo hi0 : Int) (v1 : -9223372036854775808 ≤ v) (v2 : v ≤ 9223372036854775807) (l1 : -9223372036854775808 ≤ lo) (l2 : lo ≤ 9223372036854775807) (h1 : -9223372036854775808 ≤ hi0) (h2 : hi0 ≤ 9223372036854775807) : pw_M rvI l D E yX10_in wsX10_in ({ frames := 0, cells := 0, slots := 0, locals := 0 } : Room) [.long (lI (v)), .long (lI (lo)), .long (lI (hi0))] (fun H => True) (fun z H => z = if lo ≤ v ∧ v ≤ hi0 then 1 else 0) (fun _ => False) (0) (0) := by
  refine pw_of (cc := cX10_in) (maxL := 6) (ret := (some .boolean)) (by decide +kernel) rfl (Nat.le_of_ble_eq_true rfl) ?_
  intro p e s m args below meth c hx hb hr hml hts hown hlocks hini hK hPre ls hl
  have hown : s.vm.findClass RX10 = some m.cls := hown
  have hl : lv_has ls 6 [(0, .long (lI (v))), (2, .long (lI (lo))), (4, .long (lI (hi0)))] := hl
  have hS : va_S (fun _ => False) s.heap s.heap [] := va_S.rf
  refine lv_lload_n hx hb dX10_in_0 rfl (lv_at hl 0 rfl) ?_
  refine lv_lload_n hx hb dX10_in_1 rfl (lv_at hl 1 rfl) ?_
  refine pw_lcmp_lt (tgt := 17) hx hb dX10_in_2 dX10_in_3 (by decide) (fun c_2 => ?_) (fun c_2 => ?_)
  · refine pw_iconst hx hb dX10_in_17 ?_
    exact pw_zret hx hb hr hlocks hS (by omega) (by rw [if_neg (by omega)]) dX10_in_18
  · refine lv_lload_n hx hb dX10_in_6 rfl (lv_at hl 0 rfl) ?_
    refine lv_lload hx hb dX10_in_7 (lv_at hl 2 rfl) ?_
    refine pw_lcmp_gt (tgt := 17) hx hb dX10_in_9 dX10_in_10 (by decide) (fun c_9 => ?_) (fun c_9 => ?_)
    · refine pw_iconst hx hb dX10_in_17 ?_
      exact pw_zret hx hb hr hlocks hS (by omega) (by rw [if_neg (by omega)]) dX10_in_18
    · refine pw_iconst hx hb dX10_in_13 ?_
      refine lv_goto (tgt := 18) hx hb dX10_in_14 (by decide) ?_
      exact pw_zret hx hb hr hlocks hS (by omega) (by rw [if_pos (by omega)]) dX10_in_18
set_option maxHeartbeats 4000000 in
set_option maxRecDepth 100000 in
/-- isState(k) -/
theorem r_isState (l : Launch) (D : va_G) (E : Nat → ClassId) (r0 : Nat) (σ : MS) (th so rn co : Int) (hok : mOK σ) (k : Int) (k1 : -2147483648 ≤ k) (k2 : k ≤ 2147483647) : pw_M rvI l D E yX10_isState wsX10_isState ({ frames := 0, cells := 0, slots := 0, locals := 0 } : Room) [.ref (r0), .int (iI (k))] (fun H => OA D r0 10 [.int (iI (th)), .int (iI ((mN σ : Int))), .ref (r0 + 1), .ref (r0 + 2), .ref (r0 + 3), .ref (r0 + 4), .int (iI ((mA σ : Int))), .int (iI ((mB σ : Int))), .int (iI (so)), .int (iI (rn)), .ref (r0 + 5), .ref (r0 + 6), .ref (r0 + 7), .ref (r0 + 8), .ref (r0 + 9), .ref (r0 + 10), .ref (r0 + 11), .ref (r0 + 12), .ref (r0 + 13), .int (iI (co))] H) (fun z H => z = if 0 ≤ k ∧ k < (mN σ : Int) then 1 else 0) (fun _ => False) (0) (0) := by
  refine pw_of (cc := cX10_isState) (maxL := 2) (ret := (some .boolean)) (by decide +kernel) rfl (Nat.le_of_ble_eq_true rfl) ?_
  intro p e s m args below meth c hx hb hr hml hts hown hlocks hini hK hO ls hl
  have hown : s.vm.findClass RX10 = some m.cls := hown
  have hl : lv_has ls 2 [(0, .ref (r0)), (1, .int (iI (k)))] := hl
  have hS : va_S (fun _ => False) s.heap s.heap [] := va_S.rf
  have lk_103 := hts (.fieldLink RX10 103 "PolicyWorksModel" "states" "I") (by decide +kernel)
  have hin10 : ∀ w ∈ wsX100, w ∈ wsX10_isState := by decide +kernel
  have hN6 := hok.1
  refine lv_iload_n hx hb dX10_isState_0 rfl (lv_at hl 1 rfl) ?_
  refine pw_if_lt (tgt := 16) hx hb dX10_isState_1 (by decide) (fun c_1 => ?_) (fun c_1 => ?_)
  · refine pw_iconst hx hb dX10_isState_16 ?_
    exact pw_zret hx hb hr hlocks hS (by omega) (by rw [if_neg (by omega)]) dX10_isState_17
  · refine lv_iload_n hx hb dX10_isState_4 rfl (lv_at hl 1 rfl) ?_
    refine lv_aload_n hx hb dX10_isState_5 rfl (lv_at hl 0 rfl) ?_
    refine pw_get (C := RX10) (T := TX10) (N := 20) hx hb hts hin10 hown hK hO rfl 1 (by decide) lk_103 rfl rfl dX10_isState_6 ?_
    refine pw_icmp_ge (tgt := 16) hx hb dX10_isState_9 (by decide) (fun c_9 => ?_) (fun c_9 => ?_)
    · refine pw_iconst hx hb dX10_isState_16 ?_
      exact pw_zret hx hb hr hlocks hS (by omega) (by rw [if_neg (by omega)]) dX10_isState_17
    · refine pw_iconst hx hb dX10_isState_12 ?_
      refine lv_goto (tgt := 17) hx hb dX10_isState_13 (by decide) ?_
      exact pw_zret hx hb hr hlocks hS (by omega) (by rw [if_pos (by omega)]) dX10_isState_17
set_option maxHeartbeats 4000000 in
set_option maxRecDepth 100000 in
/-- isAction(k, j) -/
theorem r_isAction (l : Launch) (D : va_G) (E : Nat → ClassId) (r0 : Nat) (σ : MS) (th so rn co : Int) (hok : mOK σ) (k j : Int) (k1 : -2147483648 ≤ k) (k2 : k ≤ 2147483647) (j1 : -2147483648 ≤ j) (j2 : j ≤ 2147483647) : pw_M rvI l D E yX10_isAction wsX10_isAction ({ frames := 1, cells := 0, slots := 0, locals := 21 } : Room) [.ref (r0), .int (iI (k)), .int (iI (j))] (fun H => OA D r0 10 [.int (iI (th)), .int (iI ((mN σ : Int))), .ref (r0 + 1), .ref (r0 + 2), .ref (r0 + 3), .ref (r0 + 4), .int (iI ((mA σ : Int))), .int (iI ((mB σ : Int))), .int (iI (so)), .int (iI (rn)), .ref (r0 + 5), .ref (r0 + 6), .ref (r0 + 7), .ref (r0 + 8), .ref (r0 + 9), .ref (r0 + 10), .ref (r0 + 11), .ref (r0 + 12), .ref (r0 + 13), .int (iI (co))] H ∧ IA E (r0 + 1) 6 (fun s => (mC σ s : Int)) H) (fun z H => (z = 0 ∨ z = 1) ∧ (z = 1 ↔ 0 ≤ k ∧ k < (mN σ : Int) ∧ 0 ≤ j ∧ j < (mC σ k.toNat : Int))) (fun _ => False) (0) (0) := by
  refine pw_of (cc := cX10_isAction) (maxL := 3) (ret := (some .boolean)) (by decide +kernel) rfl (Nat.le_of_ble_eq_true rfl) ?_
  intro p e s m args below meth c hx hb hr hml hts hown hlocks hini hK ⟨hO, hC⟩ ls hl
  have hown : s.vm.findClass RX10 = some m.cls := hown
  have hl : lv_has ls 3 [(0, .ref (r0)), (1, .int (iI (k))), (2, .int (iI (j)))] := hl
  have hS : va_S (fun _ => False) s.heap s.heap [] := va_S.rf
  have lk_7 := hts (.fieldLink RX10 7 "PolicyWorksModel" "actionCounts" "[I") (by decide +kernel)
  have hin10 : ∀ w ∈ wsX100, w ∈ wsX10_isAction := by decide +kernel
  have hN6 := hok.1
  have hC4 := hok.2.1
  refine lv_aload_n hx hb dX10_isAction_0 rfl (lv_at hl 0 rfl) ?_
  refine lv_iload_n hx hb dX10_isAction_1 rfl (lv_at hl 1 rfl) ?_
  refine pw_callVi (As := [.int (iI (k))]) (rest := []) ⟨hx, hb, hml, hown, hts⟩ (r_isState l D E r0 σ th so rn co hok k k1 k2) (cwV 1 hts gX10_isAction_X10_isState rfl rfl rfl (by decide +kernel) ⟨Nat.le_of_ble_eq_true rfl, Nat.le_of_ble_eq_true rfl⟩) hK hO rfl hO rfl hl.1 rfl (Nat.le_of_ble_eq_true rfl) dX10_isAction_2 ⟨Nat.zero_le _, Nat.zero_le _⟩ hS (fun q h => h.elim) (fun z H1 locs1 hz hz1 hk1 hS => ?_)
  have hO := hO.k (hk1 _ hO.lt (fun h => h))
  have hC := hC.k (hk1 _ hC.lt (fun h => h))
  have hz01 : 0 ≤ z ∧ z ≤ 1 := by rw [hz]; split <;> omega
  refine pw_if_eq (tgt := 26) hx hb dX10_isAction_5 (by decide) (fun c_5 => ?_) (fun c_5 => ?_)
  · refine pw_iconst hx hb dX10_isAction_26 ?_
    exact pw_zret hx hb hr hlocks hS (by omega) ⟨by omega, fun h => by omega, (fun h => by rw [if_pos ⟨h.1, h.2.1⟩] at hz; omega)⟩ dX10_isAction_27
  · have hkin : 0 ≤ k ∧ k < (mN σ : Int) := by
      by_cases h : 0 ≤ k ∧ k < (mN σ : Int)
      · exact h
      · rw [if_neg h] at hz; omega
    have hc4k := hC4 k.toNat (by omega)
    refine lv_iload_n hx hb dX10_isAction_8 rfl (lv_at hl 2 rfl) ?_
    refine pw_if_lt (tgt := 26) hx hb dX10_isAction_9 (by decide) (fun c_9 => ?_) (fun c_9 => ?_)
    · refine pw_iconst hx hb dX10_isAction_26 ?_
      exact pw_zret hx hb hr hlocks hS (by omega) ⟨by omega, fun h => by omega, (fun h => by omega)⟩ dX10_isAction_27
    · refine lv_iload_n hx hb dX10_isAction_12 rfl (lv_at hl 2 rfl) ?_
      refine lv_aload_n hx hb dX10_isAction_13 rfl (lv_at hl 0 rfl) ?_
      refine pw_get (C := RX10) (T := TX10) (N := 20) hx hb hts hin10 hown hK hO rfl 2 (by decide) lk_7 rfl rfl dX10_isAction_14 ?_
      refine lv_iload_n hx hb dX10_isAction_17 rfl (lv_at hl 1 rfl) ?_
      refine pw_iald hx hb hK hC (k.toNat) (by omega) (by omega) (by omega) dX10_isAction_18 ?_
      refine pw_asi ((mC σ (k.toNat) : Int)) rfl ?_
      refine pw_icmp_ge (tgt := 26) hx hb dX10_isAction_19 (by decide) (fun c_19 => ?_) (fun c_19 => ?_)
      · refine pw_iconst hx hb dX10_isAction_26 ?_
        exact pw_zret hx hb hr hlocks hS (by omega) ⟨by omega, fun h => by omega, (fun h => by omega)⟩ dX10_isAction_27
      · refine pw_iconst hx hb dX10_isAction_22 ?_
        refine lv_goto (tgt := 27) hx hb dX10_isAction_23 (by decide) ?_
        exact pw_zret hx hb hr hlocks hS (by omega) ⟨by omega, fun _ => ⟨hkin.1, hkin.2, by omega, by omega⟩, fun _ => rfl⟩ dX10_isAction_27
set_option maxHeartbeats 4000000 in
set_option maxRecDepth 100000 in
/-- sumOf(i) -/
theorem r_sumOf (l : Launch) (D : va_G) (E : Nat → ClassId) (r0 : Nat) (σ : MS) (th so rn co : Int) (i : Nat) (gW : Nat → Int) (hi24 : i < 24) (hw : ∀ t, t < 6 → gW (6 * i + t) = (mW σ i t : Int)) (hok : mOK σ) : pw_M rvI l D E yX10_sumOf wsX10_sumOf ({ frames := 0, cells := 0, slots := 0, locals := 0 } : Room) [.ref (r0), .int (iI ((i : Int)))] (fun H => OA D r0 10 [.int (iI (th)), .int (iI ((mN σ : Int))), .ref (r0 + 1), .ref (r0 + 2), .ref (r0 + 3), .ref (r0 + 4), .int (iI ((mA σ : Int))), .int (iI ((mB σ : Int))), .int (iI (so)), .int (iI (rn)), .ref (r0 + 5), .ref (r0 + 6), .ref (r0 + 7), .ref (r0 + 8), .ref (r0 + 9), .ref (r0 + 10), .ref (r0 + 11), .ref (r0 + 12), .ref (r0 + 13), .int (iI (co))] H ∧ IA E (r0 + 4) 144 gW H) (fun z H => z = (mT σ i : Int)) (fun _ => False) (0) (0) := by
  refine pw_of (cc := cX10_sumOf) (maxL := 4) (ret := (some .int)) (by decide +kernel) rfl (Nat.le_of_ble_eq_true rfl) ?_
  intro p e s m args below meth c hx hb hr hml hts hown hlocks hini hK ⟨hO, hW⟩ ls hl
  have hown : s.vm.findClass RX10 = some m.cls := hown
  have hl : lv_has ls 4 [(0, .ref (r0)), (1, .int (iI ((i : Int))))] := hl
  have hS : va_S (fun _ => False) s.heap s.heap [] := va_S.rf
  have lk_19 := hts (.fieldLink RX10 19 "PolicyWorksModel" "weights" "[I") (by decide +kernel)
  have hin10 : ∀ w ∈ wsX100, w ∈ wsX10_sumOf := by decide +kernel
  have hb20 := (hok.2.2.1 i hi24).2.2.2.2
  have w0 := hw 0 (by omega)
  have w1 := hw 1 (by omega)
  have w2 := hw 2 (by omega)
  have w3 := hw 3 (by omega)
  have w4 := hw 4 (by omega)
  have w5 := hw 5 (by omega)
  have loop : ∀ (kk t : Nat) (sm : Int) (H : Heap) (locs : List Loc) (ls : Array Slot), t + kk = 6 → sm = ((sB (mW σ i) t : Nat) : Int) → OA D r0 10 [.int (iI (th)), .int (iI ((mN σ : Int))), .ref (r0 + 1), .ref (r0 + 2), .ref (r0 + 3), .ref (r0 + 4), .int (iI ((mA σ : Int))), .int (iI ((mB σ : Int))), .int (iI (so)), .int (iI (rn)), .ref (r0 + 5), .ref (r0 + 6), .ref (r0 + 7), .ref (r0 + 8), .ref (r0 + 9), .ref (r0 + 10), .ref (r0 + 11), .ref (r0 + 12), .ref (r0 + 13), .int (iI (co))] H → IA E (r0 + 4) 144 gW H → va_S (fun _ => False) s.heap H locs → lv_has ls 4 [(0, .ref (r0)), (1, .int (iI ((i : Int)))), (2, .int (iI (sm))), (3, .int (iI ((t : Int))))] → W p l e ({ frames := 0, cells := 0, slots := 0, locals := 0 } : Room) s m args below meth c H locs (0) (0) (MQ below (pw_Q rvI (fun z H => z = (mT σ i : Int)) (fun _ => False)) args s (0) (0) (fun _ => False)) (F0 m 4 ls []) := by
    intro kk
    induction kk with
    | zero =>
      intro t sm H locs ls ht hsm hO hW hS hl
      have et : t = 6 := by omega
      refine lv_iload_n hx hb dX10_sumOf_4 rfl (lv_at hl 3 rfl) ?_
      refine pw_bipush hx hb dX10_sumOf_5 ?_
      refine pw_icmp_ge (tgt := 30) hx hb dX10_sumOf_7 (by decide) (fun c_7 => ?_) (fun c_7 => absurd c_7 (by omega))
      refine lv_iload_n hx hb dX10_sumOf_30 rfl (lv_at hl 2 rfl) ?_
      exact pw_iret hx hb hr hlocks hS (by rw [hsm, et]; show ((0 + mW σ i 0 + mW σ i 1 + mW σ i 2 + mW σ i 3 + mW σ i 4 + mW σ i 5 : Nat) : Int) = _; unfold mT; omega) dX10_sumOf_31
    | succ kk ih =>
      intro t sm H locs ls ht hsm hO hW hS hl
      refine lv_iload_n hx hb dX10_sumOf_4 rfl (lv_at hl 3 rfl) ?_
      refine pw_bipush hx hb dX10_sumOf_5 ?_
      refine pw_icmp_ge (tgt := 30) hx hb dX10_sumOf_7 (by decide) (fun c_7 => absurd c_7 (by omega)) (fun c_7 => ?_)
      refine lv_iload_n hx hb dX10_sumOf_10 rfl (lv_at hl 2 rfl) ?_
      refine lv_aload_n hx hb dX10_sumOf_11 rfl (lv_at hl 0 rfl) ?_
      refine pw_get (C := RX10) (T := TX10) (N := 20) hx hb hts hin10 hown hK hO rfl 5 (by decide) lk_19 rfl rfl dX10_sumOf_12 ?_
      refine pw_bipush hx hb dX10_sumOf_15 ?_
      refine lv_iload_n hx hb dX10_sumOf_17 rfl (lv_at hl 1 rfl) ?_
      refine pw_imul hx hb dX10_sumOf_18 ?_
      refine lv_iload_n hx hb dX10_sumOf_19 rfl (lv_at hl 3 rfl) ?_
      refine pw_iadd hx hb dX10_sumOf_20 ?_
      refine pw_iald hx hb hK hW (((6) * ((i))) + ((t))) (by omega) (by omega) (by omega) dX10_sumOf_21 ?_
      refine pw_asi ((mW σ i t : Int)) (hw t (by omega)) ?_
      refine pw_iadd hx hb dX10_sumOf_22 ?_
      refine lv_istore_n (lv' := [(2, .int (iI ((sm) + ((mW σ i t : Int))))), (0, .ref (r0)), (1, .int (iI ((i : Int)))), (3, .int (iI ((t : Int))))]) hx hb dX10_sumOf_23 rfl hl (by decide) rfl (fun ls hl => ?_)
      refine lv_iinc (v := iI (((t + 1 : Nat) : Int))) (lv' := [(3, .int (iI (((t + 1 : Nat) : Int)))), (2, .int (iI ((sm) + ((mW σ i t : Int))))), (0, .ref (r0)), (1, .int (iI ((i : Int))))]) hx hb dX10_sumOf_24 hl (k := 3) rfl (by show iI _ + iI _ = _; exact (iI_add _ _).trans (by first | rfl | (congr 1; omega))) (by decide) rfl (fun ls hl => ?_)
      refine lv_goto (tgt := 4) hx hb dX10_sumOf_27 (by decide) ?_
      exact ih (t + 1) _ _ _ _ (by omega) (by rw [hsm]; show _ = ((sB (mW σ i) t + mW σ i t : Nat) : Int); omega) hO hW hS (lv_sub hl [2, 3, 1, 0] rfl)
  refine pw_iconst hx hb dX10_sumOf_0 ?_
  refine lv_istore_n (lv' := [(2, .int (iI (0))), (0, .ref (r0)), (1, .int (iI ((i : Int))))]) hx hb dX10_sumOf_1 rfl hl (by decide) rfl (fun ls hl => ?_)
  refine pw_iconst hx hb dX10_sumOf_2 ?_
  refine lv_istore_n (lv' := [(3, .int (iI (0))), (2, .int (iI (0))), (0, .ref (r0)), (1, .int (iI ((i : Int))))]) hx hb dX10_sumOf_3 rfl hl (by decide) rfl (fun ls hl => ?_)
  exact loop 6 0 0 _ _ _ (by omega) rfl hO hW hS (lv_sub hl [2, 3, 1, 0] rfl)
set_option maxHeartbeats 4000000 in
set_option maxRecDepth 100000 in
/-- allActions() -/
theorem r_allActions (l : Launch) (D : va_G) (E : Nat → ClassId) (r0 : Nat) (σ : MS) (th so rn co : Int) (hok : mOK σ) : pw_M rvI l D E yX10_allActions wsX10_allActions ({ frames := 0, cells := 0, slots := 0, locals := 0 } : Room) [.ref (r0)] (fun H => OA D r0 10 [.int (iI (th)), .int (iI ((mN σ : Int))), .ref (r0 + 1), .ref (r0 + 2), .ref (r0 + 3), .ref (r0 + 4), .int (iI ((mA σ : Int))), .int (iI ((mB σ : Int))), .int (iI (so)), .int (iI (rn)), .ref (r0 + 5), .ref (r0 + 6), .ref (r0 + 7), .ref (r0 + 8), .ref (r0 + 9), .ref (r0 + 10), .ref (r0 + 11), .ref (r0 + 12), .ref (r0 + 13), .int (iI (co))] H ∧ IA E (r0 + 1) 6 (fun s => (mC σ s : Int)) H) (fun z H => z = ((sA σ (qR σ 0) (mN σ) : Nat) : Int)) (fun _ => False) (0) (0) := by
  refine pw_of (cc := cX10_allActions) (maxL := 3) (ret := (some .int)) (by decide +kernel) rfl (Nat.le_of_ble_eq_true rfl) ?_
  intro p e s m args below meth c hx hb hr hml hts hown hlocks hini hK ⟨hO, hC⟩ ls hl
  have hown : s.vm.findClass RX10 = some m.cls := hown
  have hl : lv_has ls 3 [(0, .ref (r0))] := hl
  have hS : va_S (fun _ => False) s.heap s.heap [] := va_S.rf
  have lk_7 := hts (.fieldLink RX10 7 "PolicyWorksModel" "actionCounts" "[I") (by decide +kernel)
  have lk_103 := hts (.fieldLink RX10 103 "PolicyWorksModel" "states" "I") (by decide +kernel)
  have hin10 : ∀ w ∈ wsX100, w ∈ wsX10_allActions := by decide +kernel
  have hN6 := hok.1
  have loop : ∀ (kk n : Nat) (H : Heap) (locs : List Loc) (ls : Array Slot), n + kk = mN σ → OA D r0 10 [.int (iI (th)), .int (iI ((mN σ : Int))), .ref (r0 + 1), .ref (r0 + 2), .ref (r0 + 3), .ref (r0 + 4), .int (iI ((mA σ : Int))), .int (iI ((mB σ : Int))), .int (iI (so)), .int (iI (rn)), .ref (r0 + 5), .ref (r0 + 6), .ref (r0 + 7), .ref (r0 + 8), .ref (r0 + 9), .ref (r0 + 10), .ref (r0 + 11), .ref (r0 + 12), .ref (r0 + 13), .int (iI (co))] H → IA E (r0 + 1) 6 (fun s => (mC σ s : Int)) H → va_S (fun _ => False) s.heap H locs → lv_has ls 3 [(0, .ref (r0)), (1, .int (iI (((sA σ (qR σ 0) n : Nat) : Int)))), (2, .int (iI ((n : Int))))] → W p l e ({ frames := 0, cells := 0, slots := 0, locals := 0 } : Room) s m args below meth c H locs (0) (0) (MQ below (pw_Q rvI (fun z H => z = ((sA σ (qR σ 0) (mN σ) : Nat) : Int)) (fun _ => False)) args s (0) (0) (fun _ => False)) (F0 m 4 ls []) := by
    intro kk
    induction kk with
    | zero =>
      intro n H locs ls hn hO hC hS hl
      have en : n = mN σ := by omega
      refine lv_iload_n hx hb dX10_allActions_4 rfl (lv_at hl 2 rfl) ?_
      refine lv_aload_n hx hb dX10_allActions_5 rfl (lv_at hl 0 rfl) ?_
      refine pw_get (C := RX10) (T := TX10) (N := 20) hx hb hts hin10 hown hK hO rfl 1 (by decide) lk_103 rfl rfl dX10_allActions_6 ?_
      refine pw_icmp_ge (tgt := 27) hx hb dX10_allActions_9 (by decide) (fun c_9 => ?_) (fun c_9 => absurd c_9 (by omega))
      refine lv_iload_n hx hb dX10_allActions_27 rfl (lv_at hl 1 rfl) ?_
      exact pw_iret hx hb hr hlocks hS (by rw [en]) dX10_allActions_28
    | succ kk ih =>
      intro n H locs ls hn hO hC hS hl
      have he := sA_all σ n
      refine lv_iload_n hx hb dX10_allActions_4 rfl (lv_at hl 2 rfl) ?_
      refine lv_aload_n hx hb dX10_allActions_5 rfl (lv_at hl 0 rfl) ?_
      refine pw_get (C := RX10) (T := TX10) (N := 20) hx hb hts hin10 hown hK hO rfl 1 (by decide) lk_103 rfl rfl dX10_allActions_6 ?_
      refine pw_icmp_ge (tgt := 27) hx hb dX10_allActions_9 (by decide) (fun c_9 => absurd c_9 (by omega)) (fun c_9 => ?_)
      refine lv_iload_n hx hb dX10_allActions_12 rfl (lv_at hl 1 rfl) ?_
      refine lv_aload_n hx hb dX10_allActions_13 rfl (lv_at hl 0 rfl) ?_
      refine pw_get (C := RX10) (T := TX10) (N := 20) hx hb hts hin10 hown hK hO rfl 2 (by decide) lk_7 rfl rfl dX10_allActions_14 ?_
      refine lv_iload_n hx hb dX10_allActions_17 rfl (lv_at hl 2 rfl) ?_
      refine pw_iald hx hb hK hC (n) rfl (by omega) (by omega) dX10_allActions_18 ?_
      refine pw_asi ((mC σ (n) : Int)) rfl ?_
      refine pw_iadd hx hb dX10_allActions_19 ?_
      refine pw_asi (((sA σ (qR σ 0) (n + 1) : Nat) : Int)) (by omega) ?_
      refine lv_istore_n (lv' := [(1, .int (iI (((sA σ (qR σ 0) (n + 1) : Nat) : Int)))), (0, .ref (r0)), (2, .int (iI ((n : Int))))]) hx hb dX10_allActions_20 rfl hl (by decide) rfl (fun ls hl => ?_)
      refine lv_iinc (v := iI (((n + 1 : Nat) : Int))) (lv' := [(2, .int (iI (((n + 1 : Nat) : Int)))), (1, .int (iI (((sA σ (qR σ 0) (n + 1) : Nat) : Int)))), (0, .ref (r0))]) hx hb dX10_allActions_21 hl (k := 2) rfl (by show iI _ + iI _ = _; exact (iI_add _ _).trans (by first | rfl | (congr 1; omega))) (by decide) rfl (fun ls hl => ?_)
      refine lv_goto (tgt := 4) hx hb dX10_allActions_24 (by decide) ?_
      exact ih (n + 1) _ _ _ (by omega) hO hC hS (lv_sub hl [2, 1, 0] rfl)
  refine pw_iconst hx hb dX10_allActions_0 ?_
  refine pw_asi (((sA σ (qR σ 0) 0 : Nat) : Int)) rfl ?_
  refine lv_istore_n (lv' := [(1, .int (iI (((sA σ (qR σ 0) 0 : Nat) : Int)))), (0, .ref (r0))]) hx hb dX10_allActions_1 rfl hl (by decide) rfl (fun ls hl => ?_)
  refine pw_iconst hx hb dX10_allActions_2 ?_
  refine lv_istore_n (lv' := [(2, .int (iI (0))), (1, .int (iI (((sA σ (qR σ 0) 0 : Nat) : Int)))), (0, .ref (r0))]) hx hb dX10_allActions_3 rfl hl (by decide) rfl (fun ls hl => ?_)
  exact loop (mN σ) 0 _ _ _ (by omega) hO hC hS (lv_sub hl [2, 1, 0] rfl)
set_option maxHeartbeats 4000000 in
set_option maxRecDepth 100000 in
/-- readyCount() -/
theorem r_readyCount (l : Launch) (D : va_G) (E : Nat → ClassId) (r0 : Nat) (σ : MS) (th so rn co : Int) (gU gD gW : Nat → Int) (hok : mOK σ) (hm : mR σ gU gD gW) : pw_M rvI l D E yX10_readyCount wsX10_readyCount ({ frames := 1, cells := 0, slots := 0, locals := 23 } : Room) [.ref (r0)] (fun H => OA D r0 10 [.int (iI (th)), .int (iI ((mN σ : Int))), .ref (r0 + 1), .ref (r0 + 2), .ref (r0 + 3), .ref (r0 + 4), .int (iI ((mA σ : Int))), .int (iI ((mB σ : Int))), .int (iI (so)), .int (iI (rn)), .ref (r0 + 5), .ref (r0 + 6), .ref (r0 + 7), .ref (r0 + 8), .ref (r0 + 9), .ref (r0 + 10), .ref (r0 + 11), .ref (r0 + 12), .ref (r0 + 13), .int (iI (co))] H ∧ IA E (r0 + 1) 6 (fun s => (mC σ s : Int)) H ∧ IA E (r0 + 4) 144 gW H) (fun z H => z = ((sA σ (qR σ 1) (mN σ) : Nat) : Int)) (fun _ => False) (0) (0) := by
  refine pw_of (cc := cX10_readyCount) (maxL := 4) (ret := (some .int)) (by decide +kernel) rfl (Nat.le_of_ble_eq_true rfl) ?_
  intro p e s m args below meth c hx hb hr hml hts hown hlocks hini hK ⟨hO, hC, hW⟩ ls hl
  have hown : s.vm.findClass RX10 = some m.cls := hown
  have hl : lv_has ls 4 [(0, .ref (r0))] := hl
  have hS : va_S (fun _ => False) s.heap s.heap [] := va_S.rf
  have lk_7 := hts (.fieldLink RX10 7 "PolicyWorksModel" "actionCounts" "[I") (by decide +kernel)
  have lk_103 := hts (.fieldLink RX10 103 "PolicyWorksModel" "states" "I") (by decide +kernel)
  have hin10 : ∀ w ∈ wsX100, w ∈ wsX10_readyCount := by decide +kernel
  have hN6 := hok.1
  have hC4 := hok.2.1
  have loop : ∀ (kk n : Nat) (H : Heap) (locs : List Loc) (ls : Array Slot), n + kk = mN σ → OA D r0 10 [.int (iI (th)), .int (iI ((mN σ : Int))), .ref (r0 + 1), .ref (r0 + 2), .ref (r0 + 3), .ref (r0 + 4), .int (iI ((mA σ : Int))), .int (iI ((mB σ : Int))), .int (iI (so)), .int (iI (rn)), .ref (r0 + 5), .ref (r0 + 6), .ref (r0 + 7), .ref (r0 + 8), .ref (r0 + 9), .ref (r0 + 10), .ref (r0 + 11), .ref (r0 + 12), .ref (r0 + 13), .int (iI (co))] H → IA E (r0 + 1) 6 (fun s => (mC σ s : Int)) H → IA E (r0 + 4) 144 gW H → va_S (fun _ => False) s.heap H locs → lv_has ls 4 [(0, .ref (r0)), (1, .int (iI (((sA σ (qR σ 1) n : Nat) : Int)))), (2, .int (iI ((n : Int))))] → W p l e ({ frames := 1, cells := 0, slots := 0, locals := 23 } : Room) s m args below meth c H locs (0) (0) (MQ below (pw_Q rvI (fun z H => z = ((sA σ (qR σ 1) (mN σ) : Nat) : Int)) (fun _ => False)) args s (0) (0) (fun _ => False)) (F0 m 4 ls []) := by
    intro kk
    induction kk with
    | zero =>
      intro n H locs ls hn hO hC hW hS hl
      have en : n = mN σ := by omega
      refine lv_iload_n hx hb dX10_readyCount_4 rfl (lv_at hl 2 rfl) ?_
      refine lv_aload_n hx hb dX10_readyCount_5 rfl (lv_at hl 0 rfl) ?_
      refine pw_get (C := RX10) (T := TX10) (N := 20) hx hb hts hin10 hown hK hO rfl 1 (by decide) lk_103 rfl rfl dX10_readyCount_6 ?_
      refine pw_icmp_ge (tgt := 56) hx hb dX10_readyCount_9 (by decide) (fun c_9 => ?_) (fun c_9 => absurd c_9 (by omega))
      refine lv_iload_n hx hb dX10_readyCount_56 rfl (lv_at hl 1 rfl) ?_
      exact pw_iret hx hb hr hlocks hS (by rw [en]) dX10_readyCount_57
    | succ kk ih =>
      intro n H locs ls hn hO hC hW hS hl
      have hcn := hC4 n (by omega)
      have loop2 : ∀ (qq a : Nat) (H : Heap) (locs : List Loc) (ls : Array Slot), a + qq = mC σ n → OA D r0 10 [.int (iI (th)), .int (iI ((mN σ : Int))), .ref (r0 + 1), .ref (r0 + 2), .ref (r0 + 3), .ref (r0 + 4), .int (iI ((mA σ : Int))), .int (iI ((mB σ : Int))), .int (iI (so)), .int (iI (rn)), .ref (r0 + 5), .ref (r0 + 6), .ref (r0 + 7), .ref (r0 + 8), .ref (r0 + 9), .ref (r0 + 10), .ref (r0 + 11), .ref (r0 + 12), .ref (r0 + 13), .int (iI (co))] H → IA E (r0 + 1) 6 (fun s => (mC σ s : Int)) H → IA E (r0 + 4) 144 gW H → va_S (fun _ => False) s.heap H locs → lv_has ls 4 [(0, .ref (r0)), (1, .int (iI (((sA σ (qR σ 1) n + sB (fun k => qR σ 1 (4 * n + k)) a : Nat) : Int)))), (2, .int (iI ((n : Int)))), (3, .int (iI ((a : Int))))] → W p l e ({ frames := 1, cells := 0, slots := 0, locals := 23 } : Room) s m args below meth c H locs (0) (0) (MQ below (pw_Q rvI (fun z H => z = ((sA σ (qR σ 1) (mN σ) : Nat) : Int)) (fun _ => False)) args s (0) (0) (fun _ => False)) (F0 m 14 ls []) := by
        intro qq
        induction qq with
        | zero =>
          intro a H locs ls ha hO hC hW hS hl
          have ea : a = mC σ n := by omega
          refine lv_iload_n hx hb dX10_readyCount_14 rfl (lv_at hl 3 rfl) ?_
          refine lv_aload_n hx hb dX10_readyCount_15 rfl (lv_at hl 0 rfl) ?_
          refine pw_get (C := RX10) (T := TX10) (N := 20) hx hb hts hin10 hown hK hO rfl 2 (by decide) lk_7 rfl rfl dX10_readyCount_16 ?_
          refine lv_iload_n hx hb dX10_readyCount_19 rfl (lv_at hl 2 rfl) ?_
          refine pw_iald hx hb hK hC (n) rfl (by omega) (by omega) dX10_readyCount_20 ?_
          refine pw_asi ((mC σ (n) : Int)) rfl ?_
          refine pw_icmp_ge (tgt := 50) hx hb dX10_readyCount_21 (by decide) (fun c_21 => ?_) (fun c_21 => absurd c_21 (by omega))
          refine lv_iinc (v := iI (((n + 1 : Nat) : Int))) (lv' := [(2, .int (iI (((n + 1 : Nat) : Int)))), (0, .ref (r0)), (1, .int (iI (((sA σ (qR σ 1) n + sB (fun k => qR σ 1 (4 * n + k)) a : Nat) : Int)))), (3, .int (iI ((a : Int))))]) hx hb dX10_readyCount_50 hl (k := 2) rfl (by show iI _ + iI _ = _; exact (iI_add _ _).trans (by first | rfl | (congr 1; omega))) (by decide) rfl (fun ls hl => ?_)
          refine lv_goto (tgt := 4) hx hb dX10_readyCount_53 (by decide) ?_
          rw [ea] at hl
          exact ih (n + 1) _ _ _ (by omega) hO hC hW hS (lv_sub hl [1, 2, 0] rfl)
        | succ qq ih2 =>
          intro a H locs ls ha hO hC hW hS hl
          have hsb : sB (fun k => qR σ 1 (4 * n + k)) (a + 1) = sB (fun k => qR σ 1 (4 * n + k)) a + qR σ 1 (4 * n + a) := rfl
          have hTb := mT_b hok (show 4 * n + a < 24 by omega)
          refine lv_iload_n hx hb dX10_readyCount_14 rfl (lv_at hl 3 rfl) ?_
          refine lv_aload_n hx hb dX10_readyCount_15 rfl (lv_at hl 0 rfl) ?_
          refine pw_get (C := RX10) (T := TX10) (N := 20) hx hb hts hin10 hown hK hO rfl 2 (by decide) lk_7 rfl rfl dX10_readyCount_16 ?_
          refine lv_iload_n hx hb dX10_readyCount_19 rfl (lv_at hl 2 rfl) ?_
          refine pw_iald hx hb hK hC (n) rfl (by omega) (by omega) dX10_readyCount_20 ?_
          refine pw_asi ((mC σ (n) : Int)) rfl ?_
          refine pw_icmp_ge (tgt := 50) hx hb dX10_readyCount_21 (by decide) (fun c_21 => absurd c_21 (by omega)) (fun c_21 => ?_)
          refine lv_aload_n hx hb dX10_readyCount_24 rfl (lv_at hl 0 rfl) ?_
          refine pw_iconst hx hb dX10_readyCount_25 ?_
          refine lv_iload_n hx hb dX10_readyCount_26 rfl (lv_at hl 2 rfl) ?_
          refine pw_imul hx hb dX10_readyCount_27 ?_
          refine lv_iload_n hx hb dX10_readyCount_28 rfl (lv_at hl 3 rfl) ?_
          refine pw_iadd hx hb dX10_readyCount_29 ?_
          refine pw_asi (((4 * n + a : Nat) : Int)) (by omega) ?_
          refine pw_callVi (As := [.int (iI (((4 * n + a : Nat) : Int)))]) (rest := []) ⟨hx, hb, hml, hown, hts⟩ (r_sumOf l D E r0 σ th so rn co (4 * n + a) gW (by omega) (hm n a (by omega) (by omega)).2.2 hok) (cwV 1 hts gX10_readyCount_X10_sumOf rfl rfl rfl (by decide +kernel) ⟨Nat.le_of_ble_eq_true rfl, Nat.le_of_ble_eq_true rfl⟩) hK hO rfl ⟨hO, hW⟩ rfl hl.1 rfl (Nat.le_of_ble_eq_true rfl) dX10_readyCount_30 ⟨Nat.zero_le _, Nat.zero_le _⟩ hS (fun q h => h.elim) (fun z H1 locs1 hz hz1 hk1 hS => ?_)
          have hO := hO.k (hk1 _ hO.lt (fun h => h))
          have hC := hC.k (hk1 _ hC.lt (fun h => h))
          have hW := hW.k (hk1 _ hW.lt (fun h => h))
          subst hz
          refine pw_if_le (tgt := 42) hx hb dX10_readyCount_33 (by decide) (fun c_33 => ?_) (fun c_33 => ?_)
          · have hq : qR σ 1 (4 * n + a) = 0 := by unfold qR; rw [if_neg (by omega)]
            refine lv_iload_n hx hb dX10_readyCount_42 rfl (lv_at hl 1 rfl) ?_
            refine pw_asi (((sA σ (qR σ 1) n + sB (fun k => qR σ 1 (4 * n + k)) (a + 1) : Nat) : Int)) (by omega) ?_
            refine lv_istore_n (lv' := [(1, .int (iI (((sA σ (qR σ 1) n + sB (fun k => qR σ 1 (4 * n + k)) (a + 1) : Nat) : Int)))), (0, .ref (r0)), (2, .int (iI ((n : Int)))), (3, .int (iI ((a : Int))))]) hx hb dX10_readyCount_43 rfl hl (by decide) rfl (fun ls hl => ?_)
            refine lv_iinc (v := iI (((a + 1 : Nat) : Int))) (lv' := [(3, .int (iI (((a + 1 : Nat) : Int)))), (1, .int (iI (((sA σ (qR σ 1) n + sB (fun k => qR σ 1 (4 * n + k)) (a + 1) : Nat) : Int)))), (0, .ref (r0)), (2, .int (iI ((n : Int))))]) hx hb dX10_readyCount_44 hl (k := 3) rfl (by show iI _ + iI _ = _; exact (iI_add _ _).trans (by first | rfl | (congr 1; omega))) (by decide) rfl (fun ls hl => ?_)
            refine lv_goto (tgt := 14) hx hb dX10_readyCount_47 (by decide) ?_
            exact ih2 (a + 1) _ _ _ (by omega) hO hC hW hS (lv_sub hl [2, 1, 3, 0] rfl)
          · have hq : qR σ 1 (4 * n + a) = 1 := by unfold qR; rw [if_pos (by omega)]
            refine lv_iload_n hx hb dX10_readyCount_36 rfl (lv_at hl 1 rfl) ?_
            refine pw_iconst hx hb dX10_readyCount_37 ?_
            refine pw_iadd hx hb dX10_readyCount_38 ?_
            refine pw_asi (((sA σ (qR σ 1) n + sB (fun k => qR σ 1 (4 * n + k)) (a + 1) : Nat) : Int)) (by omega) ?_
            refine lv_goto (tgt := 43) hx hb dX10_readyCount_39 (by decide) ?_
            refine lv_istore_n (lv' := [(1, .int (iI (((sA σ (qR σ 1) n + sB (fun k => qR σ 1 (4 * n + k)) (a + 1) : Nat) : Int)))), (0, .ref (r0)), (2, .int (iI ((n : Int)))), (3, .int (iI ((a : Int))))]) hx hb dX10_readyCount_43 rfl hl (by decide) rfl (fun ls hl => ?_)
            refine lv_iinc (v := iI (((a + 1 : Nat) : Int))) (lv' := [(3, .int (iI (((a + 1 : Nat) : Int)))), (1, .int (iI (((sA σ (qR σ 1) n + sB (fun k => qR σ 1 (4 * n + k)) (a + 1) : Nat) : Int)))), (0, .ref (r0)), (2, .int (iI ((n : Int))))]) hx hb dX10_readyCount_44 hl (k := 3) rfl (by show iI _ + iI _ = _; exact (iI_add _ _).trans (by first | rfl | (congr 1; omega))) (by decide) rfl (fun ls hl => ?_)
            refine lv_goto (tgt := 14) hx hb dX10_readyCount_47 (by decide) ?_
            exact ih2 (a + 1) _ _ _ (by omega) hO hC hW hS (lv_sub hl [2, 1, 3, 0] rfl)
      refine lv_iload_n hx hb dX10_readyCount_4 rfl (lv_at hl 2 rfl) ?_
      refine lv_aload_n hx hb dX10_readyCount_5 rfl (lv_at hl 0 rfl) ?_
      refine pw_get (C := RX10) (T := TX10) (N := 20) hx hb hts hin10 hown hK hO rfl 1 (by decide) lk_103 rfl rfl dX10_readyCount_6 ?_
      refine pw_icmp_ge (tgt := 56) hx hb dX10_readyCount_9 (by decide) (fun c_9 => absurd c_9 (by omega)) (fun c_9 => ?_)
      refine pw_iconst hx hb dX10_readyCount_12 ?_
      refine lv_istore_n (lv' := [(3, .int (iI (0))), (0, .ref (r0)), (1, .int (iI (((sA σ (qR σ 1) n : Nat) : Int)))), (2, .int (iI ((n : Int))))]) hx hb dX10_readyCount_13 rfl hl (by decide) rfl (fun ls hl => ?_)
      exact loop2 (mC σ n) 0 _ _ _ (by omega) hO hC hW hS (lv_sub hl [1, 2, 3, 0] rfl)
  refine pw_iconst hx hb dX10_readyCount_0 ?_
  refine pw_asi (((sA σ (qR σ 1) 0 : Nat) : Int)) rfl ?_
  refine lv_istore_n (lv' := [(1, .int (iI (((sA σ (qR σ 1) 0 : Nat) : Int)))), (0, .ref (r0))]) hx hb dX10_readyCount_1 rfl hl (by decide) rfl (fun ls hl => ?_)
  refine pw_iconst hx hb dX10_readyCount_2 ?_
  refine lv_istore_n (lv' := [(2, .int (iI (0))), (1, .int (iI (((sA σ (qR σ 1) 0 : Nat) : Int)))), (0, .ref (r0))]) hx hb dX10_readyCount_3 rfl hl (by decide) rfl (fun ls hl => ?_)
  exact loop (mN σ) 0 _ _ _ (by omega) hO hC hW hS (lv_sub hl [2, 1, 0] rfl)
set_option maxHeartbeats 4000000 in
set_option maxRecDepth 100000 in
/-- isReady() -/
theorem r_isReady (l : Launch) (D : va_G) (E : Nat → ClassId) (r0 : Nat) (σ : MS) (th so rn co : Int) (gU gD gW : Nat → Int) (hok : mOK σ) (hm : mR σ gU gD gW) : pw_M rvI l D E yX10_isReady wsX10_isReady ({ frames := 2, cells := 0, slots := 0, locals := 46 } : Room) [.ref (r0)] (fun H => OA D r0 10 [.int (iI (th)), .int (iI ((mN σ : Int))), .ref (r0 + 1), .ref (r0 + 2), .ref (r0 + 3), .ref (r0 + 4), .int (iI ((mA σ : Int))), .int (iI ((mB σ : Int))), .int (iI (so)), .int (iI (rn)), .ref (r0 + 5), .ref (r0 + 6), .ref (r0 + 7), .ref (r0 + 8), .ref (r0 + 9), .ref (r0 + 10), .ref (r0 + 11), .ref (r0 + 12), .ref (r0 + 13), .int (iI (co))] H ∧ IA E (r0 + 1) 6 (fun s => (mC σ s : Int)) H ∧ IA E (r0 + 4) 144 gW H) (fun z H => (z = 0 ∨ z = 1) ∧ (z = 1 ↔ rdy σ)) (fun _ => False) (0) (0) := by
  refine pw_of (cc := cX10_isReady) (maxL := 3) (ret := (some .boolean)) (by decide +kernel) rfl (Nat.le_of_ble_eq_true rfl) ?_
  intro p e s m args below meth c hx hb hr hml hts hown hlocks hini hK ⟨hO, hC, hW⟩ ls hl
  have hown : s.vm.findClass RX10 = some m.cls := hown
  have hl : lv_has ls 3 [(0, .ref (r0))] := hl
  have hS : va_S (fun _ => False) s.heap s.heap [] := va_S.rf
  have lk_7 := hts (.fieldLink RX10 7 "PolicyWorksModel" "actionCounts" "[I") (by decide +kernel)
  have lk_103 := hts (.fieldLink RX10 103 "PolicyWorksModel" "states" "I") (by decide +kernel)
  have hin10 : ∀ w ∈ wsX100, w ∈ wsX10_isReady := by decide +kernel
  have hN6 := hok.1
  have hC4 := hok.2.1
  have hA1 := sA_b hok (qR_1 σ 1) (mN σ) hN6
  have hA0 := sA_b hok (qR_1 σ 0) (mN σ) hN6
  have loop : ∀ (kk n : Nat) (bt : Int) (H : Heap) (locs : List Loc) (ls : Array Slot), n + kk = mN σ → (bt = 0 ∨ bt = 1) → (bt = 1 ↔ (0 < mN σ ∧ sA σ (qR σ 1) (mN σ) = sA σ (qR σ 0) (mN σ)) ∧ ∀ q, q < n → 0 < mC σ q) → OA D r0 10 [.int (iI (th)), .int (iI ((mN σ : Int))), .ref (r0 + 1), .ref (r0 + 2), .ref (r0 + 3), .ref (r0 + 4), .int (iI ((mA σ : Int))), .int (iI ((mB σ : Int))), .int (iI (so)), .int (iI (rn)), .ref (r0 + 5), .ref (r0 + 6), .ref (r0 + 7), .ref (r0 + 8), .ref (r0 + 9), .ref (r0 + 10), .ref (r0 + 11), .ref (r0 + 12), .ref (r0 + 13), .int (iI (co))] H → IA E (r0 + 1) 6 (fun s => (mC σ s : Int)) H → IA E (r0 + 4) 144 gW H → va_S (fun _ => False) s.heap H locs → lv_has ls 3 [(0, .ref (r0)), (1, .int (iI (bt))), (2, .int (iI ((n : Int))))] → W p l e ({ frames := 2, cells := 0, slots := 0, locals := 46 } : Room) s m args below meth c H locs (0) (0) (MQ below (pw_Q rvI (fun z H => (z = 0 ∨ z = 1) ∧ (z = 1 ↔ rdy σ)) (fun _ => False)) args s (0) (0) (fun _ => False)) (F0 m 26 ls []) := by
    intro kk
    induction kk with
    | zero =>
      intro n bt H locs ls hn hbt hif hO hC hW hS hl
      have en : n = mN σ := by omega
      subst en
      refine lv_iload_n hx hb dX10_isReady_26 rfl (lv_at hl 2 rfl) ?_
      refine lv_aload_n hx hb dX10_isReady_27 rfl (lv_at hl 0 rfl) ?_
      refine pw_get (C := RX10) (T := TX10) (N := 20) hx hb hts hin10 hown hK hO rfl 1 (by decide) lk_103 rfl rfl dX10_isReady_28 ?_
      refine pw_icmp_ge (tgt := 59) hx hb dX10_isReady_31 (by decide) (fun c_31 => ?_) (fun c_31 => absurd c_31 (by omega))
      refine lv_iload_n hx hb dX10_isReady_59 rfl (lv_at hl 1 rfl) ?_
      exact pw_zret hx hb hr hlocks hS hbt ⟨hbt, hif.trans (by rw [rdy_iff]; exact ⟨fun h => ⟨h.1.1, h.2, h.1.2⟩, fun h => ⟨⟨h.1, h.2.2⟩, h.2.1⟩⟩)⟩ dX10_isReady_60
    | succ kk ih =>
      intro n bt H locs ls hn hbt hif hO hC hW hS hl
      have hcn := hC4 n (by omega)
      refine lv_iload_n hx hb dX10_isReady_26 rfl (lv_at hl 2 rfl) ?_
      refine lv_aload_n hx hb dX10_isReady_27 rfl (lv_at hl 0 rfl) ?_
      refine pw_get (C := RX10) (T := TX10) (N := 20) hx hb hts hin10 hown hK hO rfl 1 (by decide) lk_103 rfl rfl dX10_isReady_28 ?_
      refine pw_icmp_ge (tgt := 59) hx hb dX10_isReady_31 (by decide) (fun c_31 => absurd c_31 (by omega)) (fun c_31 => ?_)
      refine lv_iload_n hx hb dX10_isReady_34 rfl (lv_at hl 1 rfl) ?_
      refine pw_if_eq (tgt := 51) hx hb dX10_isReady_35 (by decide) (fun c_35 => ?_) (fun c_35 => ?_)
      · refine pw_iconst hx hb dX10_isReady_51 ?_
        refine lv_istore_n (lv' := [(1, .int (iI (0))), (0, .ref (r0)), (2, .int (iI ((n : Int))))]) hx hb dX10_isReady_52 rfl hl (by decide) rfl (fun ls hl => ?_)
        refine lv_iinc (v := iI (((n + 1 : Nat) : Int))) (lv' := [(2, .int (iI (((n + 1 : Nat) : Int)))), (1, .int (iI (0))), (0, .ref (r0))]) hx hb dX10_isReady_53 hl (k := 2) rfl (by show iI _ + iI _ = _; exact (iI_add _ _).trans (by first | rfl | (congr 1; omega))) (by decide) rfl (fun ls hl => ?_)
        refine lv_goto (tgt := 26) hx hb dX10_isReady_56 (by decide) ?_
        exact ih (n + 1) 0 _ _ _ (by omega) (Or.inl rfl) ⟨fun h => by omega, fun h => by have := hif.mpr ⟨h.1, fun q hq => h.2 q (by omega)⟩; omega⟩ hO hC hW hS (lv_sub hl [2, 1, 0] rfl)
      · refine lv_aload_n hx hb dX10_isReady_38 rfl (lv_at hl 0 rfl) ?_
        refine pw_get (C := RX10) (T := TX10) (N := 20) hx hb hts hin10 hown hK hO rfl 2 (by decide) lk_7 rfl rfl dX10_isReady_39 ?_
        refine lv_iload_n hx hb dX10_isReady_42 rfl (lv_at hl 2 rfl) ?_
        refine pw_iald hx hb hK hC (n) rfl (by omega) (by omega) dX10_isReady_43 ?_
        refine pw_asi ((mC σ (n) : Int)) rfl ?_
        refine pw_if_le (tgt := 51) hx hb dX10_isReady_44 (by decide) (fun c_44 => ?_) (fun c_44 => ?_)
        · refine pw_iconst hx hb dX10_isReady_51 ?_
          refine lv_istore_n (lv' := [(1, .int (iI (0))), (0, .ref (r0)), (2, .int (iI ((n : Int))))]) hx hb dX10_isReady_52 rfl hl (by decide) rfl (fun ls hl => ?_)
          refine lv_iinc (v := iI (((n + 1 : Nat) : Int))) (lv' := [(2, .int (iI (((n + 1 : Nat) : Int)))), (1, .int (iI (0))), (0, .ref (r0))]) hx hb dX10_isReady_53 hl (k := 2) rfl (by show iI _ + iI _ = _; exact (iI_add _ _).trans (by first | rfl | (congr 1; omega))) (by decide) rfl (fun ls hl => ?_)
          refine lv_goto (tgt := 26) hx hb dX10_isReady_56 (by decide) ?_
          exact ih (n + 1) 0 _ _ _ (by omega) (Or.inl rfl) ⟨fun h => by omega, fun h => by have := h.2 n (by omega); omega⟩ hO hC hW hS (lv_sub hl [2, 1, 0] rfl)
        · refine pw_iconst hx hb dX10_isReady_47 ?_
          refine lv_goto (tgt := 52) hx hb dX10_isReady_48 (by decide) ?_
          refine lv_istore_n (lv' := [(1, .int (iI (1))), (0, .ref (r0)), (2, .int (iI ((n : Int))))]) hx hb dX10_isReady_52 rfl hl (by decide) rfl (fun ls hl => ?_)
          refine lv_iinc (v := iI (((n + 1 : Nat) : Int))) (lv' := [(2, .int (iI (((n + 1 : Nat) : Int)))), (1, .int (iI (1))), (0, .ref (r0))]) hx hb dX10_isReady_53 hl (k := 2) rfl (by show iI _ + iI _ = _; exact (iI_add _ _).trans (by first | rfl | (congr 1; omega))) (by decide) rfl (fun ls hl => ?_)
          refine lv_goto (tgt := 26) hx hb dX10_isReady_56 (by decide) ?_
          exact ih (n + 1) 1 _ _ _ (by omega) (Or.inr rfl) ⟨fun _ => ⟨(hif.mp (by omega)).1, fun q hq => by
            by_cases e : q = n
            · rw [e]; omega
            · exact (hif.mp (by omega)).2 q (by omega)⟩, fun _ => rfl⟩ hO hC hW hS (lv_sub hl [2, 1, 0] rfl)
  refine lv_aload_n hx hb dX10_isReady_0 rfl (lv_at hl 0 rfl) ?_
  refine pw_get (C := RX10) (T := TX10) (N := 20) hx hb hts hin10 hown hK hO rfl 1 (by decide) lk_103 rfl rfl dX10_isReady_1 ?_
  refine pw_if_le (tgt := 22) hx hb dX10_isReady_4 (by decide) (fun c_4 => ?_) (fun c_4 => ?_)
  · refine pw_iconst hx hb dX10_isReady_22 ?_
    refine lv_istore_n (lv' := [(1, .int (iI (0))), (0, .ref (r0))]) hx hb dX10_isReady_23 rfl hl (by decide) rfl (fun ls hl => ?_)
    refine pw_iconst hx hb dX10_isReady_24 ?_
    refine lv_istore_n (lv' := [(2, .int (iI (0))), (1, .int (iI (0))), (0, .ref (r0))]) hx hb dX10_isReady_25 rfl hl (by decide) rfl (fun ls hl => ?_)
    exact loop (mN σ) 0 0 _ _ _ (by omega) (Or.inl rfl) ⟨fun h => by omega, fun h => by have h1 := h.1.1; have h2 := h.1.2; omega⟩ hO hC hW hS (lv_sub hl [2, 1, 0] rfl)
  · refine lv_aload_n hx hb dX10_isReady_7 rfl (lv_at hl 0 rfl) ?_
    refine pw_callVi (As := []) (rest := []) ⟨hx, hb, hml, hown, hts⟩ (r_readyCount l D E r0 σ th so rn co gU gD gW hok hm) (cwV 0 hts gX10_isReady_X10_readyCount rfl rfl rfl (by decide +kernel) ⟨Nat.le_of_ble_eq_true rfl, Nat.le_of_ble_eq_true rfl⟩) hK hO rfl ⟨hO, hC, hW⟩ rfl hl.1 rfl (Nat.le_of_ble_eq_true rfl) dX10_isReady_8 ⟨Nat.zero_le _, Nat.zero_le _⟩ hS (fun q h => h.elim) (fun z H1 locs1 hz hz1 hk1 hS => ?_)
    have hO := hO.k (hk1 _ hO.lt (fun h => h))
    have hC := hC.k (hk1 _ hC.lt (fun h => h))
    have hW := hW.k (hk1 _ hW.lt (fun h => h))
    subst hz
    refine lv_aload_n hx hb dX10_isReady_11 rfl (lv_at hl 0 rfl) ?_
    refine pw_callVi (As := []) (rest := [.int (iI (((sA σ (qR σ 1) (mN σ) : Nat) : Int)))]) ⟨hx, hb, hml, hown, hts⟩ (r_allActions l D E r0 σ th so rn co hok) (cwV 0 hts gX10_isReady_X10_allActions rfl rfl rfl (by decide +kernel) ⟨Nat.le_of_ble_eq_true rfl, Nat.le_of_ble_eq_true rfl⟩) hK hO rfl ⟨hO, hC⟩ rfl hl.1 rfl (Nat.le_of_ble_eq_true rfl) dX10_isReady_12 ⟨Nat.zero_le _, Nat.zero_le _⟩ hS (fun q h => h.elim) (fun z H1 locs1 hz hz1 hk1 hS => ?_)
    have hO := hO.k (hk1 _ hO.lt (fun h => h))
    have hC := hC.k (hk1 _ hC.lt (fun h => h))
    have hW := hW.k (hk1 _ hW.lt (fun h => h))
    subst hz
    refine pw_icmp_ne (tgt := 22) hx hb dX10_isReady_15 (by decide) (fun c_15 => ?_) (fun c_15 => ?_)
    · refine pw_iconst hx hb dX10_isReady_22 ?_
      refine lv_istore_n (lv' := [(1, .int (iI (0))), (0, .ref (r0))]) hx hb dX10_isReady_23 rfl hl (by decide) rfl (fun ls hl => ?_)
      refine pw_iconst hx hb dX10_isReady_24 ?_
      refine lv_istore_n (lv' := [(2, .int (iI (0))), (1, .int (iI (0))), (0, .ref (r0))]) hx hb dX10_isReady_25 rfl hl (by decide) rfl (fun ls hl => ?_)
      exact loop (mN σ) 0 0 _ _ _ (by omega) (Or.inl rfl) ⟨fun h => by omega, fun h => by have h1 := h.1.1; have h2 := h.1.2; omega⟩ hO hC hW hS (lv_sub hl [2, 1, 0] rfl)
    · refine pw_iconst hx hb dX10_isReady_18 ?_
      refine lv_goto (tgt := 23) hx hb dX10_isReady_19 (by decide) ?_
      refine lv_istore_n (lv' := [(1, .int (iI (1))), (0, .ref (r0))]) hx hb dX10_isReady_23 rfl hl (by decide) rfl (fun ls hl => ?_)
      refine pw_iconst hx hb dX10_isReady_24 ?_
      refine lv_istore_n (lv' := [(2, .int (iI (0))), (1, .int (iI (1))), (0, .ref (r0))]) hx hb dX10_isReady_25 rfl hl (by decide) rfl (fun ls hl => ?_)
      exact loop (mN σ) 0 1 _ _ _ (by omega) (Or.inr rfl) ⟨fun _ => ⟨⟨by omega, by omega⟩, fun q hq => by omega⟩, fun _ => rfl⟩ hO hC hW hS (lv_sub hl [2, 1, 0] rfl)
set_option maxHeartbeats 4000000 in
set_option maxRecDepth 100000 in
/-- dividing(x, y) -/
theorem r_dividing (l : Launch) (D : va_G) (E : Nat → ClassId) (x y : Nat) (hx1 : x ≤ 2147483647) (hy1 : y ≤ 2147483647) : pw_M rvI l D E yX10_dividing wsX10_dividing ({ frames := 0, cells := 0, slots := 0, locals := 0 } : Room) [.int (iI ((x : Int))), .int (iI ((y : Int)))] (fun H => True) (fun z H => z = ((Nat.gcd x y : Nat) : Int)) (fun _ => False) (0) (0) := by
  refine pw_of (cc := cX10_dividing) (maxL := 5) (ret := (some .int)) (by decide +kernel) rfl (Nat.le_of_ble_eq_true rfl) ?_
  intro p e s m args below meth c hx hb hr hml hts hown hlocks hini hK hPre ls hl
  have hown : s.vm.findClass RX10 = some m.cls := hown
  have hl : lv_has ls 5 [(0, .int (iI ((x : Int)))), (1, .int (iI ((y : Int))))] := hl
  have hS : va_S (fun _ => False) s.heap s.heap [] := va_S.rf
  have loop : ∀ (kk u v : Nat) (H : Heap) (locs : List Loc) (ls : Array Slot), v ≤ kk → u ≤ 2147483647 → v ≤ 2147483647 → Nat.gcd u v = Nat.gcd x y → va_S (fun _ => False) s.heap H locs → lv_has ls 5 [(0, .int (iI ((x : Int)))), (1, .int (iI ((y : Int)))), (2, .int (iI ((u : Int)))), (3, .int (iI ((v : Int))))] → W p l e ({ frames := 0, cells := 0, slots := 0, locals := 0 } : Room) s m args below meth c H locs (0) (0) (MQ below (pw_Q rvI (fun z H => z = ((Nat.gcd x y : Nat) : Int)) (fun _ => False)) args s (0) (0) (fun _ => False)) (F0 m 4 ls []) := by
    intro kk
    induction kk with
    | zero =>
      intro u v H locs ls hv hu hv2 hg hS hl
      have ev : v = 0 := by omega
      rw [ev, Nat.gcd_zero_right] at hg
      refine lv_iload_n hx hb dX10_dividing_4 rfl (lv_at hl 3 rfl) ?_
      refine pw_if_le (tgt := 21) hx hb dX10_dividing_5 (by decide) (fun c_5 => ?_) (fun c_5 => absurd c_5 (by omega))
      refine lv_iload_n hx hb dX10_dividing_21 rfl (lv_at hl 2 rfl) ?_
      exact pw_iret hx hb hr hlocks hS (by rw [← hg]) dX10_dividing_22
    | succ kk ih =>
      intro u v H locs ls hv hu hv2 hg hS hl
      refine lv_iload_n hx hb dX10_dividing_4 rfl (lv_at hl 3 rfl) ?_
      refine pw_if_le (tgt := 21) hx hb dX10_dividing_5 (by decide) (fun c_5 => ?_) (fun c_5 => ?_)
      · have ev : v = 0 := by omega
        rw [ev, Nat.gcd_zero_right] at hg
        refine lv_iload_n hx hb dX10_dividing_21 rfl (lv_at hl 2 rfl) ?_
        exact pw_iret hx hb hr hlocks hS (by rw [← hg]) dX10_dividing_22
      · have hml2 := Nat.mod_lt u (show 0 < v by omega)
        refine lv_iload_n hx hb dX10_dividing_8 rfl (lv_at hl 2 rfl) ?_
        refine lv_iload_n hx hb dX10_dividing_9 rfl (lv_at hl 3 rfl) ?_
        refine pw_irem hx hb dX10_dividing_10 (by omega) ?_
        refine pw_asi (((u % v : Nat) : Int)) rfl ?_
        refine lv_istore (lv' := [(4, .int (iI (((u % v : Nat) : Int)))), (0, .int (iI ((x : Int)))), (1, .int (iI ((y : Int)))), (2, .int (iI ((u : Int)))), (3, .int (iI ((v : Int))))]) hx hb dX10_dividing_11 hl (by decide) rfl (fun ls hl => ?_)
        refine lv_iload_n hx hb dX10_dividing_13 rfl (lv_at hl 4 rfl) ?_
        refine lv_istore_n (lv' := [(2, .int (iI ((v : Int)))), (4, .int (iI (((u % v : Nat) : Int)))), (0, .int (iI ((x : Int)))), (1, .int (iI ((y : Int)))), (3, .int (iI ((v : Int))))]) hx hb dX10_dividing_14 rfl hl (by decide) rfl (fun ls hl => ?_)
        refine lv_iload hx hb dX10_dividing_15 (lv_at hl 1 rfl) ?_
        refine lv_istore_n (lv' := [(3, .int (iI (((u % v : Nat) : Int)))), (2, .int (iI ((v : Int)))), (4, .int (iI (((u % v : Nat) : Int)))), (0, .int (iI ((x : Int)))), (1, .int (iI ((y : Int))))]) hx hb dX10_dividing_17 rfl hl (by decide) rfl (fun ls hl => ?_)
        refine lv_goto (tgt := 4) hx hb dX10_dividing_18 (by decide) ?_
        exact ih v (u % v) _ _ _ (by omega) (by omega) (by omega) (by rw [← hg, Nat.gcd_comm v, ← Nat.gcd_rec, Nat.gcd_comm]) hS (lv_sub hl [3, 4, 1, 0] rfl)
  refine lv_iload_n hx hb dX10_dividing_0 rfl (lv_at hl 0 rfl) ?_
  refine lv_istore_n (lv' := [(2, .int (iI ((x : Int)))), (0, .int (iI ((x : Int)))), (1, .int (iI ((y : Int))))]) hx hb dX10_dividing_1 rfl hl (by decide) rfl (fun ls hl => ?_)
  refine lv_iload_n hx hb dX10_dividing_2 rfl (lv_at hl 2 rfl) ?_
  refine lv_istore_n (lv' := [(3, .int (iI ((y : Int)))), (2, .int (iI ((x : Int)))), (0, .int (iI ((x : Int)))), (1, .int (iI ((y : Int))))]) hx hb dX10_dividing_3 rfl hl (by decide) rfl (fun ls hl => ?_)
  exact loop y x y _ _ _ (Nat.le_refl y) hx1 hy1 rfl hS (lv_sub hl [2, 3, 1, 0] rfl)
