/-! what callers set: the model of decisions -/
/-- states, actions of each, rewards (above, below) and weights by the action's place 4 s + a, discount (above, below) -/
abbrev MS : Type := Nat × (Nat → Nat) × (Nat → Int) × (Nat → Nat) × (Nat → Nat → Nat) × Nat × Nat
def mN (σ : MS) : Nat := σ.1
def mC (σ : MS) : Nat → Nat := σ.2.1
def mU (σ : MS) : Nat → Int := σ.2.2.1
def mD (σ : MS) : Nat → Nat := σ.2.2.2.1
def mW (σ : MS) : Nat → Nat → Nat := σ.2.2.2.2.1
def mA (σ : MS) : Nat := σ.2.2.2.2.2.1
def mB (σ : MS) : Nat := σ.2.2.2.2.2.2
def mT (σ : MS) (i : Nat) : Nat := mW σ i 0 + mW σ i 1 + mW σ i 2 + mW σ i 3 + mW σ i 4 + mW σ i 5
/-- what holds of every model that calls can make -/
def mOK (σ : MS) : Prop := mN σ ≤ 6 ∧ (∀ s, s < 6 → mC σ s ≤ 4) ∧ (∀ i, i < 24 → -1000 ≤ mU σ i ∧ mU σ i ≤ 1000 ∧ 1 ≤ mD σ i ∧ mD σ i ≤ 20 ∧ ∀ t, t < 6 → mW σ i t ≤ 20) ∧ mA σ < mB σ ∧ mB σ ≤ 20 ∧ (∀ s, mN σ ≤ s → s < 6 → mC σ s = 0) ∧ (∀ s k, s < 6 → mC σ s ≤ k → k < 4 → mU σ (4 * s + k) = 0 ∧ mD σ (4 * s + k) = 1 ∧ ∀ t, t < 6 → mW σ (4 * s + k) t = 0) ∧ (∀ i t, i < 24 → mN σ ≤ t → t < 6 → mW σ i t = 0)
theorem mT_b {σ : MS} (h : mOK σ) {i : Nat} (hi : i < 24) : mT σ i ≤ 120 := by
  have := (h.2.2.1 i hi).2.2.2.2
  have h0 := this 0 (by omega)
  have h1 := this 1 (by omega)
  have h2 := this 2 (by omega)
  have h3 := this 3 (by omega)
  have h4 := this 4 (by omega)
  have h5 := this 5 (by omega)
  unfold mT
  omega
/-- all is ready -/
def rdy (σ : MS) : Prop := 0 < mN σ ∧ ∀ s, s < mN σ → 0 < mC σ s ∧ ∀ k, k < mC σ s → 0 < mT σ (4 * s + k)
-- sums over actions
def sB (q : Nat → Nat) : Nat → Nat
  | 0 => 0
  | m + 1 => sB q m + q m
def sA (σ : MS) (q : Nat → Nat) : Nat → Nat
  | 0 => 0
  | s + 1 => sA σ q s + sB (fun k => q (4 * s + k)) (mC σ s)
theorem sB_le {q r : Nat → Nat} : ∀ {m : Nat}, (∀ k, k < m → q k ≤ r k) → sB q m ≤ sB r m
  | 0, _ => Nat.le_refl 0
  | m + 1, h => Nat.add_le_add (sB_le (fun k hk => h k (by omega))) (h m (by omega))
theorem sB_eq {q r : Nat → Nat} : ∀ {m : Nat}, (∀ k, k < m → q k ≤ r k) → sB q m = sB r m → ∀ k, k < m → q k = r k
  | 0, _, _, k, hk => absurd hk (Nat.not_lt_zero k)
  | m + 1, h, he, k, hk => by
    have h1 := sB_le (q := q) (r := r) (m := m) (fun k hk => h k (by omega))
    have h2 := h m (by omega)
    have he : sB q m + q m = sB r m + r m := he
    by_cases e : k = m
    · rw [e]; omega
    · exact sB_eq (m := m) (fun k hk => h k (by omega)) (by omega) k (by omega)
theorem sA_le {σ : MS} {q r : Nat → Nat} (h : ∀ i, q i ≤ r i) : ∀ n : Nat, sA σ q n ≤ sA σ r n
  | 0 => Nat.le_refl 0
  | n + 1 => Nat.add_le_add (sA_le h n) (sB_le (fun k _ => h _))
theorem sA_eq {σ : MS} {q r : Nat → Nat} (h : ∀ i, q i ≤ r i) : ∀ n : Nat, sA σ q n = sA σ r n → ∀ s, s < n → ∀ k, k < mC σ s → q (4 * s + k) = r (4 * s + k)
  | 0, _, s, hs => absurd hs (Nat.not_lt_zero s)
  | n + 1, he, s, hs => by
    have h1 := sA_le (σ := σ) h n
    have h2 : sB (fun k => q (4 * n + k)) (mC σ n) ≤ sB (fun k => r (4 * n + k)) (mC σ n) := sB_le (fun k _ => h _)
    have he : sA σ q n + sB (fun k => q (4 * n + k)) (mC σ n) = sA σ r n + sB (fun k => r (4 * n + k)) (mC σ n) := he
    by_cases e : s = n
    · rw [e]; exact sB_eq (fun k _ => h _) (by omega)
    · exact sA_eq h n (by omega) s (by omega)
theorem sB_one {q : Nat → Nat} (h : ∀ k, q k ≤ 1) : ∀ m : Nat, sB q m ≤ m
  | 0 => Nat.le_refl 0
  | m + 1 => Nat.add_le_add (sB_one h m) (h m)
theorem sA_b {σ : MS} (hok : mOK σ) {q : Nat → Nat} (h : ∀ i, q i ≤ 1) : ∀ n : Nat, n ≤ 6 → sA σ q n ≤ 4 * n
  | 0, _ => Nat.le_refl 0
  | n + 1, hn => by
    have h1 := sA_b hok h n (by omega)
    have h2 := sB_one (q := fun k => q (4 * n + k)) (fun k => h _) (mC σ n)
    have h3 := hok.2.1 n (by omega)
    show sA σ q n + sB _ _ ≤ _
    omega
def qR (σ : MS) (only : Int) (i : Nat) : Nat := if only = 0 ∨ 0 < mT σ i then 1 else 0
theorem qR_1 (σ : MS) (only : Int) (i : Nat) : qR σ only i ≤ 1 := by unfold qR; split <;> omega
theorem rdy_iff {σ : MS} : rdy σ ↔ 0 < mN σ ∧ (∀ s, s < mN σ → 0 < mC σ s) ∧ sA σ (qR σ 1) (mN σ) = sA σ (qR σ 0) (mN σ) := by
  have hle : ∀ i, qR σ 1 i ≤ qR σ 0 i := fun i => by have := qR_1 σ 1 i; unfold qR at *; simp at *; exact this
  constructor
  · intro h
    refine ⟨h.1, fun s hs => (h.2 s hs).1, ?_⟩
    have key : ∀ n, n ≤ mN σ → sA σ (qR σ 1) n = sA σ (qR σ 0) n := by
      intro n
      induction n with
      | zero => intro _; rfl
      | succ n ih =>
        intro hn
        have : ∀ m, m ≤ mC σ n → sB (fun k => qR σ 1 (4 * n + k)) m = sB (fun k => qR σ 0 (4 * n + k)) m := by
          intro m
          induction m with
          | zero => intro _; rfl
          | succ m ih2 =>
            intro hm
            have h1 := (h.2 n (by omega)).2 m (by omega)
            show sB _ m + qR σ 1 (4 * n + m) = sB _ m + qR σ 0 (4 * n + m)
            rw [ih2 (by omega)]
            simp [qR, h1]
        show sA σ (qR σ 1) n + _ = sA σ (qR σ 0) n + _
        rw [ih (by omega), this (mC σ n) (Nat.le_refl _)]
    exact key _ (Nat.le_refl _)
  · intro ⟨h1, h2, h3⟩
    refine ⟨h1, fun s hs => ⟨h2 s hs, fun k hk => ?_⟩⟩
    have := sA_eq hle _ h3 s hs k hk
    unfold qR at this
    simp at this
    exact Nat.pos_of_ne_zero this
-- the cells
def AT (D : va_G) (E : Nat → ClassId) (b : Nat) (σ : MS) (i : Nat) (H : Heap) : Prop := OA D b 0 [.ref (b + 1), .int (iI (mU σ i)), .int (iI (mD σ i)), .int (iI (mT σ i))] H ∧ IA E (b + 1) 6 (fun t => (mW σ i t : Int)) H
def MO (D : va_G) (E : Nat → ClassId) (a : Nat) (σ : MS) (H : Heap) : Prop := OA D a 6 [.ref (a + 1), .ref (a + 2), .int (iI (mN σ)), .int (iI (mA σ)), .int (iI (mB σ))] H ∧ IA E (a + 1) 6 (fun s => (mC σ s : Int)) H ∧ QA E 3 (a + 2) 24 (fun i => some (a + 3 + 2 * i)) H ∧ ∀ i, i < 24 → AT D E (a + 3 + 2 * i) σ i H
theorem MO.lt {D : va_G} {E : Nat → ClassId} {a : Nat} {σ : MS} {H : Heap} (h : MO D E a σ H) : a + 50 < H.size := by
  have := (h.2.2.2 23 (by omega)).2.lt
  omega
theorem MO.k {D : va_G} {E : Nat → ClassId} {a : Nat} {σ : MS} {H H1 : Heap} (h : MO D E a σ H) (hq : ∀ q, a ≤ q → q ≤ a + 50 → q < H.size → H1[q]? = H[q]?) : MO D E a σ H1 := by
  have hl := h.lt
  obtain ⟨h0, h1, h2, h3⟩ := h
  refine ⟨h0.k (hq _ (by omega) (by omega) (by omega)), h1.k (hq _ (by omega) (by omega) (by omega)), h2.k (hq _ (by omega) (by omega) (by omega)), fun i hi => ?_⟩
  exact ⟨(h3 i hi).1.k (hq _ (by omega) (by omega) (by omega)), (h3 i hi).2.k (hq _ (by omega) (by omega) (by omega))⟩
set_option maxHeartbeats 4000000 in
set_option maxRecDepth 100000 in
/-- hasState(k) -/
theorem c_hasState (l : Launch) (D : va_G) (E : Nat → ClassId) (a : Nat) (σ : MS) (k : Int) (hok : mOK σ) (k1 : -2147483648 ≤ k) (k2 : k ≤ 2147483647) : pw_M rvI l D E yX6_hasState wsX6_hasState ({ frames := 0, cells := 0, slots := 0, locals := 0 } : Room) [.ref (a), .int (iI (k))] (fun H => MO D E a σ H) (fun z H => z = (if 0 ≤ k ∧ k < (mN σ : Int) then 1 else 0)) (fun _ => False) (0) (0) := by
  refine pw_of (cc := cX6_hasState) (maxL := 2) (ret := (some .boolean)) (by decide +kernel) rfl (Nat.le_of_ble_eq_true rfl) ?_
  intro p e s m args below meth c hx hb hr hml hts hown hlocks hini hK hM ls hl
  have hown : s.vm.findClass RX6 = some m.cls := hown
  have hl : lv_has ls 2 [(0, .ref (a)), (1, .int (iI (k)))] := hl
  have hS : va_S (fun _ => False) s.heap s.heap [] := va_S.rf
  have lk_22 := hts (.fieldLink RX6 22 "PolicyWorks$Model" "states" "I") (by decide +kernel)
  have hin6 : ∀ w ∈ wsX60, w ∈ wsX6_hasState := by decide +kernel
  have hO := hM.1
  have hC := hM.2.1
  have hQ := hM.2.2.1
  have hN6 := hok.1
  have hC4 := hok.2.1
  refine lv_iload_n hx hb dX6_hasState_0 rfl (lv_at hl 1 rfl) ?_
  refine pw_if_lt (tgt := 16) hx hb dX6_hasState_1 (by decide) (fun c_1 => ?_) (fun c_1 => ?_)
  · refine pw_iconst hx hb dX6_hasState_16 ?_
    exact pw_zret hx hb hr hlocks hS (by omega) (by rw [if_neg (by omega)]) dX6_hasState_17
  · refine lv_iload_n hx hb dX6_hasState_4 rfl (lv_at hl 1 rfl) ?_
    refine lv_aload_n hx hb dX6_hasState_5 rfl (lv_at hl 0 rfl) ?_
    refine pw_get (C := RX6) (T := TX6) (N := 5) hx hb hts hin6 hown hK hO rfl 2 (by decide) lk_22 rfl rfl dX6_hasState_6 ?_
    refine pw_icmp_ge (tgt := 16) hx hb dX6_hasState_9 (by decide) (fun c_9 => ?_) (fun c_9 => ?_)
    · refine pw_iconst hx hb dX6_hasState_16 ?_
      exact pw_zret hx hb hr hlocks hS (by omega) (by rw [if_neg (by omega)]) dX6_hasState_17
    · refine pw_iconst hx hb dX6_hasState_12 ?_
      refine lv_goto (tgt := 17) hx hb dX6_hasState_13 (by decide) ?_
      exact pw_zret hx hb hr hlocks hS (by omega) (by rw [if_pos (by omega)]) dX6_hasState_17
set_option maxHeartbeats 4000000 in
set_option maxRecDepth 100000 in
/-- hasAction(k, j) -/
theorem c_hasAction (l : Launch) (D : va_G) (E : Nat → ClassId) (a : Nat) (σ : MS) (k j : Int) (hok : mOK σ) (k1 : -2147483648 ≤ k) (k2 : k ≤ 2147483647) (j1 : -2147483648 ≤ j) (j2 : j ≤ 2147483647) : pw_M rvI l D E yX6_hasAction wsX6_hasAction ({ frames := 1, cells := 0, slots := 0, locals := 21 } : Room) [.ref (a), .int (iI (k)), .int (iI (j))] (fun H => MO D E a σ H) (fun z H => (z = 0 ∨ z = 1) ∧ (z = 1 ↔ 0 ≤ k ∧ k < (mN σ : Int) ∧ 0 ≤ j ∧ j < (mC σ k.toNat : Int))) (fun _ => False) (0) (0) := by
  refine pw_of (cc := cX6_hasAction) (maxL := 3) (ret := (some .boolean)) (by decide +kernel) rfl (Nat.le_of_ble_eq_true rfl) ?_
  intro p e s m args below meth c hx hb hr hml hts hown hlocks hini hK hM ls hl
  have hown : s.vm.findClass RX6 = some m.cls := hown
  have hl : lv_has ls 3 [(0, .ref (a)), (1, .int (iI (k))), (2, .int (iI (j)))] := hl
  have hS : va_S (fun _ => False) s.heap s.heap [] := va_S.rf
  have lk_9 := hts (.fieldLink RX6 9 "PolicyWorks$Model" "actionCounts" "[I") (by decide +kernel)
  have hin6 : ∀ w ∈ wsX60, w ∈ wsX6_hasAction := by decide +kernel
  have hO := hM.1
  have hC := hM.2.1
  have hQ := hM.2.2.1
  have hN6 := hok.1
  have hC4 := hok.2.1
  refine lv_aload_n hx hb dX6_hasAction_0 rfl (lv_at hl 0 rfl) ?_
  refine lv_iload_n hx hb dX6_hasAction_1 rfl (lv_at hl 1 rfl) ?_
  refine pw_callVi (As := [.int (iI (k))]) (rest := []) ⟨hx, hb, hml, hown, hts⟩ (c_hasState l D E a σ k hok k1 k2) (cwV 1 hts gX6_hasAction_X6_hasState rfl rfl rfl (by decide +kernel) ⟨Nat.le_of_ble_eq_true rfl, Nat.le_of_ble_eq_true rfl⟩) hK hO rfl hM rfl hl.1 rfl (Nat.le_of_ble_eq_true rfl) dX6_hasAction_2 ⟨Nat.zero_le _, Nat.zero_le _⟩ hS (fun q h => h.elim) (fun z H1 locs1 hz hz1 hk1 hS => ?_)
  have hO := hO.k (hk1 _ hO.lt (fun h => h))
  have hC := hC.k (hk1 _ hC.lt (fun h => h))
  have hQ := hQ.k (hk1 _ hQ.lt (fun h => h))
  have hM := hM.k (fun q _ _ hlt => hk1 q hlt (fun h => h))
  have hz01 : 0 ≤ z ∧ z ≤ 1 := by rw [hz]; split <;> omega
  refine pw_if_eq (tgt := 26) hx hb dX6_hasAction_5 (by decide) (fun c_5 => ?_) (fun c_5 => ?_)
  · refine pw_iconst hx hb dX6_hasAction_26 ?_
    exact pw_zret hx hb hr hlocks hS (by omega) ⟨by omega, ⟨fun h => by omega, fun h => by rw [if_pos ⟨h.1, h.2.1⟩] at hz; omega⟩⟩ dX6_hasAction_27
  · have hk0 : 0 ≤ k ∧ k < (mN σ : Int) := by
      by_cases h : 0 ≤ k ∧ k < (mN σ : Int)
      · exact h
      · rw [if_neg h] at hz; omega
    have hcj := hC4 k.toNat (by omega)
    refine lv_iload_n hx hb dX6_hasAction_8 rfl (lv_at hl 2 rfl) ?_
    refine pw_if_lt (tgt := 26) hx hb dX6_hasAction_9 (by decide) (fun c_9 => ?_) (fun c_9 => ?_)
    · refine pw_iconst hx hb dX6_hasAction_26 ?_
      exact pw_zret hx hb hr hlocks hS (by omega) ⟨by omega, ⟨fun h => by omega, fun h => by omega⟩⟩ dX6_hasAction_27
    · refine lv_iload_n hx hb dX6_hasAction_12 rfl (lv_at hl 2 rfl) ?_
      refine lv_aload_n hx hb dX6_hasAction_13 rfl (lv_at hl 0 rfl) ?_
      refine pw_get (C := RX6) (T := TX6) (N := 5) hx hb hts hin6 hown hK hO rfl 0 (by decide) lk_9 rfl rfl dX6_hasAction_14 ?_
      refine lv_iload_n hx hb dX6_hasAction_17 rfl (lv_at hl 1 rfl) ?_
      refine pw_iald hx hb hK hC (k.toNat) (by omega) (by omega) (by omega) dX6_hasAction_18 ?_
      refine pw_asi ((mC σ (k.toNat) : Int)) rfl ?_
      refine pw_icmp_ge (tgt := 26) hx hb dX6_hasAction_19 (by decide) (fun c_19 => ?_) (fun c_19 => ?_)
      · refine pw_iconst hx hb dX6_hasAction_26 ?_
        exact pw_zret hx hb hr hlocks hS (by omega) ⟨by omega, ⟨fun h => by omega, fun h => by omega⟩⟩ dX6_hasAction_27
      · refine pw_iconst hx hb dX6_hasAction_22 ?_
        refine lv_goto (tgt := 27) hx hb dX6_hasAction_23 (by decide) ?_
        exact pw_zret hx hb hr hlocks hS (by omega) ⟨by omega, ⟨fun _ => ⟨by omega, by omega, by omega, by omega⟩, fun _ => rfl⟩⟩ dX6_hasAction_27
set_option maxHeartbeats 4000000 in
set_option maxRecDepth 100000 in
/-- find(k, j) -/
theorem c_find (l : Launch) (D : va_G) (E : Nat → ClassId) (a : Nat) (σ : MS) (k j : Nat) (hk : k < 6) (hj : j < 4) : pw_M rvR l D E yX6_find wsX6_find ({ frames := 0, cells := 0, slots := 0, locals := 0 } : Room) [.ref (a), .int (iI ((k : Int))), .int (iI ((j : Int)))] (fun H => MO D E a σ H) (fun r H => r = a + 3 + 2 * (4 * k + j)) (fun _ => False) (0) (0) := by
  refine pw_of (cc := cX6_find) (maxL := 3) (ret := (some (.object "PolicyWorks$Action"))) (by decide +kernel) rfl (Nat.le_of_ble_eq_true rfl) ?_
  intro p e s m args below meth c hx hb hr hml hts hown hlocks hini hK hM ls hl
  have hown : s.vm.findClass RX6 = some m.cls := hown
  have hl : lv_has ls 3 [(0, .ref (a)), (1, .int (iI ((k : Int)))), (2, .int (iI ((j : Int))))] := hl
  have hS : va_S (fun _ => False) s.heap s.heap [] := va_S.rf
  have lk_17 := hts (.fieldLink RX6 17 "PolicyWorks$Model" "actions" "[LPolicyWorks$Action;") (by decide +kernel)
  have hin6 : ∀ w ∈ wsX60, w ∈ wsX6_find := by decide +kernel
  have hO := hM.1
  have hC := hM.2.1
  have hQ := hM.2.2.1
  refine lv_aload_n hx hb dX6_find_0 rfl (lv_at hl 0 rfl) ?_
  refine pw_get (C := RX6) (T := TX6) (N := 5) hx hb hts hin6 hown hK hO rfl 1 (by decide) lk_17 rfl rfl dX6_find_1 ?_
  refine lv_iload_n hx hb dX6_find_4 rfl (lv_at hl 1 rfl) ?_
  refine pw_iconst hx hb dX6_find_5 ?_
  refine pw_imul hx hb dX6_find_6 ?_
  refine lv_iload_n hx hb dX6_find_7 rfl (lv_at hl 2 rfl) ?_
  refine pw_iadd hx hb dX6_find_8 ?_
  refine pw_asi (((4 * k + j : Nat) : Int)) (by omega) ?_
  refine pw_qald hx hb hK hQ rfl (4 * k + j) rfl (by omega) (by omega) rfl dX6_find_9 ?_
  exact pw_aret (cn := "PolicyWorks$Action") hx hb hr hlocks hS rfl dX6_find_10
set_option maxHeartbeats 4000000 in
set_option maxRecDepth 100000 in
/-- countActions(onlyReady) -/
theorem c_countActions (l : Launch) (D : va_G) (E : Nat → ClassId) (a : Nat) (σ : MS) (only : Int) (hok : mOK σ) (ho : only = 0 ∨ only = 1) : pw_M rvI l D E yX6_countActions wsX6_countActions ({ frames := 1, cells := 0, slots := 0, locals := 22 } : Room) [.ref (a), .int (iI (only))] (fun H => MO D E a σ H) (fun z H => z = (sA σ (qR σ only) (mN σ) : Int)) (fun _ => False) (0) (0) := by
  refine pw_of (cc := cX6_countActions) (maxL := 5) (ret := (some .int)) (by decide +kernel) rfl (Nat.le_of_ble_eq_true rfl) ?_
  intro p e s m args below meth c hx hb hr hml hts hown hlocks hini hK hM ls hl
  have hown : s.vm.findClass RX6 = some m.cls := hown
  have hl : lv_has ls 5 [(0, .ref (a)), (1, .int (iI (only)))] := hl
  have hS : va_S (fun _ => False) s.heap s.heap [] := va_S.rf
  have lk_9 := hts (.fieldLink RX6 9 "PolicyWorks$Model" "actionCounts" "[I") (by decide +kernel)
  have lk_22 := hts (.fieldLink RX6 22 "PolicyWorks$Model" "states" "I") (by decide +kernel)
  have lk_40 := hts (.fieldLink RX6 40 "PolicyWorks$Action" "total" "I") (by decide +kernel)
  have hin0 : ∀ w ∈ wsX00, w ∈ wsX6_countActions := by decide +kernel
  have hin6 : ∀ w ∈ wsX60, w ∈ wsX6_countActions := by decide +kernel
  have hO := hM.1
  have hC := hM.2.1
  have hQ := hM.2.2.1
  have hN6 := hok.1
  have hC4 := hok.2.1
  have hb1 := fun n hn => sA_b hok (q := qR σ only) (qR_1 σ only) n hn
  have inner : ∀ (i : Nat), i < mN σ → (∀ (H : Heap) (locs : List Loc) (ls : Array Slot), MO D E a σ H → va_S (fun _ => False) s.heap H locs → lv_has ls 5 [(0, .ref (a)), (1, .int (iI (only))), (2, .int (iI ((sA σ (qR σ only) (i + 1) : Int)))), (3, .int (iI (((i + 1 : Nat) : Int))))] → W p l e ({ frames := 1, cells := 0, slots := 0, locals := 22 } : Room) s m args below meth c H locs (0) (0) (MQ below (pw_Q rvI (fun z H => z = (sA σ (qR σ only) (mN σ) : Int)) (fun _ => False)) args s (0) (0) (fun _ => False)) (F0 m 4 ls [])) → ∀ (k j : Nat) (H : Heap) (locs : List Loc) (ls : Array Slot), j + k = mC σ i → MO D E a σ H → va_S (fun _ => False) s.heap H locs → lv_has ls 5 [(0, .ref (a)), (1, .int (iI (only))), (2, .int (iI (((sA σ (qR σ only) i + sB (fun k => qR σ only (4 * i + k)) j : Nat) : Int)))), (3, .int (iI ((i : Int)))), (4, .int (iI ((j : Int))))] → W p l e ({ frames := 1, cells := 0, slots := 0, locals := 22 } : Room) s m args below meth c H locs (0) (0) (MQ below (pw_Q rvI (fun z H => z = (sA σ (qR σ only) (mN σ) : Int)) (fun _ => False)) args s (0) (0) (fun _ => False)) (F0 m 15 ls []) := by
    intro i hi next k
    have hc := hC4 i (by omega)
    have hb2 := hb1 i (by omega)
    have hb3 := fun m => sB_one (q := fun k => qR σ only (4 * i + k)) (fun k => qR_1 σ only _) m
    induction k with
    | zero =>
      intro j H locs ls hj hM hS hl
      have hO := hM.1
      have hC := hM.2.1
      have hQ := hM.2.2.1
      refine lv_iload hx hb dX6_countActions_15 (lv_at hl 4 rfl) ?_
      refine lv_aload_n hx hb dX6_countActions_17 rfl (lv_at hl 0 rfl) ?_
      refine pw_get (C := RX6) (T := TX6) (N := 5) hx hb hts hin6 hown hK hO rfl 0 (by decide) lk_9 rfl rfl dX6_countActions_18 ?_
      refine lv_iload_n hx hb dX6_countActions_21 rfl (lv_at hl 3 rfl) ?_
      refine pw_iald hx hb hK hC (i) rfl (by omega) (by omega) dX6_countActions_22 ?_
      refine pw_asi ((mC σ (i) : Int)) rfl ?_
      refine pw_icmp_ge (tgt := 52) hx hb dX6_countActions_23 (by decide) (fun c_23 => ?_) (fun c_23 => absurd c_23 (by omega))
      refine lv_iinc (v := iI (((i + 1 : Nat) : Int))) (lv' := [(3, .int (iI (((i + 1 : Nat) : Int)))), (0, .ref (a)), (1, .int (iI (only))), (2, .int (iI (((sA σ (qR σ only) i + sB (fun k => qR σ only (4 * i + k)) j : Nat) : Int)))), (4, .int (iI ((j : Int))))]) hx hb dX6_countActions_52 hl (k := 3) rfl (by show iI _ + iI _ = _; exact (iI_add _ _).trans (by first | rfl | (congr 1; omega))) (by decide) rfl (fun ls hl => ?_)
      refine lv_goto (tgt := 4) hx hb dX6_countActions_55 (by decide) ?_
      have ej : j = mC σ i := by omega
      subst ej
      exact next _ _ _ hM hS (lv_sub hl [1, 2, 3, 0] rfl)
    | succ k ih =>
      intro j H locs ls hj hM hS hl
      have hO := hM.1
      have hC := hM.2.1
      have hQ := hM.2.2.1
      have hb4 := hb3 j
      have hAT := hM.2.2.2 (4 * i + j) (by omega)
      have htb := mT_b hok (i := 4 * i + j) (by omega)
      refine lv_iload hx hb dX6_countActions_15 (lv_at hl 4 rfl) ?_
      refine lv_aload_n hx hb dX6_countActions_17 rfl (lv_at hl 0 rfl) ?_
      refine pw_get (C := RX6) (T := TX6) (N := 5) hx hb hts hin6 hown hK hO rfl 0 (by decide) lk_9 rfl rfl dX6_countActions_18 ?_
      refine lv_iload_n hx hb dX6_countActions_21 rfl (lv_at hl 3 rfl) ?_
      refine pw_iald hx hb hK hC (i) rfl (by omega) (by omega) dX6_countActions_22 ?_
      refine pw_asi ((mC σ (i) : Int)) rfl ?_
      refine pw_icmp_ge (tgt := 52) hx hb dX6_countActions_23 (by decide) (fun c_23 => absurd c_23 (by omega)) (fun c_23 => ?_)
      refine lv_iload_n hx hb dX6_countActions_26 rfl (lv_at hl 1 rfl) ?_
      refine pw_if_eq (tgt := 43) hx hb dX6_countActions_27 (by decide) (fun c_27 => ?_) (fun c_27 => ?_)
      · refine lv_iinc (v := iI (((sA σ (qR σ only) i + sB (fun k => qR σ only (4 * i + k)) j : Nat) : Int) + 1)) (lv' := [(2, .int (iI (((sA σ (qR σ only) i + sB (fun k => qR σ only (4 * i + k)) j : Nat) : Int) + 1))), (0, .ref (a)), (1, .int (iI (only))), (3, .int (iI ((i : Int)))), (4, .int (iI ((j : Int))))]) hx hb dX6_countActions_43 hl (k := 2) rfl (by show iI _ + iI _ = _; exact (iI_add _ _).trans (by first | rfl | (congr 1; omega))) (by decide) rfl (fun ls hl => ?_)
        refine lv_iinc (v := iI (((j + 1 : Nat) : Int))) (lv' := [(4, .int (iI (((j + 1 : Nat) : Int)))), (2, .int (iI (((sA σ (qR σ only) i + sB (fun k => qR σ only (4 * i + k)) j : Nat) : Int) + 1))), (0, .ref (a)), (1, .int (iI (only))), (3, .int (iI ((i : Int))))]) hx hb dX6_countActions_46 hl (k := 4) rfl (by show iI _ + iI _ = _; exact (iI_add _ _).trans (by first | rfl | (congr 1; omega))) (by decide) rfl (fun ls hl => ?_)
        refine lv_goto (tgt := 15) hx hb dX6_countActions_49 (by decide) ?_
        have eq1 : qR σ only (4 * i + j) = 1 := by simp [qR, c_27]
        have esb : sB (fun k => qR σ only (4 * i + k)) (j + 1) = sB (fun k => qR σ only (4 * i + k)) j + 1 := by show sB _ j + qR σ only (4 * i + j) = _; rw [eq1]
        have hl : lv_has ls 5 [(0, .ref (a)), (1, .int (iI (only))), (2, .int (iI (((sA σ (qR σ only) i + sB (fun k => qR σ only (4 * i + k)) (j + 1) : Nat) : Int)))), (3, .int (iI ((i : Int)))), (4, .int (iI (((j + 1 : Nat) : Int))))] := by
          rw [esb]
          have e9 : ((sA σ (qR σ only) i + (sB (fun k => qR σ only (4 * i + k)) j + 1) : Nat) : Int) = ((sA σ (qR σ only) i + sB (fun k => qR σ only (4 * i + k)) j : Nat) : Int) + 1 := by omega
          rw [e9]
          exact lv_sub hl [2, 3, 1, 4, 0] rfl
        exact ih (j + 1) _ _ _ (by omega) hM hS hl
      · refine lv_aload_n hx hb dX6_countActions_30 rfl (lv_at hl 0 rfl) ?_
        refine lv_iload_n hx hb dX6_countActions_31 rfl (lv_at hl 3 rfl) ?_
        refine lv_iload hx hb dX6_countActions_32 (lv_at hl 4 rfl) ?_
        refine pw_callVr (As := [.int (iI ((i : Int))), .int (iI ((j : Int)))]) (rest := []) ⟨hx, hb, hml, hown, hts⟩ (c_find l D E a σ i j (by omega) (by omega)) (cwV 2 hts gX6_countActions_X6_find rfl rfl rfl (by decide +kernel) ⟨Nat.le_of_ble_eq_true rfl, Nat.le_of_ble_eq_true rfl⟩) hK hO rfl hM rfl hl.1 rfl (Nat.le_of_ble_eq_true rfl) dX6_countActions_34 ⟨Nat.zero_le _, Nat.zero_le _⟩ hS (fun q h => h.elim) (fun z H1 locs1 hz hz1 hk1 hS => ?_)
        have hO := hO.k (hk1 _ hO.lt (fun h => h))
        have hC := hC.k (hk1 _ hC.lt (fun h => h))
        have hQ := hQ.k (hk1 _ hQ.lt (fun h => h))
        have hM := hM.k (fun q _ _ hlt => hk1 q hlt (fun h => h))
        subst hz
        have hAT := hM.2.2.2 (4 * i + j) (by omega)
        have hAO := hAT.1
        refine pw_get (C := RX0) (T := TX0) (N := 4) hx hb hts hin0 hown hK hAO rfl 3 (by decide) lk_40 rfl rfl dX6_countActions_37 ?_
        refine pw_if_le (tgt := 46) hx hb dX6_countActions_40 (by decide) (fun c_40 => ?_) (fun c_40 => ?_)
        · refine lv_iinc (v := iI (((j + 1 : Nat) : Int))) (lv' := [(4, .int (iI (((j + 1 : Nat) : Int)))), (0, .ref (a)), (1, .int (iI (only))), (2, .int (iI (((sA σ (qR σ only) i + sB (fun k => qR σ only (4 * i + k)) j : Nat) : Int)))), (3, .int (iI ((i : Int))))]) hx hb dX6_countActions_46 hl (k := 4) rfl (by show iI _ + iI _ = _; exact (iI_add _ _).trans (by first | rfl | (congr 1; omega))) (by decide) rfl (fun ls hl => ?_)
          refine lv_goto (tgt := 15) hx hb dX6_countActions_49 (by decide) ?_
          have eq1 : qR σ only (4 * i + j) = 0 := by simp [qR]; omega
          have esb : sB (fun k => qR σ only (4 * i + k)) (j + 1) = sB (fun k => qR σ only (4 * i + k)) j + 0 := by show sB _ j + qR σ only (4 * i + j) = _; rw [eq1]
          have hl : lv_has ls 5 [(0, .ref (a)), (1, .int (iI (only))), (2, .int (iI (((sA σ (qR σ only) i + sB (fun k => qR σ only (4 * i + k)) (j + 1) : Nat) : Int)))), (3, .int (iI ((i : Int)))), (4, .int (iI (((j + 1 : Nat) : Int))))] := by
            rw [esb]
            have e9 : ((sA σ (qR σ only) i + (sB (fun k => qR σ only (4 * i + k)) j + 0) : Nat) : Int) = ((sA σ (qR σ only) i + sB (fun k => qR σ only (4 * i + k)) j : Nat) : Int) := by omega
            rw [e9]
            exact lv_sub hl [1, 2, 3, 4, 0] rfl
          exact ih (j + 1) _ _ _ (by omega) hM hS hl
        · refine lv_iinc (v := iI (((sA σ (qR σ only) i + sB (fun k => qR σ only (4 * i + k)) j : Nat) : Int) + 1)) (lv' := [(2, .int (iI (((sA σ (qR σ only) i + sB (fun k => qR σ only (4 * i + k)) j : Nat) : Int) + 1))), (0, .ref (a)), (1, .int (iI (only))), (3, .int (iI ((i : Int)))), (4, .int (iI ((j : Int))))]) hx hb dX6_countActions_43 hl (k := 2) rfl (by show iI _ + iI _ = _; exact (iI_add _ _).trans (by first | rfl | (congr 1; omega))) (by decide) rfl (fun ls hl => ?_)
          refine lv_iinc (v := iI (((j + 1 : Nat) : Int))) (lv' := [(4, .int (iI (((j + 1 : Nat) : Int)))), (2, .int (iI (((sA σ (qR σ only) i + sB (fun k => qR σ only (4 * i + k)) j : Nat) : Int) + 1))), (0, .ref (a)), (1, .int (iI (only))), (3, .int (iI ((i : Int))))]) hx hb dX6_countActions_46 hl (k := 4) rfl (by show iI _ + iI _ = _; exact (iI_add _ _).trans (by first | rfl | (congr 1; omega))) (by decide) rfl (fun ls hl => ?_)
          refine lv_goto (tgt := 15) hx hb dX6_countActions_49 (by decide) ?_
          have eq1 : qR σ only (4 * i + j) = 1 := by simp [qR]; omega
          have esb : sB (fun k => qR σ only (4 * i + k)) (j + 1) = sB (fun k => qR σ only (4 * i + k)) j + 1 := by show sB _ j + qR σ only (4 * i + j) = _; rw [eq1]
          have hl : lv_has ls 5 [(0, .ref (a)), (1, .int (iI (only))), (2, .int (iI (((sA σ (qR σ only) i + sB (fun k => qR σ only (4 * i + k)) (j + 1) : Nat) : Int)))), (3, .int (iI ((i : Int)))), (4, .int (iI (((j + 1 : Nat) : Int))))] := by
            rw [esb]
            have e9 : ((sA σ (qR σ only) i + (sB (fun k => qR σ only (4 * i + k)) j + 1) : Nat) : Int) = ((sA σ (qR σ only) i + sB (fun k => qR σ only (4 * i + k)) j : Nat) : Int) + 1 := by omega
            rw [e9]
            exact lv_sub hl [2, 3, 1, 4, 0] rfl
          exact ih (j + 1) _ _ _ (by omega) hM hS hl
  have outer : ∀ (k i : Nat) (H : Heap) (locs : List Loc) (ls : Array Slot), i + k = mN σ → MO D E a σ H → va_S (fun _ => False) s.heap H locs → lv_has ls 5 [(0, .ref (a)), (1, .int (iI (only))), (2, .int (iI ((sA σ (qR σ only) i : Int)))), (3, .int (iI ((i : Int))))] → W p l e ({ frames := 1, cells := 0, slots := 0, locals := 22 } : Room) s m args below meth c H locs (0) (0) (MQ below (pw_Q rvI (fun z H => z = (sA σ (qR σ only) (mN σ) : Int)) (fun _ => False)) args s (0) (0) (fun _ => False)) (F0 m 4 ls []) := by
    intro k
    induction k with
    | zero =>
      intro i H locs ls hi hM hS hl
      have hO := hM.1
      have hC := hM.2.1
      have hQ := hM.2.2.1
      have ei : i = mN σ := by omega
      subst ei
      have hb2 := hb1 (mN σ) (by omega)
      refine lv_iload_n hx hb dX6_countActions_4 rfl (lv_at hl 3 rfl) ?_
      refine lv_aload_n hx hb dX6_countActions_5 rfl (lv_at hl 0 rfl) ?_
      refine pw_get (C := RX6) (T := TX6) (N := 5) hx hb hts hin6 hown hK hO rfl 2 (by decide) lk_22 rfl rfl dX6_countActions_6 ?_
      refine pw_icmp_ge (tgt := 58) hx hb dX6_countActions_9 (by decide) (fun c_9 => ?_) (fun c_9 => absurd c_9 (by omega))
      refine lv_iload_n hx hb dX6_countActions_58 rfl (lv_at hl 2 rfl) ?_
      exact pw_iret hx hb hr hlocks hS rfl dX6_countActions_59
    | succ k ih =>
      intro i H locs ls hi hM hS hl
      have hO := hM.1
      have hC := hM.2.1
      have hQ := hM.2.2.1
      refine lv_iload_n hx hb dX6_countActions_4 rfl (lv_at hl 3 rfl) ?_
      refine lv_aload_n hx hb dX6_countActions_5 rfl (lv_at hl 0 rfl) ?_
      refine pw_get (C := RX6) (T := TX6) (N := 5) hx hb hts hin6 hown hK hO rfl 2 (by decide) lk_22 rfl rfl dX6_countActions_6 ?_
      refine pw_icmp_ge (tgt := 58) hx hb dX6_countActions_9 (by decide) (fun c_9 => absurd c_9 (by omega)) (fun c_9 => ?_)
      refine pw_iconst hx hb dX6_countActions_12 ?_
      refine lv_istore (lv' := [(4, .int (iI (0))), (0, .ref (a)), (1, .int (iI (only))), (2, .int (iI ((sA σ (qR σ only) i : Int)))), (3, .int (iI ((i : Int))))]) hx hb dX6_countActions_13 hl (by decide) rfl (fun ls hl => ?_)
      exact inner i (by omega) (fun H locs ls hM hS hl => ih (i + 1) H locs ls (by omega) hM hS hl) (mC σ i) 0 _ _ _ (by omega) hM hS (lv_sub hl [1, 2, 3, 4, 0] rfl)
  refine pw_iconst hx hb dX6_countActions_0 ?_
  refine lv_istore_n (lv' := [(2, .int (iI (0))), (0, .ref (a)), (1, .int (iI (only)))]) hx hb dX6_countActions_1 rfl hl (by decide) rfl (fun ls hl => ?_)
  refine pw_iconst hx hb dX6_countActions_2 ?_
  refine lv_istore_n (lv' := [(3, .int (iI (0))), (2, .int (iI (0))), (0, .ref (a)), (1, .int (iI (only)))]) hx hb dX6_countActions_3 rfl hl (by decide) rfl (fun ls hl => ?_)
  exact outer (mN σ) 0 _ _ _ (by omega) hM hS (lv_sub hl [2, 3, 1, 0] rfl)
set_option maxHeartbeats 4000000 in
set_option maxRecDepth 100000 in
/-- allReady() -/
theorem c_allReady (l : Launch) (D : va_G) (E : Nat → ClassId) (a : Nat) (σ : MS) (hok : mOK σ) : pw_M rvI l D E yX6_allReady wsX6_allReady ({ frames := 2, cells := 0, slots := 0, locals := 46 } : Room) [.ref (a)] (fun H => MO D E a σ H) (fun z H => (z = 0 ∨ z = 1) ∧ (z = 1 ↔ rdy σ)) (fun _ => False) (0) (0) := by
  refine pw_of (cc := cX6_allReady) (maxL := 2) (ret := (some .boolean)) (by decide +kernel) rfl (Nat.le_of_ble_eq_true rfl) ?_
  intro p e s m args below meth c hx hb hr hml hts hown hlocks hini hK hM ls hl
  have hown : s.vm.findClass RX6 = some m.cls := hown
  have hl : lv_has ls 2 [(0, .ref (a))] := hl
  have hS : va_S (fun _ => False) s.heap s.heap [] := va_S.rf
  have lk_9 := hts (.fieldLink RX6 9 "PolicyWorks$Model" "actionCounts" "[I") (by decide +kernel)
  have lk_22 := hts (.fieldLink RX6 22 "PolicyWorks$Model" "states" "I") (by decide +kernel)
  have hin6 : ∀ w ∈ wsX60, w ∈ wsX6_allReady := by decide +kernel
  have hO := hM.1
  have hC := hM.2.1
  have hQ := hM.2.2.1
  have hN6 := hok.1
  have hC4 := hok.2.1
  have hb1 := sA_b hok (q := qR σ 1) (qR_1 σ 1) (mN σ) hok.1
  have hb0 := sA_b hok (q := qR σ 0) (qR_1 σ 0) (mN σ) hok.1
  have hri := rdy_iff (σ := σ)
  have loop : ∀ (k i : Nat) (H : Heap) (locs : List Loc) (ls : Array Slot), i + k = mN σ → (∀ t, t < i → 0 < mC σ t) → MO D E a σ H → va_S (fun _ => False) s.heap H locs → lv_has ls 2 [(0, .ref (a)), (1, .int (iI ((i : Int))))] → W p l e ({ frames := 2, cells := 0, slots := 0, locals := 46 } : Room) s m args below meth c H locs (0) (0) (MQ below (pw_Q rvI (fun z H => (z = 0 ∨ z = 1) ∧ (z = 1 ↔ rdy σ)) (fun _ => False)) args s (0) (0) (fun _ => False)) (F0 m 2 ls []) := by
    intro k
    induction k with
    | zero =>
      intro i H locs ls hi h0 hM hS hl
      have hO := hM.1
      have hC := hM.2.1
      have hQ := hM.2.2.1
      refine lv_iload_n hx hb dX6_allReady_2 rfl (lv_at hl 1 rfl) ?_
      refine lv_aload_n hx hb dX6_allReady_3 rfl (lv_at hl 0 rfl) ?_
      refine pw_get (C := RX6) (T := TX6) (N := 5) hx hb hts hin6 hown hK hO rfl 2 (by decide) lk_22 rfl rfl dX6_allReady_4 ?_
      refine pw_icmp_ge (tgt := 27) hx hb dX6_allReady_7 (by decide) (fun c_7 => ?_) (fun c_7 => absurd c_7 (by omega))
      refine lv_aload_n hx hb dX6_allReady_27 rfl (lv_at hl 0 rfl) ?_
      refine pw_get (C := RX6) (T := TX6) (N := 5) hx hb hts hin6 hown hK hO rfl 2 (by decide) lk_22 rfl rfl dX6_allReady_28 ?_
      refine pw_if_le (tgt := 51) hx hb dX6_allReady_31 (by decide) (fun c_31 => ?_) (fun c_31 => ?_)
      · refine pw_iconst hx hb dX6_allReady_51 ?_
        exact pw_zret hx hb hr hlocks hS (by omega) ⟨by omega, ⟨fun h => by omega, fun h => by have := hri.mp h; omega⟩⟩ dX6_allReady_52
      · refine lv_aload_n hx hb dX6_allReady_34 rfl (lv_at hl 0 rfl) ?_
        refine pw_iconst hx hb dX6_allReady_35 ?_
        refine pw_callVi (As := [.int (iI (1))]) (rest := []) ⟨hx, hb, hml, hown, hts⟩ (c_countActions l D E a σ 1 hok (by omega)) (cwV 1 hts gX6_allReady_X6_countActions rfl rfl rfl (by decide +kernel) ⟨Nat.le_of_ble_eq_true rfl, Nat.le_of_ble_eq_true rfl⟩) hK hO rfl hM rfl hl.1 rfl (Nat.le_of_ble_eq_true rfl) dX6_allReady_36 ⟨Nat.zero_le _, Nat.zero_le _⟩ hS (fun q h => h.elim) (fun z H1 locs1 hz hz1 hk1 hS => ?_)
        have hO := hO.k (hk1 _ hO.lt (fun h => h))
        have hC := hC.k (hk1 _ hC.lt (fun h => h))
        have hQ := hQ.k (hk1 _ hQ.lt (fun h => h))
        have hM := hM.k (fun q _ _ hlt => hk1 q hlt (fun h => h))
        subst hz
        refine lv_aload_n hx hb dX6_allReady_39 rfl (lv_at hl 0 rfl) ?_
        refine pw_iconst hx hb dX6_allReady_40 ?_
        refine pw_callVi (As := [.int (iI (0))]) (rest := [.int (iI ((sA σ (qR σ 1) (mN σ) : Int)))]) ⟨hx, hb, hml, hown, hts⟩ (c_countActions l D E a σ 0 hok (by omega)) (cwV 1 hts gX6_allReady_X6_countActions rfl rfl rfl (by decide +kernel) ⟨Nat.le_of_ble_eq_true rfl, Nat.le_of_ble_eq_true rfl⟩) hK hO rfl hM rfl hl.1 rfl (Nat.le_of_ble_eq_true rfl) dX6_allReady_41 ⟨Nat.zero_le _, Nat.zero_le _⟩ hS (fun q h => h.elim) (fun z H1 locs1 hz hz1 hk1 hS => ?_)
        have hO := hO.k (hk1 _ hO.lt (fun h => h))
        have hC := hC.k (hk1 _ hC.lt (fun h => h))
        have hQ := hQ.k (hk1 _ hQ.lt (fun h => h))
        have hM := hM.k (fun q _ _ hlt => hk1 q hlt (fun h => h))
        subst hz
        refine pw_icmp_ne (tgt := 51) hx hb dX6_allReady_44 (by decide) (fun c_44 => ?_) (fun c_44 => ?_)
        · refine pw_iconst hx hb dX6_allReady_51 ?_
          exact pw_zret hx hb hr hlocks hS (by omega) ⟨by omega, ⟨fun h => by omega, fun h => by have := hri.mp h; omega⟩⟩ dX6_allReady_52
        · refine pw_iconst hx hb dX6_allReady_47 ?_
          refine lv_goto (tgt := 52) hx hb dX6_allReady_48 (by decide) ?_
          exact pw_zret hx hb hr hlocks hS (by omega) ⟨by omega, ⟨fun _ => hri.mpr ⟨by omega, fun t ht => h0 t (by omega), by omega⟩, fun _ => rfl⟩⟩ dX6_allReady_52
    | succ k ih =>
      intro i H locs ls hi h0 hM hS hl
      have hO := hM.1
      have hC := hM.2.1
      have hQ := hM.2.2.1
      have hci := hC4 i (by omega)
      refine lv_iload_n hx hb dX6_allReady_2 rfl (lv_at hl 1 rfl) ?_
      refine lv_aload_n hx hb dX6_allReady_3 rfl (lv_at hl 0 rfl) ?_
      refine pw_get (C := RX6) (T := TX6) (N := 5) hx hb hts hin6 hown hK hO rfl 2 (by decide) lk_22 rfl rfl dX6_allReady_4 ?_
      refine pw_icmp_ge (tgt := 27) hx hb dX6_allReady_7 (by decide) (fun c_7 => absurd c_7 (by omega)) (fun c_7 => ?_)
      refine lv_aload_n hx hb dX6_allReady_10 rfl (lv_at hl 0 rfl) ?_
      refine pw_get (C := RX6) (T := TX6) (N := 5) hx hb hts hin6 hown hK hO rfl 0 (by decide) lk_9 rfl rfl dX6_allReady_11 ?_
      refine lv_iload_n hx hb dX6_allReady_14 rfl (lv_at hl 1 rfl) ?_
      refine pw_iald hx hb hK hC (i) rfl (by omega) (by omega) dX6_allReady_15 ?_
      refine pw_asi ((mC σ (i) : Int)) rfl ?_
      refine pw_if_ne (tgt := 21) hx hb dX6_allReady_16 (by decide) (fun c_16 => ?_) (fun c_16 => ?_)
      · refine lv_iinc (v := iI (((i + 1 : Nat) : Int))) (lv' := [(1, .int (iI (((i + 1 : Nat) : Int)))), (0, .ref (a))]) hx hb dX6_allReady_21 hl (k := 1) rfl (by show iI _ + iI _ = _; exact (iI_add _ _).trans (by first | rfl | (congr 1; omega))) (by decide) rfl (fun ls hl => ?_)
        refine lv_goto (tgt := 2) hx hb dX6_allReady_24 (by decide) ?_
        exact ih (i + 1) _ _ _ (by omega) (fun t ht => by
        by_cases e : t = i
        · rw [e]; omega
        · exact h0 t (by omega)) hM hS (lv_sub hl [1, 0] rfl)
      · refine pw_iconst hx hb dX6_allReady_19 ?_
        exact pw_zret hx hb hr hlocks hS (by omega) ⟨by omega, ⟨fun h => by omega, fun h => by have := (h.2 i (by omega)).1; omega⟩⟩ dX6_allReady_20
  refine pw_iconst hx hb dX6_allReady_0 ?_
  refine lv_istore_n (lv' := [(1, .int (iI (0))), (0, .ref (a))]) hx hb dX6_allReady_1 rfl hl (by decide) rfl (fun ls hl => ?_)
  exact loop (mN σ) 0 _ _ _ (by omega) (fun t ht => by omega) hM hS (lv_sub hl [1, 0] rfl)
