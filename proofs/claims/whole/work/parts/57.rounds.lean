/-! rounds: which policies follow each other, and that they end -/
theorem pigeon : ∀ (n : Nat) (f : Nat → Nat), (∀ i, i ≤ n → f i < n) → ∃ i j, i < j ∧ j ≤ n ∧ f i = f j
  | 0, f, h => absurd (h 0 (Nat.le_refl 0)) (Nat.not_lt_zero _)
  | n + 1, f, h => by
    by_cases hx : ∃ i, i ≤ n ∧ f i = f (n + 1)
    · obtain ⟨i, h1, h2⟩ := hx
      exact ⟨i, n + 1, by omega, Nat.le_refl _, h2⟩
    · have hx2 : ∀ i, i ≤ n → f i ≠ f (n + 1) := fun i hi he => hx ⟨i, hi, he⟩
      have hl := h (n + 1) (Nat.le_refl _)
      obtain ⟨i, j, h1, h2, h3⟩ := pigeon n (fun i => if f i = n then f (n + 1) else f i) (fun i hi => by
        have a1 := h i (by omega)
        have a2 := hx2 i hi
        split <;> omega)
      refine ⟨i, j, h1, by omega, ?_⟩
      have a1 := hx2 i (by omega)
      have a2 := hx2 j (by omega)
      split at h3 <;> split at h3 <;> omega
/-- the policies of the rounds: from the first actions on -/
def seqOK (σ : MS) (sq : Nat → Nat → Nat) (r : Nat) : Prop := (∀ s, s < mN σ → sq 0 s = 0) ∧ ∀ j, j < r → ∃ v b, PV σ (sq j) v b ∧ ∀ s, s < mN σ → sq (j + 1) s = npol σ (sq j) v b s
def chg (σ : MS) (sq : Nat → Nat → Nat) (j : Nat) : Prop := ∃ s, s < mN σ ∧ sq (j + 1) s ≠ sq j s
theorem seq_lt {σ : MS} (hr : rdy σ) {sq : Nat → Nat → Nat} {r : Nat} (h : seqOK σ sq r) : ∀ j, j ≤ r → ∀ s, s < mN σ → sq j s < mC σ s
  | 0, _, s, hs => by rw [h.1 s hs]; exact (hr.2 s hs).1
  | j + 1, hj, s, hs => by
    obtain ⟨v, b, _, h2⟩ := h.2 j (by omega)
    rw [h2 s hs]
    exact npol_lt (seq_lt hr h j (by omega) s hs)
theorem seq_up {σ : MS} (hok : mOK σ) (hr : rdy σ) {sq : Nat → Nat → Nat} {r : Nat} (h : seqOK σ sq r) {i : Nat} {vi : Nat → Int} {bi : Int} (hi : PV σ (sq i) vi bi) : ∀ d, i + 1 + d ≤ r → (∀ j, i ≤ j → j < i + 1 + d → chg σ sq j) → ∀ (w : Nat → Int) (c : Int), PV σ (sq (i + 1 + d)) w c → (∀ s, s < mN σ → vi s * c ≤ w s * bi) ∧ ∃ s, s < mN σ ∧ vi s * c < w s * bi := by
  have one : ∀ j, j < r → ∀ (v : Nat → Int) (b : Int), PV σ (sq j) v b → ∀ (w : Nat → Int) (c : Int), PV σ (sq (j + 1)) w c → (∀ s, s < mN σ → v s * c ≤ w s * b) ∧ ∀ s, s < mN σ → sq (j + 1) s ≠ sq j s → v s * c < w s * b := by
    intro j hj v b hv w c hw
    obtain ⟨v1, b1, h1, h2⟩ := h.2 j hj
    have hlt := seq_lt hr h j (by omega)
    have hw' : PV σ (npol σ (sq j) v1 b1) w c := pv_congr hw h2
    obtain ⟨g1, g2⟩ := round_ge hok hr hlt h1 hw'
    have hu := pv_uniq hok hr hlt hv h1
    refine ⟨fun s hs => frac_trans hv.1 h1.1 hw.1 (Int.le_of_eq (hu s hs)) (g1 s hs), fun s hs hne => frac_trans_lt hv.1 h1.1 hw.1 (Int.le_of_eq (hu s hs)) (g2 s hs (by rw [← h2 s hs]; exact hne))⟩
  intro d
  induction d with
  | zero =>
    intro hd hc w c hw
    obtain ⟨g1, g2⟩ := one i (by omega) vi bi hi w c hw
    obtain ⟨s, hs, hne⟩ := hc i (Nat.le_refl i) (by omega)
    exact ⟨g1, s, hs, g2 s hs hne⟩
  | succ d ih =>
    intro hd hc w c hw
    obtain ⟨v1, b1, h1⟩ := pv_ex hok hr (seq_lt hr h (i + 1 + d) (by omega))
    obtain ⟨p1, s, hs, p2⟩ := ih (by omega) (fun j a1 a2 => hc j a1 (by omega)) v1 b1 h1
    obtain ⟨g1, _⟩ := one (i + 1 + d) (by omega) v1 b1 h1 w c hw
    exact ⟨fun s hs => frac_trans hi.1 h1.1 hw.1 (p1 s hs) (g1 s hs), s, hs, frac_lt_trans hi.1 h1.1 hw.1 p2 (g1 s hs)⟩
theorem seq_ne {σ : MS} (hok : mOK σ) (hr : rdy σ) {sq : Nat → Nat → Nat} {r : Nat} (h : seqOK σ sq r) (hc : ∀ j, j < r → chg σ sq j) {i j : Nat} (hij : i < j) (hj : j ≤ r) : ¬ ∀ s, s < mN σ → sq i s = sq j s := by
  intro he
  obtain ⟨v, b, hv⟩ := pv_ex hok hr (seq_lt hr h i (by omega))
  obtain ⟨d, rfl⟩ : ∃ d, j = i + 1 + d := ⟨j - i - 1, by omega⟩
  obtain ⟨_, s, hs, hlt⟩ := seq_up hok hr h hv d hj (fun j a1 a2 => hc j (by omega)) v b (pv_congr hv he)
  omega
def pcode (σ : MS) (π : Nat → Nat) : Nat := (if 0 < mN σ then π 0 else 0) + 4 * (if 1 < mN σ then π 1 else 0) + 16 * (if 2 < mN σ then π 2 else 0) + 64 * (if 3 < mN σ then π 3 else 0) + 256 * (if 4 < mN σ then π 4 else 0) + 1024 * (if 5 < mN σ then π 5 else 0)
theorem pcode_inj {σ : MS} (hN : mN σ ≤ 6) {π π' : Nat → Nat} (h : ∀ s, s < mN σ → π s < 4) (h' : ∀ s, s < mN σ → π' s < 4) : pcode σ π < 4096 ∧ (pcode σ π = pcode σ π' → ∀ s, s < mN σ → π s = π' s) := by
  have b : ∀ (p : Nat → Nat), (∀ s, s < mN σ → p s < 4) → ∀ k, (if k < mN σ then p k else 0) < 4 := fun p hp k => by
    split
    · rename_i hk; exact hp k hk
    · omega
  have b0 := b π h 0
  have b1 := b π h 1
  have b2 := b π h 2
  have b3 := b π h 3
  have b4 := b π h 4
  have b5 := b π h 5
  have c0 := b π' h' 0
  have c1 := b π' h' 1
  have c2 := b π' h' 2
  have c3 := b π' h' 3
  have c4 := b π' h' 4
  have c5 := b π' h' 5
  unfold pcode
  refine ⟨by omega, fun he s hs => ?_⟩
  have e : ∀ k, k < 6 → (if k < mN σ then π k else 0) = (if k < mN σ then π' k else 0) := by
    intro k hk
    rcases (show k = 0 ∨ k = 1 ∨ k = 2 ∨ k = 3 ∨ k = 4 ∨ k = 5 by omega) with e | e | e | e | e | e <;> subst e <;> omega
  have e1 := e s (by omega)
  rw [if_pos hs, if_pos hs] at e1
  exact e1
/-- there are fewer rounds that change something than policies -/
theorem rounds_lt {σ : MS} (hok : mOK σ) (hr : rdy σ) {sq : Nat → Nat → Nat} {r : Nat} (h : seqOK σ sq r) (hc : ∀ j, j < r → chg σ sq j) : r < 4096 := by
  rcases Nat.lt_or_ge r 4096 with hl | hl
  · exact hl
  · exfalso
    have h4 : ∀ i, i ≤ 4096 → ∀ s, s < mN σ → sq i s < 4 := fun i hi s hs => by
      have h1 := seq_lt hr h i (by omega) s hs
      have h2 := hok.2.1 s (by have := hok.1; omega)
      omega
    obtain ⟨i, j, h1, h2, h3⟩ := pigeon 4096 (fun i => pcode σ (sq i)) (fun i hi => (pcode_inj hok.1 (h4 i hi) (h4 i hi)).1)
    exact seq_ne hok hr h hc h1 (by omega) ((pcode_inj hok.1 (h4 i (by omega)) (h4 j h2)).2 h3)
/-- solved: r rounds, the last of which changed nothing; the policy bp and its values bv over bd -/
def SOL (σ : MS) (r : Nat) (bp bv : Nat → Int) (bd : Int) : Prop := ∃ sq, seqOK σ sq r ∧ 0 < r ∧ (∀ j, j + 1 < r → chg σ sq j) ∧ ¬ chg σ sq (r - 1) ∧ (∀ s, s < mN σ → bp s = (sq r s : Int)) ∧ PV σ (sq r) bv bd
theorem gnum_prop {σ : MS} {v v' : Nat → Int} {b b' : Int} (h : ∀ s, s < mN σ → v s * b' = v' s * b) (i : Nat) : gnum σ i v b * b' = gnum σ i v' b' * b := by
  have e : ∀ k, k ≤ mN σ → gsum σ i v k * b' = gsum σ i v' k * b := by
    intro k
    induction k with
    | zero => intro _; simp [gsum]
    | succ k ih =>
      intro hk
      show (gsum σ i v k + v k * gct σ i k) * b' = (gsum σ i v' k + v' k * gct σ i k) * b
      rw [Int.add_mul, Int.add_mul, ih (by omega), Int.mul_right_comm, h k (by omega), Int.mul_right_comm]
  unfold gnum
  rw [Int.add_mul, Int.add_mul, e _ (Nat.le_refl _), Int.mul_right_comm b, Int.mul_right_comm b', Int.mul_comm b b']
theorem gmore_prop {σ : MS} {v v' : Nat → Int} {b b' : Int} (hb : 0 < b) (hb' : 0 < b') (h : ∀ s, s < mN σ → v s * b' = v' s * b) (i j : Nat) : gmore σ v b i j ↔ gmore σ v' b' i j := by
  have e1 := gnum_prop h i
  have e2 := gnum_prop h j
  have k : ∀ {x y x' y' p q : Int}, x * b' = x' * b → y * b' = y' * b → (x * p < y * q ↔ x' * p < y' * q) := by
    intro x y x' y' p q h1 h2
    constructor
    · intro hh
      have h3 : x * p * b' < y * q * b' := Int.mul_lt_mul_of_pos_right hh hb'
      rw [Int.mul_right_comm, h1, Int.mul_right_comm y, h2, Int.mul_right_comm, Int.mul_right_comm y'] at h3
      exact Int.lt_of_mul_lt_mul_right h3 (by omega)
    · intro hh
      have h3 : x' * p * b < y' * q * b := Int.mul_lt_mul_of_pos_right hh hb
      rw [Int.mul_right_comm, ← h1, Int.mul_right_comm y', ← h2, Int.mul_right_comm, Int.mul_right_comm y] at h3
      exact Int.lt_of_mul_lt_mul_right h3 (by omega)
  exact k e2 e1
theorem gpick_prop {σ : MS} {st beg : Nat} {v v' : Nat → Int} {b b' : Int} (hb : 0 < b) (hb' : 0 < b') (h : ∀ s, s < mN σ → v s * b' = v' s * b) : ∀ a, gpick σ st beg v b a = gpick σ st beg v' b' a
  | 0 => rfl
  | a + 1 => by
    have ih := gpick_prop (st := st) (beg := beg) hb hb' h a
    show (if a ≠ beg ∧ gmore σ v b (4 * st + a) (4 * st + gpick σ st beg v b a) then a else gpick σ st beg v b a) = (if a ≠ beg ∧ gmore σ v' b' (4 * st + a) (4 * st + gpick σ st beg v' b' a) then a else gpick σ st beg v' b' a)
    rw [ih]
    have e := gmore_prop hb hb' h (4 * st + a) (4 * st + gpick σ st beg v' b' a)
    by_cases hc : a ≠ beg ∧ gmore σ v b (4 * st + a) (4 * st + gpick σ st beg v' b' a)
    · rw [if_pos hc, if_pos ⟨hc.1, e.mp hc.2⟩]
    · rw [if_neg hc, if_neg (fun q => hc ⟨q.1, e.mpr q.2⟩)]
/-- what solving gives is one -/
theorem sol_uniq {σ : MS} (hok : mOK σ) (hr : rdy σ) {r r' : Nat} {bp bv bp' bv' : Nat → Int} {bd bd' : Int} (h : SOL σ r bp bv bd) (h' : SOL σ r' bp' bv' bd') : r = r' ∧ (∀ s, s < mN σ → bp s = bp' s) ∧ ∀ s, s < mN σ → bv s * bd' = bv' s * bd := by
  obtain ⟨sq, h1, h2, h3, h4, h5, h6⟩ := h
  obtain ⟨sq', h1', h2', h3', h4', h5', h6'⟩ := h'
  have same : ∀ j, j ≤ r → j ≤ r' → ∀ s, s < mN σ → sq j s = sq' j s := by
    intro j
    induction j with
    | zero => intro _ _ s hs; rw [h1.1 s hs, h1'.1 s hs]
    | succ j ih =>
      intro a1 a2 s hs
      obtain ⟨v, b, p1, p2⟩ := h1.2 j (by omega)
      obtain ⟨v', b', p1', p2'⟩ := h1'.2 j (by omega)
      have hj := ih (by omega) (by omega)
      have hu := pv_uniq hok hr (seq_lt hr h1 j (by omega)) p1 (pv_congr p1' (fun s hs => (hj s hs).symm))
      rw [p2 s hs, p2' s hs]
      unfold npol
      rw [hj s hs]
      exact gpick_prop p1.1 p1'.1 hu _
  have hrr : r = r' := by
    rcases Nat.lt_trichotomy r r' with hl | hl | hl
    · exfalso
      refine h4 ?_
      obtain ⟨s, hs, hne⟩ := h3' (r - 1) (by omega)
      exact ⟨s, hs, by rw [same (r - 1 + 1) (by omega) (by omega) s hs, same (r - 1) (by omega) (by omega) s hs]; exact hne⟩
    · exact hl
    · exfalso
      refine h4' ?_
      obtain ⟨s, hs, hne⟩ := h3 (r' - 1) (by omega)
      exact ⟨s, hs, by rw [← same (r' - 1 + 1) (by omega) (by omega) s hs, ← same (r' - 1) (by omega) (by omega) s hs]; exact hne⟩
  subst hrr
  have hj := same r (Nat.le_refl _) (Nat.le_refl _)
  exact ⟨rfl, fun s hs => by rw [h5 s hs, h5' s hs, hj s hs], pv_uniq hok hr (seq_lt hr h1 r (Nat.le_refl _)) h6 (pv_congr h6' (fun s hs => (hj s hs).symm))⟩
