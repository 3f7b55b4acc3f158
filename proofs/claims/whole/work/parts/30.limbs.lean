/-! the class's whole numbers: limbs of six digits -/
def nv (d : Nat → Nat) : Nat → Nat
  | 0 => 0
  | n + 1 => nv d n + d n * 1000000 ^ n
def wv (f : Nat → Int) : Nat → Int
  | 0 => 0
  | n + 1 => wv f n + f n * 1000000 ^ n
def nd (x : Nat) (j : Nat) : Nat := x / 1000000 ^ j % 1000000
def wdig (v : Int) (j : Nat) : Int := if v < 0 then - (nd v.natAbs j : Int) else (nd v.natAbs j : Int)
theorem bp_pos (n : Nat) : 0 < 1000000 ^ n := Nat.pow_pos (by omega)
theorem bp_posI (n : Nat) : (0 : Int) < 1000000 ^ n := Int.pow_pos (by omega)
theorem bp_s (n : Nat) : 1000000 ^ (n + 1) = 1000000 * 1000000 ^ n := by rw [Nat.pow_succ, Nat.mul_comm]
theorem bp_sI (n : Nat) : (1000000 : Int) ^ (n + 1) = 1000000 * 1000000 ^ n := by rw [Int.pow_succ, Int.mul_comm]
theorem bp_cast (n : Nat) : ((1000000 ^ n : Nat) : Int) = 1000000 ^ n := by rw [Int.natCast_pow]; rfl
theorem bp_mono {a b : Nat} (h : a ≤ b) : 1000000 ^ a ≤ 1000000 ^ b := Nat.pow_le_pow_right (by omega) h
theorem nd_lt (x j : Nat) : nd x j < 1000000 := Nat.mod_lt _ (by omega)
theorem wdig_b (v : Int) (j : Nat) : -1000000 < wdig v j ∧ wdig v j < 1000000 := by
  have := nd_lt v.natAbs j
  unfold wdig
  split <;> omega
theorem wv_congr {f g : Nat → Int} : ∀ {n : Nat}, (∀ j, j < n → f j = g j) → wv f n = wv g n
  | 0, _ => rfl
  | n + 1, h => by
    show wv f n + f n * _ = wv g n + g n * _
    rw [wv_congr (fun j hj => h j (by omega)), h n (by omega)]
theorem wv_lin (f g : Nat → Int) (t : Int) : ∀ n : Nat, wv (fun j => f j + t * g j) n = wv f n + t * wv g n
  | 0 => by simp [wv]
  | n + 1 => by
    show wv _ n + (f n + t * g n) * _ = wv f n + f n * _ + t * (wv g n + g n * _)
    rw [wv_lin f g t n, Int.add_mul, Int.mul_add, Int.mul_assoc]
    omega
theorem wv_mul (f : Nat → Int) (t : Int) : ∀ n : Nat, wv (fun j => f j * t) n = wv f n * t
  | 0 => by simp [wv]
  | n + 1 => by
    show wv _ n + (f n * t) * _ = (wv f n + f n * _) * t
    rw [wv_mul f t n, Int.add_mul, Int.mul_assoc, Int.mul_assoc, Int.mul_comm t]
theorem wv_neg (f : Nat → Int) (n : Nat) : wv (fun j => - f j) n = - wv f n := by
  have := wv_mul f (-1) n
  rw [wv_congr (g := fun j => - f j) (fun j _ => by omega)] at this
  omega
theorem wv_zero : ∀ n : Nat, wv (fun _ => 0) n = 0
  | 0 => rfl
  | n + 1 => by
    show wv _ n + 0 * _ = 0
    rw [wv_zero n, Int.zero_mul]
    rfl
theorem wv_nv (d : Nat → Nat) : ∀ n : Nat, wv (fun j => (d j : Int)) n = (nv d n : Int)
  | 0 => rfl
  | n + 1 => by
    show wv _ n + _ = ((nv d n + d n * 1000000 ^ n : Nat) : Int)
    rw [wv_nv d n, Int.natCast_add, Int.natCast_mul, bp_cast]
theorem nv_shift (d : Nat → Nat) : ∀ n : Nat, nv d (n + 1) = d 0 + 1000000 * nv (fun j => d (j + 1)) n
  | 0 => by simp [nv]
  | n + 1 => by
    have ih := nv_shift d n
    show nv d (n + 1) + d (n + 1) * 1000000 ^ (n + 1) = d 0 + 1000000 * (nv (fun j => d (j + 1)) n + d (n + 1) * 1000000 ^ n)
    rw [ih, bp_s, Nat.mul_add, Nat.add_assoc, Nat.mul_left_comm]
theorem nv_lt {d : Nat → Nat} : ∀ {n : Nat}, (∀ j, j < n → d j < 1000000) → nv d n < 1000000 ^ n
  | 0, _ => by simp [nv]
  | n + 1, h => by
    have ih := nv_lt (n := n) (fun j hj => h j (by omega))
    have h1 := h n (by omega)
    show nv d n + d n * 1000000 ^ n < _
    rw [bp_s]
    have : d n * 1000000 ^ n ≤ 999999 * 1000000 ^ n := Nat.mul_le_mul_right _ (by omega)
    omega
theorem nv_dig : ∀ (j n : Nat) {d : Nat → Nat}, (∀ i, i < n → d i < 1000000) → j < n → nd (nv d n) j = d j
  | j, 0, _, _, hj => absurd hj (Nat.not_lt_zero j)
  | 0, n + 1, d, h, _ => by
    unfold nd
    rw [nv_shift, Nat.pow_zero, Nat.div_one, Nat.add_mul_mod_self_left, Nat.mod_eq_of_lt (h 0 (by omega))]
  | j + 1, n + 1, d, h, hj => by
    have ih := nv_dig j n (d := fun i => d (i + 1)) (fun i hi => h (i + 1) (by omega)) (by omega)
    unfold nd at *
    rw [nv_shift, bp_s, ← Nat.div_div_eq_div_mul, Nat.add_mul_div_left _ _ (by omega), Nat.div_eq_of_lt (h 0 (by omega)), Nat.zero_add]
    exact ih
theorem nv_nd (x : Nat) : ∀ n : Nat, nv (nd x) n = x % 1000000 ^ n
  | 0 => by simp [nv, Nat.mod_one]
  | n + 1 => by
    show nv (nd x) n + nd x n * _ = _
    rw [nv_nd x n, Nat.pow_succ, Nat.mod_mul, Nat.mul_comm (nd x n)]
    rfl
theorem nd_zero {x j : Nat} (h : x < 1000000 ^ j) : nd x j = 0 := by
  unfold nd
  rw [Nat.div_eq_of_lt h]
theorem wdig_zero {v : Int} {j : Nat} (h : v.natAbs < 1000000 ^ j) : wdig v j = 0 := by
  unfold wdig
  rw [nd_zero h]
  split <;> rfl
theorem wdig_0 (j : Nat) : wdig 0 j = 0 := wdig_zero (by simpa using bp_pos j)
theorem wv_wdig {v : Int} {n : Nat} (h : v.natAbs < 1000000 ^ n) : wv (wdig v) n = v := by
  have h1 := nv_nd v.natAbs n
  rw [Nat.mod_eq_of_lt h] at h1
  have h2 := wv_nv (nd v.natAbs) n
  rw [h1] at h2
  by_cases hv : v < 0
  · rw [wv_congr (g := fun j => - (nd v.natAbs j : Int)) (fun j _ => by simp [wdig, hv]), wv_neg, h2]
    omega
  · rw [wv_congr (g := fun j => (nd v.natAbs j : Int)) (fun j _ => by simp [wdig, hv]), h2]
    omega
/-- limbs that all are digits are the digits of their number -/
theorem dig_pos {d : Nat → Int} {n : Nat} (h : ∀ j, j < n → 0 ≤ d j ∧ d j < 1000000) : 0 ≤ wv d n ∧ wv d n < 1000000 ^ n ∧ ∀ j, j < n → d j = wdig (wv d n) j := by
  have e : wv d n = (nv (fun j => (d j).toNat) n : Int) := by
    rw [← wv_nv]
    exact wv_congr (fun j hj => by have := h j hj; omega)
  have hlt := nv_lt (n := n) (d := fun j => (d j).toNat) (fun j hj => by have := h j hj; omega)
  have hlt' : ((nv (fun j => (d j).toNat) n : Nat) : Int) < ((1000000 ^ n : Nat) : Int) := by exact_mod_cast hlt
  rw [bp_cast] at hlt'
  refine ⟨by rw [e]; omega, by rw [e]; exact hlt', fun j hj => ?_⟩
  have h1 := nv_dig j n (d := fun j => (d j).toNat) (fun j hj => by have := h j hj; omega) hj
  have h2 := h j hj
  unfold wdig
  rw [e, if_neg (by omega), Int.natAbs_natCast, h1]
  omega
theorem dig_neg {d : Nat → Int} {n : Nat} (h : ∀ j, j < n → -1000000 < d j ∧ d j ≤ 0) : wv d n ≤ 0 ∧ -(1000000 ^ n) < wv d n ∧ ∀ j, j < n → d j = wdig (wv d n) j := by
  obtain ⟨h1, h2, h3⟩ := dig_pos (d := fun j => - d j) (n := n) (fun j hj => by have := h j hj; omega)
  rw [wv_neg] at h1 h2 h3
  refine ⟨by omega, by omega, fun j hj => ?_⟩
  have h4 := h3 j hj
  unfold wdig at *
  by_cases hv : wv d n < 0
  · rw [if_neg (by omega), Int.natAbs_neg] at h4
    rw [if_pos hv]
    omega
  · have h0 : wv d n = 0 := by omega
    have hz : nd 0 j = 0 := nd_zero (bp_pos j)
    rw [h0] at h4 ⊢
    simp [hz] at h4 ⊢
    omega
-- settling: the carry into a limb, and what stays there
def sc (f : Nat → Int) : Nat → Int
  | 0 => 0
  | i + 1 => (f i + sc f i) / 1000000
def sd (f : Nat → Int) (i : Nat) : Int := f i + sc f i - sc f (i + 1) * 1000000
theorem sd_b (f : Nat → Int) (i : Nat) : 0 ≤ sd f i ∧ sd f i < 1000000 := by
  unfold sd
  have e : sc f (i + 1) = (f i + sc f i) / 1000000 := rfl
  rw [e]
  omega
theorem sc_b {f : Nat → Int} {n : Nat} (h : ∀ j, j < n → -9000000000000000000 ≤ f j ∧ f j ≤ 9000000000000000000) : ∀ i, i ≤ n → -10000000000000 ≤ sc f i ∧ sc f i ≤ 10000000000000
  | 0, _ => by simp [sc]
  | i + 1, hi => by
    have h1 := sc_b h i (by omega)
    have h2 := h i (by omega)
    show -10000000000000 ≤ (f i + sc f i) / 1000000 ∧ (f i + sc f i) / 1000000 ≤ 10000000000000
    omega
theorem wv_sd (f : Nat → Int) : ∀ n : Nat, wv (sd f) n + sc f n * 1000000 ^ n = wv f n
  | 0 => by simp [wv, sc]
  | n + 1 => by
    have ih := wv_sd f n
    show wv (sd f) n + sd f n * 1000000 ^ n + sc f (n + 1) * 1000000 ^ (n + 1) = wv f n + f n * 1000000 ^ n
    have e : sd f n = f n + sc f n - sc f (n + 1) * 1000000 := rfl
    rw [e, bp_sI, Int.sub_mul, Int.add_mul, Int.mul_assoc (sc f (n + 1))]
    omega
-- turning negative
def tb (d : Nat → Int) : Nat → Int
  | 0 => 0
  | i + 1 => if tb d i = 1 then 1 else if d i ≠ 0 then 1 else 0
def tn (d : Nat → Int) (i : Nat) : Int := if tb d i = 1 then d i - 999999 else if d i ≠ 0 then d i - 1000000 else d i
theorem tb_b (d : Nat → Int) : ∀ i, tb d i = 0 ∨ tb d i = 1
  | 0 => Or.inl rfl
  | i + 1 => by
    show (if tb d i = 1 then (1 : Int) else if d i ≠ 0 then 1 else 0) = 0 ∨ _
    simp only [tb]
    split
    · exact Or.inr rfl
    · split
      · exact Or.inr rfl
      · exact Or.inl rfl
theorem wv_tn (d : Nat → Int) : ∀ n : Nat, wv (tn d) n = wv d n - tb d n * 1000000 ^ n
  | 0 => by simp [wv, tb]
  | n + 1 => by
    have ih := wv_tn d n
    show wv (tn d) n + tn d n * 1000000 ^ n = wv d n + d n * 1000000 ^ n - tb d (n + 1) * 1000000 ^ (n + 1)
    rw [ih, bp_sI]
    have e1 : tb d (n + 1) = if tb d n = 1 then 1 else if d n ≠ 0 then 1 else 0 := rfl
    have e2 : tn d n = if tb d n = 1 then d n - 999999 else if d n ≠ 0 then d n - 1000000 else d n := rfl
    rcases tb_b d n with h | h
    · rw [h] at e1 e2
      by_cases h0 : d n = 0
      · rw [e1, e2, h]
        simp [h0]
      · rw [e1, e2, h]
        simp [h0]
        rw [Int.sub_mul]
        omega
    · rw [h] at e1 e2
      rw [e1, e2, h]
      simp
      rw [Int.sub_mul]
      omega
theorem tn_b {d : Nat → Int} {n : Nat} (h : ∀ j, j < n → 0 ≤ d j ∧ d j < 1000000) : ∀ j, j < n → -1000000 < tn d j ∧ tn d j ≤ 0 := fun j hj => by
  have := h j hj
  unfold tn
  split
  · omega
  · split <;> omega
theorem tb_pos {d : Nat → Int} : ∀ {n : Nat}, tb d n = 0 → ∀ j, j < n → d j = 0
  | 0, _, j, hj => absurd hj (Nat.not_lt_zero j)
  | n + 1, h, j, hj => by
    have e1 : tb d (n + 1) = if tb d n = 1 then 1 else if d n ≠ 0 then 1 else 0 := rfl
    rw [h] at e1
    rcases tb_b d n with h1 | h1
    · by_cases h0 : d n = 0
      · by_cases ej : j = n
        · rw [ej]; exact h0
        · exact tb_pos h1 j (by omega)
      · rw [h1] at e1
        simp [h0] at e1
    · rw [h1] at e1
      simp at e1
/-- what settling gives, without a carry at the end -/
theorem settle_pos {f : Nat → Int} {n : Nat} (h1 : -(1000000 ^ n) < wv f n) (h2 : wv f n < 1000000 ^ n) (hc : 0 ≤ sc f n) : ∀ j, j < n → sd f j = wdig (wv f n) j := by
  obtain ⟨a1, a2, a3⟩ := dig_pos (d := sd f) (n := n) (fun j _ => sd_b f j)
  have e := wv_sd f n
  have hp := bp_posI n
  have h0 : sc f n = 0 := by
    by_cases h : sc f n = 0
    · exact h
    · have : 1 * 1000000 ^ n ≤ sc f n * 1000000 ^ n := Int.mul_le_mul_of_nonneg_right (by omega) (by omega)
      omega
  rw [h0] at e
  intro j hj
  rw [a3 j hj]
  congr 1
  omega
theorem settle_neg {f : Nat → Int} {n : Nat} (h1 : -(1000000 ^ n) < wv f n) (h2 : wv f n < 1000000 ^ n) (hc : sc f n < 0) : ∀ j, j < n → tn (sd f) j = wdig (wv f n) j := by
  obtain ⟨a1, a2, a3⟩ := dig_pos (d := sd f) (n := n) (fun j _ => sd_b f j)
  have e := wv_sd f n
  have hp := bp_posI n
  have h0 : sc f n = -1 := by
    by_cases h : sc f n = -1
    · exact h
    · have : sc f n * 1000000 ^ n ≤ (-2) * 1000000 ^ n := Int.mul_le_mul_of_nonneg_right (by omega) (by omega)
      omega
  rw [h0] at e
  obtain ⟨b1, b2, b3⟩ := dig_neg (d := tn (sd f)) (n := n) (tn_b (fun j _ => sd_b f j))
  have e2 := wv_tn (sd f) n
  have h3 : tb (sd f) n = 1 := by
    rcases tb_b (sd f) n with h | h
    · have hz := tb_pos h
      have : wv (sd f) n = 0 := by rw [wv_congr (g := fun _ => 0) hz]; exact wv_zero n
      omega
    · exact h
  rw [h3] at e2
  intro j hj
  rw [b3 j hj]
  congr 1
  omega
-- a number's size: how many limbs it has
def wk (v : Int) (n k : Nat) : Prop := k ≤ n ∧ v.natAbs < 1000000 ^ k ∧ (0 < k → 1000000 ^ (k - 1) ≤ v.natAbs)
theorem wk_of {v : Int} {n k : Nat} {f : Nat → Int} (hk : k ≤ n) (hv : v.natAbs < 1000000 ^ n) (hf : ∀ j, j < n → f j = wdig v j) (h0 : ∀ j, k ≤ j → j < n → f j = 0) (h1 : 0 < k → f (k - 1) ≠ 0) : wk v n k := by
  refine ⟨hk, ?_, fun hp => ?_⟩
  · have e1 := nv_nd v.natAbs n
    rw [Nat.mod_eq_of_lt hv] at e1
    have e2 : ∀ m, k ≤ m → m ≤ n → nv (nd v.natAbs) m = nv (nd v.natAbs) k := by
      intro m
      induction m with
      | zero => intro a _; rw [show k = 0 by omega]
      | succ m ih =>
        intro a b
        by_cases hkm : k = m + 1
        · rw [hkm]
        · have h2 := h0 m (by omega) (by omega)
          rw [hf m (by omega)] at h2
          have h3 : nd v.natAbs m = 0 := by
            unfold wdig at h2
            split at h2 <;> omega
          show nv _ m + nd v.natAbs m * _ = _
          rw [h3, ih (by omega) (by omega), Nat.zero_mul, Nat.add_zero]
    rw [← e1, e2 n hk (Nat.le_refl n)]
    exact nv_lt (fun j _ => nd_lt _ j)
  · have h2 := h1 hp
    rw [hf (k - 1) (by omega)] at h2
    rcases Nat.lt_or_ge v.natAbs (1000000 ^ (k - 1)) with h3 | h3
    · exact absurd (wdig_zero h3) h2
    · exact h3
theorem wk_z {v : Int} {n k : Nat} (h : wk v n k) : k = 0 ↔ v = 0 := by
  obtain ⟨_, h1, h2⟩ := h
  constructor
  · intro e
    rw [e] at h1
    simp at h1
    omega
  · intro e
    by_cases hk : k = 0
    · exact hk
    · have := h2 (by omega)
      have := bp_pos (k - 1)
      omega
/-- the top limb of a number that isn't 0 bears its sign -/
theorem wdig_top {v : Int} {n k : Nat} (h : wk v n k) (hk : 0 < k) : (v < 0 → wdig v (k - 1) < 0) ∧ (0 < v → 0 < wdig v (k - 1)) := by
  obtain ⟨_, h1, h2⟩ := h
  have h3 := h2 hk
  have h4 : 0 < nd v.natAbs (k - 1) := by
    unfold nd
    have e : 1000000 ^ k = 1000000 * 1000000 ^ (k - 1) := by rw [← bp_s]; congr 1; omega
    have a1 : v.natAbs / 1000000 ^ (k - 1) < 1000000 := Nat.div_lt_of_lt_mul (by rw [Nat.mul_comm]; omega)
    rw [Nat.mod_eq_of_lt a1]
    exact Nat.div_pos h3 (bp_pos _)
  unfold wdig
  constructor
  · intro hv
    rw [if_pos hv]
    omega
  · intro hv
    rw [if_neg (by omega)]
    omega
