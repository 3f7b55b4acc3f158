/-! division of whole numbers in limbs of six digits -/
theorem nd_shift (x s i : Nat) : nd (x / 1000000 ^ s) i = nd x (i + s) := by
  unfold nd
  rw [Nat.div_div_eq_div_mul, ← Nat.pow_add, Nat.add_comm s i]
theorem wdig_nn {x : Int} (h : 0 ≤ x) (j : Nat) : wdig x j = (nd x.natAbs j : Int) := by
  unfold wdig
  rw [if_neg (by omega)]
theorem wdig_shift {x : Int} (h : 0 ≤ x) (s i : Nat) : wdig (((x.natAbs / 1000000 ^ s : Nat)) : Int) i = wdig x (i + s) := by
  rw [wdig_nn h, wdig_nn (Int.natCast_nonneg _), Int.natAbs_natCast, nd_shift]
/-- a limb by any index: 0 below the first -/
def lb (x : Int) (i : Int) : Int := if 0 ≤ i then wdig x i.toNat else 0
theorem lb_at {v : Int} {n k : Nat} (h : wk v n k) (i : Int) : (if 0 ≤ i ∧ i < (k : Int) then wdig v i.toNat else 0) = lb v i := by
  unfold lb
  by_cases e : 0 ≤ i
  · by_cases e2 : i < (k : Int)
    · rw [if_pos ⟨e, e2⟩, if_pos e]
    · rw [if_neg (by omega), if_pos e, wdig_hi h (by omega)]
  · rw [if_neg (by omega), if_neg e]
theorem lb_n (x : Int) (j : Nat) : lb x (j : Int) = wdig x j := by
  unfold lb
  rw [if_pos (by omega), Int.toNat_natCast]
theorem lb_b (x : Int) (i : Int) : -1000000 < lb x i ∧ lb x i < 1000000 := by
  unfold lb
  split
  · exact wdig_b _ _
  · omega
-- dividing by a small number
def rs (v : Int) (d : Nat) (k : Nat) : Int := if v < 0 then - ((v.natAbs / 1000000 ^ k % d : Nat) : Int) else ((v.natAbs / 1000000 ^ k % d : Nat) : Int)
theorem rs_b (v : Int) {d : Nat} (hd : 0 < d) (k : Nat) : -(d : Int) < rs v d k ∧ rs v d k < d := by
  have := Nat.mod_lt (v.natAbs / 1000000 ^ k) hd
  unfold rs
  split <;> omega
theorem small_nat (x : Nat) {d : Nat} (hd : 0 < d) (k : Nat) : (x / 1000000 ^ (k + 1) % d * 1000000 + nd x k) / d = nd (x / d) k ∧ (x / 1000000 ^ (k + 1) % d * 1000000 + nd x k) % d = x / 1000000 ^ k % d := by
  have e1 : x / 1000000 ^ (k + 1) = x / 1000000 ^ k / 1000000 := by rw [Nat.pow_succ, Nat.div_div_eq_div_mul]
  have e2 : x / d / 1000000 ^ k = x / 1000000 ^ k / d := by rw [Nat.div_div_eq_div_mul, Nat.div_div_eq_div_mul, Nat.mul_comm]
  unfold nd
  rw [e1, e2]
  generalize x / 1000000 ^ k = X
  have h1 : X = d * (1000000 * (X / 1000000 / d)) + (X / 1000000 % d * 1000000 + X % 1000000) := by
    have a1 := Nat.div_add_mod X 1000000
    have a2 := Nat.div_add_mod (X / 1000000) d
    have a3 : 1000000 * (X / 1000000) = 1000000 * (d * (X / 1000000 / d)) + 1000000 * (X / 1000000 % d) := by rw [← Nat.mul_add, a2]
    rw [Nat.mul_left_comm] at a3
    omega
  have h2 : X / 1000000 % d * 1000000 + X % 1000000 < d * 1000000 := by
    have a1 := Nat.mod_lt (X / 1000000) hd
    have a2 : (X / 1000000 % d + 1) * 1000000 ≤ d * 1000000 := Nat.mul_le_mul_right _ (by omega)
    omega
  generalize hdv : X / 1000000 % d * 1000000 + X % 1000000 = dv at h1 h2
  have h3 : dv / d < 1000000 := Nat.div_lt_of_lt_mul h2
  have h4 : X / d = 1000000 * (X / 1000000 / d) + dv / d := by
    conv => lhs; rw [h1]
    rw [Nat.mul_add_div hd]
  have h5 : X % d = dv % d := by
    conv => lhs; rw [h1]
    rw [Nat.mul_add_mod]
  exact ⟨by rw [h4, Nat.mul_add_mod, Nat.mod_eq_of_lt h3], h5.symm⟩
theorem wdig_tdiv (v : Int) (d j : Nat) : wdig (v.tdiv d) j = if v < 0 then - (nd (v.natAbs / d) j : Int) else (nd (v.natAbs / d) j : Int) := by
  have ea : (v.tdiv d).natAbs = v.natAbs / d := by rw [Int.natAbs_tdiv]; rfl
  by_cases hv : v < 0
  · rw [if_pos hv]
    by_cases h0 : v.natAbs / d = 0
    · have hz : v.tdiv d = 0 := by omega
      have hn : nd 0 j = 0 := nd_zero (bp_pos j)
      rw [hz, wdig_0, h0, hn]
      rfl
    · have hn : v.tdiv d < 0 := by
        have h1 : 0 ≤ (-v).tdiv d := Int.tdiv_nonneg (by omega) (Int.natCast_nonneg d)
        rw [Int.neg_tdiv] at h1
        omega
      unfold wdig
      rw [if_pos hn, ea]
  · have hn : 0 ≤ v.tdiv d := Int.tdiv_nonneg (by omega) (Int.natCast_nonneg d)
    rw [if_neg hv, wdig_nn hn, ea]
theorem nat_td (m n : Nat) : (m : Int).tdiv (n : Int) = ((m / n : Nat) : Int) := rfl
theorem nat_tm (m n : Nat) : (m : Int).tmod (n : Int) = ((m % n : Nat) : Int) := rfl
theorem small_step (v : Int) {d : Nat} (hd : 0 < d) (k : Nat) : (rs v d (k + 1) * 1000000 + wdig v k).tdiv d = wdig (v.tdiv d) k ∧ (rs v d (k + 1) * 1000000 + wdig v k).tmod d = rs v d k := by
  obtain ⟨h1, h2⟩ := small_nat v.natAbs hd k
  rw [wdig_tdiv]
  unfold rs wdig
  by_cases hv : v < 0
  · simp only [if_pos hv]
    have e : -((v.natAbs / 1000000 ^ (k + 1) % d : Nat) : Int) * 1000000 + -((nd v.natAbs k : Nat) : Int) = -((v.natAbs / 1000000 ^ (k + 1) % d * 1000000 + nd v.natAbs k : Nat) : Int) := by
      rw [Int.natCast_add, Int.natCast_mul]
      omega
    rw [e, Int.neg_tdiv, Int.neg_tmod, nat_td, nat_tm, h1, h2]
    exact ⟨rfl, rfl⟩
  · simp only [if_neg hv]
    have e : ((v.natAbs / 1000000 ^ (k + 1) % d : Nat) : Int) * 1000000 + ((nd v.natAbs k : Nat) : Int) = ((v.natAbs / 1000000 ^ (k + 1) % d * 1000000 + nd v.natAbs k : Nat) : Int) := by
      rw [Int.natCast_add, Int.natCast_mul]
      omega
    rw [e, nat_td, nat_tm, h1, h2]
    exact ⟨rfl, rfl⟩
theorem tdiv_lt {v : Int} {d n : Nat} (h : v.natAbs < 1000000 ^ n) : (v.tdiv d).natAbs < 1000000 ^ n := Nat.lt_of_le_of_lt (Int.natAbs_tdiv_le_natAbs v d) h
-- reaching
theorem reach_iff {x y : Int} (hx : 0 ≤ x) (hy : 0 ≤ y) (s : Nat) : y * 1000000 ^ s ≤ x ↔ y ≤ ((x.natAbs / 1000000 ^ s : Nat) : Int) := by
  have h := Nat.le_div_iff_mul_le (x := y.natAbs) (y := x.natAbs) (bp_pos s)
  have e : y * 1000000 ^ s = ((y.natAbs * 1000000 ^ s : Nat) : Int) := by rw [Int.natCast_mul, bp_cast, abs_pos hy]
  rw [e]
  constructor
  · intro h1
    have : y.natAbs ≤ x.natAbs / 1000000 ^ s := h.mpr (by omega)
    omega
  · intro h1
    have : y.natAbs * 1000000 ^ s ≤ x.natAbs := h.mp (by omega)
    omega
theorem reach_gt {x y : Int} {m1 m2 k1 k2 s : Nat} (hx : 0 ≤ x) (hy : 0 ≤ y) (h1 : wk x m1 k1) (h2 : wk y m2 k2) (h : k2 + s < k1) : y * 1000000 ^ s ≤ x := by
  rw [reach_iff hx hy]
  have a1 := h1.2.2 (by omega)
  have a2 := h2.2.1
  have a3 : 1000000 ^ k2 ≤ x.natAbs / 1000000 ^ s := (Nat.le_div_iff_mul_le (bp_pos s)).mpr (by rw [← Nat.pow_add]; exact Nat.le_trans (bp_mono (by omega)) a1)
  omega
theorem reach_lt {x y : Int} {m1 m2 k1 k2 s : Nat} (hx : 0 ≤ x) (hy : 0 < y) (h1 : wk x m1 k1) (h2 : wk y m2 k2) (h : k1 < k2 + s) : ¬ y * 1000000 ^ s ≤ x := by
  rw [reach_iff hx (by omega)]
  have hk : 0 < k2 := by
    by_cases e : k2 = 0
    · have := (wk_z h2).mp e; omega
    · omega
  have a1 := h2.2.2 hk
  have a2 : x.natAbs < 1000000 ^ (k2 - 1 + s) := Nat.lt_of_lt_of_le h1.2.1 (bp_mono (by omega))
  have a3 : x.natAbs / 1000000 ^ s < 1000000 ^ (k2 - 1) := (Nat.div_lt_iff_lt_mul (bp_pos s)).mpr (by rw [← Nat.pow_add]; exact a2)
  omega
theorem reach_sz {x : Int} {k2 s : Nat} (h : x.natAbs < 1000000 ^ (k2 + s)) : (((x.natAbs / 1000000 ^ s : Nat)) : Int).natAbs < 1000000 ^ k2 := by
  rw [Int.natAbs_natCast]
  exact (Nat.div_lt_iff_lt_mul (bp_pos s)).mpr (by rw [← Nat.pow_add]; exact h)
-- guessing
theorem top3 {x t : Nat} (h : x < 1000000 ^ (t + 3)) : (nd x (t + 2) * 1000000 + nd x (t + 1)) * 1000000 + nd x t = x / 1000000 ^ t := by
  have h1 : x / 1000000 ^ t < 1000000 ^ 3 := (Nat.div_lt_iff_lt_mul (bp_pos t)).mpr (by rw [← Nat.pow_add, Nat.add_comm]; exact h)
  have e1 : x / 1000000 ^ (t + 1) = x / 1000000 ^ t / 1000000 := by rw [Nat.pow_succ, Nat.div_div_eq_div_mul]
  have e2 : x / 1000000 ^ (t + 2) = x / 1000000 ^ t / 1000000 / 1000000 := by rw [Nat.pow_succ, Nat.pow_succ, Nat.div_div_eq_div_mul, Nat.div_div_eq_div_mul, Nat.mul_assoc]
  unfold nd
  rw [e1, e2]
  generalize x / 1000000 ^ t = X at h1
  simp at h1
  omega
theorem sand {x t : Nat} (c : Nat) : x / 1000000 ^ t * 1000000 ^ (t + c) ≤ x * 1000000 ^ c ∧ x * 1000000 ^ c < (x / 1000000 ^ t + 1) * 1000000 ^ (t + c) := by
  have h1 := Nat.div_mul_le_self x (1000000 ^ t)
  have h2 := Nat.lt_div_mul_add (a := x) (bp_pos t)
  rw [Nat.pow_add, ← Nat.mul_assoc, ← Nat.mul_assoc]
  exact ⟨Nat.mul_le_mul_right _ h1, Nat.mul_lt_mul_of_pos_right (by rw [Nat.add_mul, Nat.one_mul]; exact h2) (bp_pos c)⟩
theorem mine_ok {x : Int} {u : Nat} (hx : 0 ≤ x) (hu : 0 < u) (h : x.natAbs < 1000000 ^ (u + 1)) : ∃ M : Nat, (lb x (u : Int) * 1000000 + lb x ((u : Int) - 1)) * 1000000 + lb x ((u : Int) - 2) = (M : Int) ∧ M < 1000000000000000000 ∧ M * 1000000 ^ u ≤ x.natAbs * 1000000 ^ 2 ∧ x.natAbs * 1000000 ^ 2 < (M + 1) * 1000000 ^ u := by
  have b0 := nd_lt x.natAbs u
  rcases Nat.lt_or_ge u 2 with h1 | h1
  · have e : u = 1 := by omega
    subst e
    refine ⟨x.natAbs * 1000000, ?_, ?_, ?_, ?_⟩
    · have e1 : lb x ((1 : Nat) : Int) = (nd x.natAbs 1 : Int) := by rw [lb_n, wdig_nn hx]
      have e2 : lb x (((1 : Nat) : Int) - 1) = (nd x.natAbs 0 : Int) := by rw [show ((1 : Nat) : Int) - 1 = ((0 : Nat) : Int) by omega, lb_n, wdig_nn hx]
      have e3 : lb x (((1 : Nat) : Int) - 2) = 0 := by unfold lb; rw [if_neg (by omega)]
      rw [e1, e2, e3]
      have e4 : nd x.natAbs 0 = x.natAbs % 1000000 := by unfold nd; simp
      have e5 : nd x.natAbs 1 = x.natAbs / 1000000 % 1000000 := by unfold nd; simp
      rw [e4, e5]
      simp at h
      omega
    · simp at h
      omega
    · omega
    · omega
  · obtain ⟨t, rfl⟩ : ∃ t, u = t + 2 := ⟨u - 2, by omega⟩
    have e := top3 (x := x.natAbs) (t := t) h
    obtain ⟨s1, s2⟩ := sand (x := x.natAbs) (t := t) 2
    refine ⟨x.natAbs / 1000000 ^ t, ?_, ?_, s1, s2⟩
    · rw [← e, lb_n, wdig_nn hx, show ((t + 2 : Nat) : Int) - 1 = ((t + 1 : Nat) : Int) by omega, lb_n, wdig_nn hx, show ((t + 2 : Nat) : Int) - 2 = ((t : Nat) : Int) by omega, lb_n, wdig_nn hx]
      omega
    · have h1 : x.natAbs / 1000000 ^ t < 1000000 ^ 3 := (Nat.div_lt_iff_lt_mul (bp_pos t)).mpr (by rw [← Nat.pow_add, Nat.add_comm]; exact h)
      simp at h1
      omega
theorem others_ok {y : Int} {n k : Nat} (hy : 0 < y) (h : wk y n k) : ∃ O : Nat, lb y ((k : Int) - 1) * 1000000 + lb y ((k : Int) - 2) + 1 = (O : Int) ∧ 1000000 < O ∧ O ≤ 1000000000000 ∧ (O - 1) * 1000000 ^ k ≤ y.natAbs * 1000000 ^ 2 ∧ y.natAbs * 1000000 ^ 2 < O * 1000000 ^ k := by
  have hk : 0 < k := by
    by_cases e : k = 0
    · have := (wk_z h).mp e; omega
    · omega
  have ht := (wdig_top h hk).2 hy
  have hb := wdig_b y (k - 1)
  have e1 : lb y ((k : Int) - 1) = wdig y (k - 1) := by rw [show (k : Int) - 1 = ((k - 1 : Nat) : Int) by omega, lb_n]
  rcases Nat.lt_or_ge k 2 with h1 | h1
  · have e : k = 1 := by omega
    subst e
    have hl := h.2.1
    simp at hl
    have e2 : wdig y (1 - 1) = y := by
      rw [wdig_nn (by omega)]
      unfold nd
      simp
      omega
    rw [e2] at e1
    have e3 : lb y (((1 : Nat) : Int) - 2) = 0 := by unfold lb; rw [if_neg (by omega)]
    refine ⟨y.natAbs * 1000000 + 1, ?_, ?_, ?_, ?_, ?_⟩
    · rw [e1, e3]; omega
    · omega
    · omega
    · omega
    · omega
  · obtain ⟨t, rfl⟩ : ∃ t, k = t + 2 := ⟨k - 2, by omega⟩
    have hl := h.2.1
    have hX : y.natAbs / 1000000 ^ t < 1000000 ^ 2 := (Nat.div_lt_iff_lt_mul (bp_pos t)).mpr (by rw [← Nat.pow_add, Nat.add_comm]; exact hl)
    have e4 : y.natAbs / 1000000 ^ (t + 1) = y.natAbs / 1000000 ^ t / 1000000 := by rw [Nat.pow_succ, Nat.div_div_eq_div_mul]
    have e3 : lb y (((t + 2 : Nat) : Int) - 2) = wdig y t := by rw [show ((t + 2 : Nat) : Int) - 2 = ((t : Nat) : Int) by omega, lb_n]
    have e5 : wdig y (t + 2 - 1) = ((y.natAbs / 1000000 ^ t / 1000000 : Nat) : Int) := by
      rw [show t + 2 - 1 = t + 1 by omega, wdig_nn (by omega)]
      unfold nd
      rw [e4, Nat.mod_eq_of_lt (Nat.div_lt_of_lt_mul (by rw [← Nat.pow_two]; exact hX))]
    have e6 : wdig y t = ((y.natAbs / 1000000 ^ t % 1000000 : Nat) : Int) := by
      rw [wdig_nn (by omega)]
      rfl
    obtain ⟨s1, s2⟩ := sand (x := y.natAbs) (t := t) 2
    rw [e5] at ht e1
    generalize hXe : y.natAbs / 1000000 ^ t = X at *
    simp at hX
    refine ⟨X + 1, ?_, ?_, ?_, ?_, s2⟩
    · rw [e1, e3, e6]; omega
    · omega
    · omega
    · rw [Nat.add_sub_cancel]; exact s1
theorem guess_ok {x y k s M O : Nat} (hy : 0 < y) (hx : x < y * 1000000 ^ (s + 1)) (hM1 : M * 1000000 ^ (k + s) ≤ x * 1000000 ^ 2) (hM2 : x * 1000000 ^ 2 < (M + 1) * 1000000 ^ (k + s)) (hO1 : (O - 1) * 1000000 ^ k ≤ y * 1000000 ^ 2) (hO2 : y * 1000000 ^ 2 < O * 1000000 ^ k) (hO : 1000000 < O) : M / O * (y * 1000000 ^ s) ≤ x ∧ x < (M / O + 3) * (y * 1000000 ^ s) := by
  have hz1 : M / O * O ≤ M := Nat.div_mul_le_self M O
  have hz2 : M < M / O * O + O := Nat.lt_div_mul_add (by omega)
  generalize M / O = z at *
  have hP := bp_pos k
  have hS := bp_pos s
  rw [Nat.pow_add] at hM1 hM2
  rw [Nat.pow_succ] at hx
  generalize 1000000 ^ k = P at *
  generalize 1000000 ^ s = S at *
  have c1 : z * (y * S) ≤ x := by
    have a1 : z * S * (y * 1000000 ^ 2) ≤ z * S * (O * P) := Nat.mul_le_mul_left _ (by omega)
    have a2 : z * O * (P * S) ≤ M * (P * S) := Nat.mul_le_mul_right _ hz1
    have e1 : z * S * (y * 1000000 ^ 2) = z * (y * S) * 1000000 ^ 2 := by
      rw [Nat.mul_assoc, Nat.mul_assoc, ← Nat.mul_assoc S, Nat.mul_comm S y]
    have e2 : z * S * (O * P) = z * O * (P * S) := by
      rw [Nat.mul_assoc, Nat.mul_assoc, Nat.mul_left_comm S, Nat.mul_comm S P]
    have a3 : z * (y * S) * 1000000 ^ 2 ≤ x * 1000000 ^ 2 := by omega
    exact Nat.le_of_mul_le_mul_right a3 (by omega)
  refine ⟨c1, ?_⟩
  have hyS : 0 < y * S := Nat.mul_pos hy hS
  have hzB : z < 1000000 := by
    rcases Nat.lt_or_ge z 1000000 with h | h
    · exact h
    · have : 1000000 * (y * S) ≤ z * (y * S) := Nat.mul_le_mul_right _ h
      rw [← Nat.mul_assoc] at hx
      omega
  have a1 : (M + 1) * (P * S) ≤ (z + 1) * O * (P * S) := Nat.mul_le_mul_right _ (by rw [Nat.add_mul, Nat.one_mul]; omega)
  have a2 : (z + 1) * O ≤ (z + 3) * (O - 1) := by
    obtain ⟨o, rfl⟩ : ∃ o, O = o + 1 := ⟨O - 1, by omega⟩
    rw [Nat.add_sub_cancel, Nat.add_mul, Nat.add_mul, Nat.mul_add]
    omega
  have a3 : (z + 1) * O * (P * S) ≤ (z + 3) * (O - 1) * (P * S) := Nat.mul_le_mul_right _ a2
  have a4 : (z + 3) * S * ((O - 1) * P) ≤ (z + 3) * S * (y * 1000000 ^ 2) := Nat.mul_le_mul_left _ hO1
  have e1 : (z + 3) * S * ((O - 1) * P) = (z + 3) * (O - 1) * (P * S) := by
    rw [Nat.mul_assoc, Nat.mul_assoc, Nat.mul_left_comm S, Nat.mul_comm S P]
  have e2 : (z + 3) * S * (y * 1000000 ^ 2) = (z + 3) * (y * S) * 1000000 ^ 2 := by
    rw [Nat.mul_assoc, Nat.mul_assoc, ← Nat.mul_assoc S, Nat.mul_comm S y]
  have a5 : x * 1000000 ^ 2 < (z + 3) * (y * S) * 1000000 ^ 2 := Nat.lt_of_lt_of_le hM2 (Nat.le_trans a1 (Nat.le_trans a3 (by rw [← e1, ← e2]; exact a4)))
  exact Nat.lt_of_mul_lt_mul_right a5
-- taking away
def ta (x y t : Int) (s : Nat) (j : Nat) : Int := if j < s then wdig x j else wdig x j - t * lb y ((j : Int) - (s : Int))
theorem wv_sh (g : Nat → Int) (s : Nat) : ∀ m : Nat, wv (fun j => if j < s then 0 else g (j - s)) (s + m) = 1000000 ^ s * wv g m
  | 0 => by
    rw [wv_congr (g := fun _ => 0) (fun j hj => by simp; omega), wv_zero]
    simp [wv]
  | m + 1 => by
    show wv _ (s + m) + (if s + m < s then 0 else g (s + m - s)) * 1000000 ^ (s + m) = 1000000 ^ s * (wv g m + g m * 1000000 ^ m)
    rw [wv_sh g s m, if_neg (by omega), show s + m - s = m by omega, bp_add, Int.mul_add, Int.mul_left_comm]
theorem wv_ta {x y t : Int} {m k1 k2 s : Nat} (hy : wk y m k2) (h : k2 + s ≤ k1) (hx : x.natAbs < 1000000 ^ k1) : wv (ta x y t s) k1 = x - t * (y * 1000000 ^ s) := by
  have e1 : wv (ta x y t s) k1 = wv (fun j => wdig x j + (-t) * (fun j => if j < s then 0 else wdig y (j - s)) j) k1 := wv_congr (fun j _ => by
    unfold ta
    by_cases e : j < s
    · simp [e]
    · simp only [if_neg e]
      rw [show (j : Int) - (s : Int) = ((j - s : Nat) : Int) by omega, lb_n, Int.neg_mul]
      omega)
  obtain ⟨r, rfl⟩ : ∃ r, k1 = s + r := ⟨k1 - s, by omega⟩
  rw [e1, wv_lin, wv_wdig hx, wv_sh, wv_wdig (Nat.lt_of_lt_of_le hy.2.1 (bp_mono (by omega))), Int.neg_mul, Int.mul_comm (1000000 ^ s) y]
  omega
theorem ta_lo {x y t : Int} (hx : 0 ≤ x) {s : Nat} : ∀ j, j ≤ s → sc (ta x y t s) j = 0
  | 0, _ => rfl
  | j + 1, hj => by
    have ih := ta_lo (x := x) (y := y) (t := t) hx (s := s) j (by omega)
    have e : sc (ta x y t s) (j + 1) = (ta x y t s j + sc (ta x y t s) j) / 1000000 := rfl
    rw [e, ih]
    unfold ta
    rw [if_pos (by omega)]
    have h1 := wdig_b x j
    have h2 := (wdig_sg (v := x) j).1 hx
    omega
theorem ta_sd {x y t : Int} (hx : 0 ≤ x) {s j : Nat} (hj : j < s) : sd (ta x y t s) j = wdig x j := by
  have e : sd (ta x y t s) j = ta x y t s j + sc (ta x y t s) j - sc (ta x y t s) (j + 1) * 1000000 := rfl
  rw [e, ta_lo hx j (by omega), ta_lo hx (j + 1) (by omega)]
  unfold ta
  rw [if_pos hj]
  omega
