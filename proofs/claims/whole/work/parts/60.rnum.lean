/-! numbers of the reference: limbs of 28 bits -/
theorem j_land (x : Nat) : (lI (x : Int) &&& lI 268435455) = lI ((x % 268435456 : Nat) : Int) := by
  apply Int64.toBitVec_inj.1
  show BitVec.ofInt 64 (x : Int) &&& BitVec.ofInt 64 ((268435455 : Nat) : Int) = BitVec.ofInt 64 ((x % 268435456 : Nat) : Int)
  rw [BitVec.ofInt_natCast, BitVec.ofInt_natCast, BitVec.ofInt_natCast, ← BitVec.ofNat_and]
  exact congrArg _ (Nat.and_two_pow_sub_one_eq_mod x 28)
theorem j_iand (x : Nat) : (iI (x : Int) &&& iI 268435455) = iI ((x % 268435456 : Nat) : Int) := by
  apply Int32.toBitVec_inj.1
  show BitVec.ofInt 32 (x : Int) &&& BitVec.ofInt 32 ((268435455 : Nat) : Int) = BitVec.ofInt 32 ((x % 268435456 : Nat) : Int)
  rw [BitVec.ofInt_natCast, BitVec.ofInt_natCast, BitVec.ofInt_natCast, ← BitVec.ofNat_and]
  exact congrArg _ (Nat.and_two_pow_sub_one_eq_mod x 28)
theorem j_and1 (x : Nat) : (iI (x : Int) &&& iI 1) = iI ((x % 2 : Nat) : Int) := by
  apply Int32.toBitVec_inj.1
  show BitVec.ofInt 32 (x : Int) &&& BitVec.ofInt 32 ((1 : Nat) : Int) = BitVec.ofInt 32 ((x % 2 : Nat) : Int)
  rw [BitVec.ofInt_natCast, BitVec.ofInt_natCast, BitVec.ofInt_natCast, ← BitVec.ofNat_and]
  exact congrArg _ (Nat.and_two_pow_sub_one_eq_mod x 1)
theorem j_lshr {x : Nat} (hx : x < 9223372036854775808) : (lI (x : Int) >>> ((iI 28).toInt64 &&& 63)) = lI ((x / 268435456 : Nat) : Int) := by
  have e : (((iI 28).toInt64 &&& 63 : Int64).toBitVec.smod 64).toNat = 28 := by decide +kernel
  apply Int64.toBitVec_inj.1
  apply BitVec.eq_of_toInt_eq
  show ((lI (x : Int)).toBitVec.sshiftRight (((iI 28).toInt64 &&& 63 : Int64).toBitVec.smod 64).toNat).toInt = (lI ((x / 268435456 : Nat) : Int)).toInt
  have e1 : (lI (x : Int)).toBitVec.toInt = (x : Int) := lI_t (by omega) (by omega)
  have h2 : x / 268435456 ≤ x := Nat.div_le_self _ _
  rw [e, BitVec.toInt_sshiftRight, Int.shiftRight_eq_div_pow, e1, lI_t (by omega) (by omega)]
  rfl
theorem j_ishr {x r : Nat} (hx : x < 2147483648) (hr : r < 29) : (iI (x : Int) >>> (iI (r : Int) &&& 31)) = iI ((x / 2 ^ r : Nat) : Int) := by
  have e : ∀ r : Fin 29, ((iI (r.val : Int) &&& 31 : Int32).toBitVec.smod 32).toNat = r.val := by decide +kernel
  have e2 : ((iI (r : Int) &&& 31 : Int32).toBitVec.smod 32).toNat = r := e ⟨r, hr⟩
  apply Int32.toBitVec_inj.1
  apply BitVec.eq_of_toInt_eq
  show ((iI (x : Int)).toBitVec.sshiftRight ((iI (r : Int) &&& 31 : Int32).toBitVec.smod 32).toNat).toInt = (iI ((x / 2 ^ r : Nat) : Int)).toInt
  have e1 : (iI (x : Int)).toBitVec.toInt = (x : Int) := iI_t (by omega) (by omega)
  have h2 : x / 2 ^ r ≤ x := Nat.div_le_self _ _
  rw [e2, BitVec.toInt_sshiftRight, Int.shiftRight_eq_div_pow, e1, iI_t (Int.le_trans (by omega) (Int.natCast_nonneg _)) (Int.le_trans (Int.ofNat_le.mpr h2) (by omega))]
  rfl
theorem j_ishl {r : Nat} (hr : r < 29) : (iI 1 <<< (iI (r : Int) &&& 31)) = iI ((2 ^ r : Nat) : Int) := by
  have e : ∀ r : Fin 29, (iI 1 <<< (iI (r.val : Int) &&& 31)) = iI ((2 ^ r.val : Nat) : Int) := by decide +kernel
  exact e ⟨r, hr⟩
theorem j_ior (x y : Nat) : (iI (x : Int) ||| iI (y : Int)) = iI ((x ||| y : Nat) : Int) := by
  apply Int32.toBitVec_inj.1
  show BitVec.ofInt 32 (x : Int) ||| BitVec.ofInt 32 (y : Int) = BitVec.ofInt 32 ((x ||| y : Nat) : Int)
  rw [BitVec.ofInt_natCast, BitVec.ofInt_natCast, BitVec.ofInt_natCast, ← BitVec.ofNat_or]
theorem j_clr (x y z : Nat) (h : ∀ i, i < 32 → z.testBit i = (x.testBit i && !y.testBit i)) : (iI (x : Int) &&& (iI (y : Int) ^^^ iI (-1))) = iI (z : Int) := by
  apply Int32.toBitVec_inj.1
  have e1 : (iI (-1)).toBitVec = BitVec.allOnes 32 := by decide +kernel
  show BitVec.ofInt 32 (x : Int) &&& (BitVec.ofInt 32 (y : Int) ^^^ (iI (-1)).toBitVec) = BitVec.ofInt 32 (z : Int)
  rw [e1, BitVec.xor_allOnes, BitVec.ofInt_natCast, BitVec.ofInt_natCast, BitVec.ofInt_natCast]
  apply BitVec.eq_of_getLsbD_eq
  intro i hi
  rw [BitVec.getLsbD_and, BitVec.getLsbD_not, BitVec.getLsbD_ofNat, BitVec.getLsbD_ofNat, BitVec.getLsbD_ofNat, h i hi]
  simp only [hi, decide_true, Bool.true_and]
-- digits
def bd (x k : Nat) : Nat := x / 268435456 ^ k % 268435456
theorem rb_pos (n : Nat) : 0 < 268435456 ^ n := Nat.pow_pos (by omega)
theorem rb_s (n : Nat) : 268435456 ^ (n + 1) = 268435456 ^ n * 268435456 := Nat.pow_succ _ _
theorem rb_mono {a b : Nat} (h : a ≤ b) : 268435456 ^ a ≤ 268435456 ^ b := Nat.pow_le_pow_right (by omega) h
theorem bd_lt (x k : Nat) : bd x k < 268435456 := Nat.mod_lt _ (by omega)
theorem bd_0 {x k : Nat} (h : x < 268435456 ^ k) : bd x k = 0 := by unfold bd; rw [Nat.div_eq_of_lt h]
theorem bd_mod (x k : Nat) : bd x k = x % 268435456 ^ (k + 1) / 268435456 ^ k := by unfold bd; rw [rb_s, Nat.mod_mul_right_div_self]
theorem bd_congr {x y k : Nat} (h : x % 268435456 ^ (k + 1) = y % 268435456 ^ (k + 1)) : bd x k = bd y k := by rw [bd_mod, bd_mod, h]
theorem bd_split (x k : Nat) : x % 268435456 ^ (k + 1) = x % 268435456 ^ k + 268435456 ^ k * bd x k := by unfold bd; rw [rb_s, Nat.mod_mul]
theorem bd_ext {x y : Nat} : ∀ {n : Nat}, x < 268435456 ^ n → y < 268435456 ^ n → (∀ k, k < n → bd x k = bd y k) → x = y := by
  intro n hx hy h
  have key : ∀ k, k ≤ n → x % 268435456 ^ k = y % 268435456 ^ k := by
    intro k
    induction k with
    | zero => intro _; rw [Nat.pow_zero, Nat.mod_one, Nat.mod_one]
    | succ k ih => intro hk; rw [bd_split, bd_split, ih (by omega), h k (by omega)]
  have := key n (Nat.le_refl n)
  rw [Nat.mod_eq_of_lt hx, Nat.mod_eq_of_lt hy] at this
  exact this
-- times a small number
def ct (x t k : Nat) : Nat := x % 268435456 ^ k * t / 268435456 ^ k
theorem ct_step (x t k : Nat) : bd x k * t + ct x t k = x % 268435456 ^ (k + 1) * t / 268435456 ^ k := by
  rw [bd_split, Nat.add_mul, Nat.mul_assoc, Nat.add_mul_div_left _ _ (rb_pos k), Nat.add_comm]
  rfl
theorem ct_next (x t k : Nat) : (bd x k * t + ct x t k) / 268435456 = ct x t (k + 1) := by
  rw [ct_step, Nat.div_div_eq_div_mul, ← rb_s]
  rfl
theorem ct_dig (x t k : Nat) : (bd x k * t + ct x t k) % 268435456 = bd (x * t) k := by
  rw [ct_step]
  show bd (x % 268435456 ^ (k + 1) * t) k = bd (x * t) k
  exact bd_congr (Nat.mod_mul_mod _ _ _)
theorem ct_le (x t k : Nat) : ct x t k ≤ t := by
  unfold ct
  refine Nat.le_of_lt_succ (Nat.div_lt_of_lt_mul ?_)
  have h1 := Nat.mod_lt x (rb_pos k)
  have h2 : x % 268435456 ^ k * t ≤ 268435456 ^ k * t := Nat.mul_le_mul_right _ (Nat.le_of_lt h1)
  have h3 := rb_pos k
  rw [Nat.mul_succ]
  omega
theorem ct_0 (x t : Nat) : ct x t 0 = 0 := by unfold ct; rw [Nat.pow_zero, Nat.mod_one, Nat.zero_mul]
theorem ct_top {x t n : Nat} (h : x < 268435456 ^ n) : ct x t n = x * t / 268435456 ^ n := by unfold ct; rw [Nat.mod_eq_of_lt h]
theorem dv_s (x n : Nat) : x / 268435456 ^ n / 268435456 = x / 268435456 ^ (n + 1) := by rw [Nat.div_div_eq_div_mul, ← rb_s]
-- adding
def ca (x y k : Nat) : Nat := (x % 268435456 ^ k + y % 268435456 ^ k) / 268435456 ^ k
theorem ca_step (x y k : Nat) : bd x k + bd y k + ca x y k = (x % 268435456 ^ (k + 1) + y % 268435456 ^ (k + 1)) / 268435456 ^ k := by
  rw [bd_split x, bd_split y]
  have e : x % 268435456 ^ k + 268435456 ^ k * bd x k + (y % 268435456 ^ k + 268435456 ^ k * bd y k) = x % 268435456 ^ k + y % 268435456 ^ k + 268435456 ^ k * (bd x k + bd y k) := by rw [Nat.mul_add]; omega
  rw [e, Nat.add_mul_div_left _ _ (rb_pos k), Nat.add_comm]
  rfl
theorem ca_next (x y k : Nat) : (bd x k + bd y k + ca x y k) / 268435456 = ca x y (k + 1) := by
  rw [ca_step, Nat.div_div_eq_div_mul, ← rb_s]
  rfl
theorem ca_dig (x y k : Nat) : (bd x k + bd y k + ca x y k) % 268435456 = bd (x + y) k := by
  rw [ca_step]
  show bd (x % 268435456 ^ (k + 1) + y % 268435456 ^ (k + 1)) k = bd (x + y) k
  exact bd_congr (Nat.add_mod _ _ _).symm
theorem ca_le (x y k : Nat) : ca x y k ≤ 1 := by
  unfold ca
  refine Nat.le_of_lt_succ (Nat.div_lt_of_lt_mul ?_)
  have h1 := Nat.mod_lt x (rb_pos k)
  have h2 := Nat.mod_lt y (rb_pos k)
  omega
theorem ca_0 (x y : Nat) : ca x y 0 = 0 := by unfold ca; rw [Nat.pow_zero, Nat.mod_one, Nat.mod_one]
theorem ca_top {x y n : Nat} (hx : x < 268435456 ^ n) (hy : y < 268435456 ^ n) : ca x y n = bd (x + y) n := by
  have h1 := ca_dig x y n
  have h2 := ca_le x y n
  rw [bd_0 hx, bd_0 hy] at h1
  omega
-- taking away: x is y and z
theorem sb_step {x y z : Nat} (h : x = y + z) (k : Nat) : (bd z k : Int) = (bd x k : Int) - bd y k - ca y z k + 268435456 * ca y z (k + 1) := by
  subst h
  have h1 := ca_dig y z k
  have h2 := ca_next y z k
  omega
-- products
def cm (P x i y j : Nat) : Nat := (P % 268435456 ^ (i + j) + x * (268435456 ^ i * (y % 268435456 ^ j))) / 268435456 ^ (i + j)
theorem cm_step (P x i y j : Nat) : bd P (i + j) + cm P x i y j + x * bd y j = (P % 268435456 ^ (i + j + 1) + x * (268435456 ^ i * (y % 268435456 ^ (j + 1)))) / 268435456 ^ (i + j) := by
  rw [bd_split P, bd_split y]
  have e1 : 268435456 ^ i * (268435456 ^ j * bd y j) = 268435456 ^ (i + j) * bd y j := by rw [Nat.pow_add, Nat.mul_assoc]
  have e : P % 268435456 ^ (i + j) + 268435456 ^ (i + j) * bd P (i + j) + x * (268435456 ^ i * (y % 268435456 ^ j + 268435456 ^ j * bd y j)) = P % 268435456 ^ (i + j) + x * (268435456 ^ i * (y % 268435456 ^ j)) + 268435456 ^ (i + j) * (bd P (i + j) + x * bd y j) := by
    rw [Nat.mul_add (268435456 ^ i), e1, Nat.mul_add x, Nat.mul_add (268435456 ^ (i + j)), Nat.mul_left_comm x (268435456 ^ (i + j))]
    omega
  rw [e, Nat.add_mul_div_left _ _ (rb_pos (i + j))]
  unfold cm
  omega
theorem cm_next (P x i y j : Nat) : (bd P (i + j) + cm P x i y j + x * bd y j) / 268435456 = cm P x i y (j + 1) := by
  rw [cm_step, Nat.div_div_eq_div_mul, ← rb_s]
  rfl
theorem cm_dig (P x i y j : Nat) : (bd P (i + j) + cm P x i y j + x * bd y j) % 268435456 = bd (P + x * (268435456 ^ i * y)) (i + j) := by
  rw [cm_step]
  show bd (P % 268435456 ^ (i + j + 1) + x * (268435456 ^ i * (y % 268435456 ^ (j + 1)))) (i + j) = _
  refine bd_congr ?_
  have e : 268435456 ^ i * (y % 268435456 ^ (j + 1)) = 268435456 ^ i * y % 268435456 ^ (i + j + 1) := by rw [← Nat.mul_mod_mul_left, ← Nat.pow_add, Nat.add_assoc]
  rw [e, Nat.add_mod, Nat.mod_mod, Nat.mul_mod x, Nat.mod_mod, ← Nat.mul_mod x, ← Nat.add_mod]
theorem cm_le (P x i y j : Nat) : cm P x i y j ≤ x := by
  unfold cm
  refine Nat.le_of_lt_succ (Nat.div_lt_of_lt_mul ?_)
  have h1 := Nat.mod_lt P (rb_pos (i + j))
  have h2 := Nat.mod_lt y (rb_pos j)
  have h3 : x * (268435456 ^ i * (y % 268435456 ^ j)) ≤ x * (268435456 ^ i * 268435456 ^ j) := Nat.mul_le_mul_left _ (Nat.mul_le_mul_left _ (Nat.le_of_lt h2))
  rw [← Nat.pow_add] at h3
  rw [Nat.mul_succ, Nat.mul_comm _ x]
  omega
theorem cm_0 (P x i y : Nat) : cm P x i y 0 = 0 := by
  unfold cm
  rw [Nat.pow_zero, Nat.mod_one, Nat.mul_zero, Nat.mul_zero, Nat.add_zero]
  exact Nat.div_eq_of_lt (Nat.mod_lt _ (rb_pos _))
/-- where the carry is 0 and the other number is used up, what lies above stays -/
theorem cm_end {P x i y j : Nat} (hy : y < 268435456 ^ j) (h0 : cm P x i y j = 0) (k : Nat) (hk : i + j ≤ k) : bd (P + x * (268435456 ^ i * y)) k = bd P k := by
  unfold cm at h0
  rw [Nat.mod_eq_of_lt hy] at h0
  have h1 : P % 268435456 ^ (i + j) + x * (268435456 ^ i * y) < 268435456 ^ (i + j) := by
    rcases Nat.div_eq_zero_iff.mp h0 with h | h
    · have := rb_pos (i + j); omega
    · exact h
  obtain ⟨q, rfl⟩ : ∃ q, k = i + j + q := ⟨k - (i + j), by omega⟩
  unfold bd
  rw [Nat.pow_add 268435456 (i + j) q, ← Nat.div_div_eq_div_mul, ← Nat.div_div_eq_div_mul]
  have h2 : (P + x * (268435456 ^ i * y)) / 268435456 ^ (i + j) = P / 268435456 ^ (i + j) := by
    have h3 := Nat.div_add_mod P (268435456 ^ (i + j))
    have e : P + x * (268435456 ^ i * y) = P % 268435456 ^ (i + j) + x * (268435456 ^ i * y) + 268435456 ^ (i + j) * (P / 268435456 ^ (i + j)) := by omega
    rw [e, Nat.add_mul_div_left _ _ (rb_pos (i + j)), Nat.div_eq_of_lt h1, Nat.zero_add]
  rw [h2]
/-- a carry that is not 0 says that the product goes further -/
theorem cm_more {P x i y j n : Nat} (hQ : P + x * (268435456 ^ i * y) < 268435456 ^ n) (h0 : 0 < cm P x i y j) : i + j < n := by
  rcases Nat.lt_or_ge (i + j) n with h | h
  · exact h
  · exfalso
    have h1 : P % 268435456 ^ (i + j) + x * (268435456 ^ i * (y % 268435456 ^ j)) ≤ P + x * (268435456 ^ i * y) := Nat.add_le_add (Nat.mod_le _ _) (Nat.mul_le_mul_left _ (Nat.mul_le_mul_left _ (Nat.mod_le _ _)))
    have h2 := rb_mono h
    unfold cm at h0
    rw [Nat.div_eq_of_lt (by omega)] at h0
    omega
-- dividing by a small number
theorem os_step (x : Nat) {d : Nat} (hd : 0 < d) (k : Nat) : (x / 268435456 ^ (k + 1) % d * 268435456 + bd x k) / d = bd (x / d) k ∧ (x / 268435456 ^ (k + 1) % d * 268435456 + bd x k) % d = x / 268435456 ^ k % d := by
  have hq : x / 268435456 ^ k = 268435456 * (x / 268435456 ^ (k + 1)) + bd x k := by
    rw [← dv_s]
    exact (Nat.div_add_mod _ _).symm
  generalize x / 268435456 ^ (k + 1) = u at *
  have hu := Nat.div_add_mod u d
  have e : x / 268435456 ^ k = u % d * 268435456 + bd x k + d * (268435456 * (u / d)) := by
    rw [hq]
    have : 268435456 * u = d * (268435456 * (u / d)) + u % d * 268435456 := by
      rw [Nat.mul_left_comm d, Nat.mul_comm (u % d), ← Nat.mul_add, hu]
    omega
  constructor
  · have hb : bd (x / d) k = x / 268435456 ^ k / d % 268435456 := by
      unfold bd
      rw [Nat.div_div_eq_div_mul, Nat.div_div_eq_div_mul, Nat.mul_comm d]
    rw [hb, e, Nat.add_mul_div_left _ _ hd, Nat.add_mul_mod_self_left]
    symm
    apply Nat.mod_eq_of_lt
    have h1 := Nat.mod_lt u hd
    have h2 := bd_lt x k
    apply Nat.div_lt_of_lt_mul
    have h3 : (u % d + 1) * 268435456 ≤ d * 268435456 := Nat.mul_le_mul_right _ h1
    rw [Nat.add_mul] at h3
    omega
  · rw [e, Nat.add_mul_mod_self_left]
-- comparing
theorem cp_lt {x y k : Nat} (h : x / 268435456 ^ (k + 1) = y / 268435456 ^ (k + 1)) (hd : bd x k < bd y k) : x < y := by
  have hx : x / 268435456 ^ k = 268435456 * (x / 268435456 ^ (k + 1)) + bd x k := by
    rw [← dv_s]; exact (Nat.div_add_mod _ _).symm
  have hy : y / 268435456 ^ k = 268435456 * (y / 268435456 ^ (k + 1)) + bd y k := by
    rw [← dv_s]; exact (Nat.div_add_mod _ _).symm
  rcases Nat.lt_or_ge x y with hh | hh
  · exact hh
  · have := Nat.div_le_div_right (c := 268435456 ^ k) hh
    omega
theorem cp_eq {x y k : Nat} (h : x / 268435456 ^ (k + 1) = y / 268435456 ^ (k + 1)) (hd : bd x k = bd y k) : x / 268435456 ^ k = y / 268435456 ^ k := by
  have hx : x / 268435456 ^ k = 268435456 * (x / 268435456 ^ (k + 1)) + bd x k := by
    rw [← dv_s]; exact (Nat.div_add_mod _ _).symm
  have hy : y / 268435456 ^ k = 268435456 * (y / 268435456 ^ (k + 1)) + bd y k := by
    rw [← dv_s]; exact (Nat.div_add_mod _ _).symm
  omega
-- lengths
def rk (x n : Nat) : Prop := n ≤ 64 ∧ x < 268435456 ^ n ∧ (0 < n → 268435456 ^ (n - 1) ≤ x)
theorem rk_le {x n m : Nat} (h : rk x n) (hx : x < 268435456 ^ m) : n ≤ m := by
  rcases Nat.lt_or_ge m n with hh | hh
  · have h1 := h.2.2 (by omega)
    have h2 := rb_mono (show m ≤ n - 1 by omega)
    omega
  · exact hh
theorem rk_z {x n : Nat} (h : rk x n) : n = 0 ↔ x = 0 := by
  constructor
  · intro hn; subst hn; have := h.2.1; omega
  · intro hx
    rcases Nat.eq_zero_or_pos n with hh | hh
    · exact hh
    · have h1 := h.2.2 hh
      have h2 := rb_pos (n - 1)
      omega
theorem rk_top {x n : Nat} (h : rk x (n + 1)) : 0 < bd x n := by
  have h1 := h.2.2 (by omega)
  rw [Nat.add_sub_cancel] at h1
  rcases Nat.eq_zero_or_pos (bd x n) with hh | hh
  · rw [bd_mod, Nat.mod_eq_of_lt h.2.1] at hh
    have := (Nat.div_eq_zero_iff.mp hh)
    have h2 := rb_pos n
    omega
  · exact hh
theorem rk_of {x n : Nat} (hn : n ≤ 64) (h : x < 268435456 ^ n) (ht : 0 < n → bd x (n - 1) ≠ 0) : rk x n := by
  refine ⟨hn, h, fun h0 => ?_⟩
  have h1 := ht h0
  rcases Nat.lt_or_ge x (268435456 ^ (n - 1)) with hh | hh
  · exact absurd (bd_0 hh) h1
  · exact hh
theorem rk_dn {x n : Nat} (h : x < 268435456 ^ (n + 1)) (h0 : bd x n = 0) : x < 268435456 ^ n := by
  rw [bd_mod, Nat.mod_eq_of_lt h] at h0
  have := (Nat.div_eq_zero_iff.mp h0)
  have h2 := rb_pos n
  omega
theorem rk_lt {x y n m : Nat} (hx : rk x n) (hy : rk y m) (h : n < m) : x < y := by
  have h1 := hy.2.2 (by omega)
  have h2 := rb_mono (show n ≤ m - 1 by omega)
  have h3 := hx.2.1
  omega
/-- number a of the bank: limbs f, lengths g, signs h -/
def DG (f : Nat → Int) (a x n : Nat) : Prop := ∀ k, k < n → f (64 * a + k) = (bd x k : Int)
def Num (f g h : Nat → Int) (a : Nat) (v : Int) : Prop := ∃ n, rk v.natAbs n ∧ g a = (n : Int) ∧ DG f a v.natAbs n ∧ h a = v.sign
/-- but for a, all stays -/
def Oth (a : Nat) (f g h f' g' h' : Nat → Int) : Prop := (∀ q, q < 64 * a ∨ 64 * a + 64 ≤ q → f' q = f q) ∧ ∀ b, b ≠ a → g' b = g b ∧ h' b = h b
theorem Oth.rf {a : Nat} {f g h : Nat → Int} : Oth a f g h f g h := ⟨fun _ _ => rfl, fun _ _ => ⟨rfl, rfl⟩⟩
theorem Oth.tr {a : Nat} {f g h f1 g1 h1 f2 g2 h2 : Nat → Int} (x : Oth a f g h f1 g1 h1) (y : Oth a f1 g1 h1 f2 g2 h2) : Oth a f g h f2 g2 h2 := ⟨fun q hq => (y.1 q hq).trans (x.1 q hq), fun b hb => ⟨(y.2 b hb).1.trans (x.2 b hb).1, (y.2 b hb).2.trans (x.2 b hb).2⟩⟩
theorem Num.oth {a b : Nat} {f g h f' g' h' : Nat → Int} {v : Int} (x : Num f g h b v) (o : Oth a f g h f' g' h') (hb : b ≠ a) : Num f' g' h' b v := by
  obtain ⟨n, h1, h2, h3, h4⟩ := x
  refine ⟨n, h1, by rw [(o.2 b hb).1]; exact h2, fun k hk => ?_, by rw [(o.2 b hb).2]; exact h4⟩
  have := h1.1
  rw [o.1 _ (by omega)]
  exact h3 k hk
theorem Oth.f {a : Nat} {f g h f' : Nat → Int} (hf : ∀ q, q < 64 * a ∨ 64 * a + 64 ≤ q → f' q = f q) : Oth a f g h f' g h := ⟨hf, fun _ _ => ⟨rfl, rfl⟩⟩
theorem DG.oth {a b x n : Nat} {f f' : Nat → Int} (h : DG f b x n) (hn : n ≤ 64) (hb : b ≠ a) (hf : ∀ q, q < 64 * a ∨ 64 * a + 64 ≤ q → f' q = f q) : DG f' b x n := fun k hk => by
  rw [hf _ (by omega)]
  exact h k hk
theorem ud_o {a : Nat} {f f0 : Nat → Int} {q : Nat} {z : Int} (hq : 64 * a ≤ q ∧ q < 64 * a + 64) (h : ∀ q, q < 64 * a ∨ 64 * a + 64 ≤ q → f q = f0 q) : ∀ p, p < 64 * a ∨ 64 * a + 64 ≤ p → ud f q z p = f0 p := fun p hp => by
  rw [ud_n _ _ (by omega)]
  exact h p hp
theorem DG.up {f : Nat → Int} {a x k : Nat} {z : Int} (h : DG f a x k) (hz : z = (bd x k : Int)) : DG (ud f (64 * a + k) z) a x (k + 1) := fun j hj => by
  by_cases e : j = k
  · subst e; rw [ud_s]; exact hz
  · rw [ud_n _ _ (by omega)]; exact h j (by omega)
theorem DG.le {f : Nat → Int} {a x n m : Nat} (h : DG f a x n) (hm : m ≤ n) : DG f a x m := fun k hk => h k (by omega)
theorem DG.b {f : Nat → Int} {a x n k : Nat} (h : DG f a x n) (hk : k < n) : 0 ≤ f (64 * a + k) ∧ f (64 * a + k) < 268435456 := by
  have := bd_lt x k
  rw [h k hk]
  omega
-- long division by bits
theorem bp2 (k : Nat) : 268435456 ^ k = 2 ^ (28 * k) := by rw [Nat.pow_mul]
def mq (Q X b : Nat) : Nat := 2 ^ b * (Q / 2 ^ b) + X % 2 ^ b
theorem mq_bit (Q X b t : Nat) : (mq Q X b).testBit t = if t < b then X.testBit t else Q.testBit t := by
  unfold mq
  rw [Nat.testBit_two_pow_mul_add _ (Nat.mod_lt _ (Nat.two_pow_pos b))]
  by_cases h : t < b
  · rw [if_pos h, if_pos h, Nat.testBit_mod_two_pow, decide_eq_true h, Bool.true_and]
  · rw [if_neg h, if_neg h, Nat.testBit_div_two_pow]
    congr 1
    omega
theorem bd_bit (x k i : Nat) : (bd x k).testBit i = (decide (i < 28) && x.testBit (28 * k + i)) := by
  unfold bd
  rw [show (268435456 : Nat) = 2 ^ 28 from rfl, Nat.testBit_mod_two_pow, ← Nat.pow_mul, Nat.testBit_div_two_pow]
  congr 2
  omega
theorem mq_o {Q X j r k : Nat} (hr : r < 28) (hk : k ≠ j) : bd (mq Q X (28 * j + r + 1)) k = bd (mq Q X (28 * j + r)) k := by
  apply Nat.eq_of_testBit_eq
  intro i
  rw [bd_bit, bd_bit]
  by_cases hi : i < 28
  · rw [decide_eq_true hi, Bool.true_and, Bool.true_and, mq_bit, mq_bit]
    by_cases h : 28 * k + i < 28 * j + r
    · rw [if_pos h, if_pos (by omega)]
    · rw [if_neg h, if_neg (by omega)]
  · rw [decide_eq_false hi, Bool.false_and, Bool.false_and]
theorem mq_1 {Q X j r : Nat} (hr : r < 28) (hq : Q.testBit (28 * j + r) = true) : (bd (mq Q X (28 * j + r + 1)) j ||| 2 ^ r) = bd (mq Q X (28 * j + r)) j := by
  apply Nat.eq_of_testBit_eq
  intro i
  rw [Nat.testBit_or, Nat.testBit_two_pow, bd_bit, bd_bit]
  by_cases hi : i < 28
  · rw [decide_eq_true hi, Bool.true_and, Bool.true_and, mq_bit, mq_bit]
    by_cases e : r = i
    · subst e
      rw [decide_eq_true rfl, Bool.or_true, if_neg (by omega), hq]
    · rw [decide_eq_false e, Bool.or_false]
      by_cases h : 28 * j + i < 28 * j + r
      · rw [if_pos h, if_pos (by omega)]
      · rw [if_neg h, if_neg (by omega)]
  · rw [decide_eq_false hi, Bool.false_and, Bool.false_and, decide_eq_false (by omega)]
    rfl
theorem mq_2 {Q X j r : Nat} (hr : r < 28) (hq : Q.testBit (28 * j + r) = false) : ∀ i, i < 32 → (bd (mq Q X (28 * j + r)) j).testBit i = ((bd (mq Q X (28 * j + r + 1)) j).testBit i && !(2 ^ r).testBit i) := by
  intro i _
  rw [Nat.testBit_two_pow, bd_bit, bd_bit]
  by_cases hi : i < 28
  · rw [decide_eq_true hi, Bool.true_and, Bool.true_and, mq_bit, mq_bit]
    by_cases e : r = i
    · subst e
      rw [decide_eq_true rfl, if_neg (by omega), hq, Bool.not_true, Bool.and_false]
    · rw [decide_eq_false e, Bool.not_false, Bool.and_true]
      by_cases h : 28 * j + i < 28 * j + r
      · rw [if_pos h, if_pos (by omega)]
      · rw [if_neg h, if_neg (by omega)]
  · rw [decide_eq_false hi, Bool.false_and, Bool.false_and, Bool.false_and]
theorem mq_x {Q X j r : Nat} (hr : r < 28) : bd (mq Q X (28 * j + r + 1)) j / 2 ^ r % 2 = X / 2 ^ (28 * j + r) % 2 := by
  have h1 := Nat.testBit_eq_decide_div_mod_eq (x := bd (mq Q X (28 * j + r + 1)) j) (i := r)
  rw [bd_bit, decide_eq_true hr, Bool.true_and, mq_bit, if_pos (by omega), Nat.testBit_eq_decide_div_mod_eq] at h1
  have h2 := decide_eq_decide.mp h1
  omega
theorem mq_top {Q X n : Nat} (hQ : Q < 268435456 ^ n) (hX : X < 268435456 ^ n) : mq Q X (28 * n) = X := by
  rw [bp2] at hQ hX
  unfold mq
  rw [Nat.div_eq_of_lt hQ, Nat.mod_eq_of_lt hX, Nat.mul_zero, Nat.zero_add]
theorem mq_end (Q X : Nat) : mq Q X 0 = Q := by unfold mq; rw [Nat.pow_zero, Nat.mod_one, Nat.div_one]; omega
/-- the rest while dividing -/
def rr (X Y b : Nat) : Nat := X / 2 ^ b % Y
theorem rr_step {X Y b : Nat} (hY : 0 < Y) : (rr X Y b = if Y ≤ 2 * rr X Y (b + 1) + X / 2 ^ b % 2 then 2 * rr X Y (b + 1) + X / 2 ^ b % 2 - Y else 2 * rr X Y (b + 1) + X / 2 ^ b % 2) ∧ (X / Y).testBit b = decide (Y ≤ 2 * rr X Y (b + 1) + X / 2 ^ b % 2) := by
  have h1 : X / 2 ^ b = 2 * (X / 2 ^ (b + 1)) + X / 2 ^ b % 2 := by
    rw [Nat.pow_succ, ← Nat.div_div_eq_div_mul]
    exact (Nat.div_add_mod _ _).symm
  have h2 := Nat.div_add_mod (X / 2 ^ (b + 1)) Y
  have hr := Nat.mod_lt (X / 2 ^ (b + 1)) hY
  have hx : X / 2 ^ b % 2 < 2 := Nat.mod_lt _ (by omega)
  unfold rr
  generalize X / 2 ^ (b + 1) % Y = R at *
  generalize X / 2 ^ (b + 1) / Y = q at *
  generalize X / 2 ^ b % 2 = z at *
  have h3 : X / 2 ^ b = 2 * R + z + Y * (2 * q) := by
    rw [h1, ← h2, Nat.mul_add, Nat.mul_left_comm]
    omega
  have hQ : X / Y / 2 ^ b = (2 * R + z) / Y + 2 * q := by
    rw [Nat.div_div_eq_div_mul, Nat.mul_comm, ← Nat.div_div_eq_div_mul, h3, Nat.add_mul_div_left _ _ hY]
  rw [Nat.testBit_eq_decide_div_mod_eq, hQ, h3, Nat.add_mul_mod_self_left]
  by_cases h : Y ≤ 2 * R + z
  · have e1 : (2 * R + z) / Y = 1 := Nat.div_eq_of_lt_le (by omega) (by omega)
    have e2 : (2 * R + z) % Y = 2 * R + z - Y := by
      rw [Nat.mod_eq_sub_mod h, Nat.mod_eq_of_lt (by omega)]
    rw [if_pos h, e1, e2, decide_eq_true h]
    exact ⟨rfl, decide_eq_true (by omega)⟩
  · rw [if_neg h, Nat.div_eq_of_lt (by omega), Nat.mod_eq_of_lt (by omega), decide_eq_false h]
    exact ⟨rfl, decide_eq_false (by omega)⟩
theorem rr_0 {X Y n : Nat} (hX : X < 268435456 ^ n) : rr X Y (28 * n) = 0 := by
  rw [bp2] at hX
  unfold rr
  rw [Nat.div_eq_of_lt hX, Nat.zero_mod]
theorem rr_lt {X Y : Nat} (b : Nat) (hY : 0 < Y) : rr X Y b < Y := Nat.mod_lt _ hY
