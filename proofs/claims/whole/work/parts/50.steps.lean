/-! going on step by step: what a step makes -/
def spk (σ : MS) (v : Nat → Int) (b : Int) (s : Nat) : Nat := gpick σ s 0 v b (mC σ s)
def tP (σ : MS) (pk : Nat → Nat) : Nat → Nat
  | 0 => 1
  | k + 1 => tP σ pk k * mT σ (4 * k + pk k)
theorem tP_b {σ : MS} (h : mOK σ) {pk : Nat → Nat} (hp : ∀ s, s < mN σ → pk s < 4) : ∀ k, k ≤ mN σ → tP σ pk k ≤ 120 ^ k
  | 0, _ => Nat.le_refl 1
  | k + 1, hk => by
    have hN := h.1
    have := hp k (by omega)
    exact Nat.mul_le_mul (tP_b h hp k (by omega)) (mT_b h (by omega))
theorem tP_pos {σ : MS} {pk : Nat → Nat} (hp : ∀ s, s < mN σ → 0 < mT σ (4 * s + pk s)) : ∀ k, k ≤ mN σ → 0 < tP σ pk k
  | 0, _ => Nat.one_pos
  | k + 1, hk => Nat.mul_pos (tP_pos hp k (by omega)) (hp k (by omega))
theorem tP_dvd {σ : MS} {pk : Nat → Nat} {s : Nat} : ∀ k, s < k → mT σ (4 * s + pk s) ∣ tP σ pk k
  | 0, h => absurd h (Nat.not_lt_zero s)
  | k + 1, h => by
    by_cases e : s = k
    · subst e; exact Nat.dvd_mul_left _ _
    · exact Nat.dvd_trans (tP_dvd k (by omega)) (Nat.dvd_mul_right _ _)
theorem sI_abs {f : Nat → Int} : ∀ k, (sI f k).natAbs ≤ sB (fun j => (f j).natAbs) k
  | 0 => Nat.le_refl 0
  | k + 1 => by
    have := sI_abs (f := f) k
    show (sI f k + f k).natAbs ≤ sB _ k + (f k).natAbs
    omega
theorem sB_lin (q : Nat → Nat) (a : Nat) : ∀ k, sB (fun j => a * q j) k = a * sB q k
  | 0 => rfl
  | k + 1 => by
    show sB _ k + a * q k = a * (sB q k + q k)
    rw [sB_lin q a k, Nat.mul_add]
theorem sB_sI (q : Nat → Nat) : ∀ k, ((sB q k : Nat) : Int) = sI (fun j => (q j : Int)) k
  | 0 => rfl
  | k + 1 => by
    show ((sB q k + q k : Nat) : Int) = sI _ k + (q k : Int)
    rw [Int.natCast_add, sB_sI q k]
/-- values up to 20,000 stay so -/
theorem gn_b {σ : MS} (h : mOK σ) {i : Nat} (hi : i < 24) {v : Nat → Int} {b : Int} (hb : 0 < b) (hv : ∀ t, t < mN σ → (v t).natAbs ≤ 20000 * b.natAbs) : (gnum σ i v b).natAbs ≤ 20000 * b.natAbs * (gsc σ i).natAbs := by
  have h1 := h.2.2.1 i hi
  have hAB := h.2.2.2.1
  have hB := h.2.2.2.2.1
  have hsw : sB (fun t => mW σ i t) (mN σ) = mT σ i := by
    have h1 := sumW h hi
    have h2 := sB_sI (fun t => mW σ i t) (mN σ)
    omega
  have e1 : (gsum σ i v (mN σ)).natAbs ≤ 20000 * b.natAbs * (mD σ i * mA σ * mT σ i) := by
    rw [gsum_sI]
    refine Nat.le_trans (sI_abs _) ?_
    have e2 : sB (fun t => 20000 * b.natAbs * (mD σ i * mA σ) * mW σ i t) (mN σ) = 20000 * b.natAbs * (mD σ i * mA σ * mT σ i) := by
      rw [sB_lin, hsw, Nat.mul_assoc (20000 * b.natAbs)]
    rw [← e2]
    refine sB_le (fun t ht => ?_)
    rw [Int.natAbs_mul]
    have e3 : (gct σ i t).natAbs = mD σ i * mA σ * mW σ i t := by unfold gct; rw [Int.natAbs_mul, Int.natAbs_mul]; rfl
    rw [e3, Nat.mul_comm]
    have := Nat.mul_le_mul_right (mD σ i * mA σ * mW σ i t) (hv t ht)
    rw [Nat.mul_assoc (20000 * b.natAbs) (mD σ i * mA σ)]
    exact this
  have e4 : (gc0 σ i).natAbs ≤ 1000 * mB σ * mT σ i := by
    unfold gc0
    rw [Int.natAbs_mul, Int.natAbs_mul]
    exact Nat.mul_le_mul (Nat.mul_le_mul (by omega) (Nat.le_refl _)) (Nat.le_refl _)
  have e5 : (gsc σ i).natAbs = mD σ i * mB σ * mT σ i := by unfold gsc; rw [Int.natAbs_mul, Int.natAbs_mul]; rfl
  have e6 : (b * gc0 σ i).natAbs ≤ b.natAbs * (1000 * mB σ * mT σ i) := by rw [Int.natAbs_mul]; exact Nat.mul_le_mul_left _ e4
  have e7 : 1000 * mB σ + 20000 * (mD σ i * mA σ) ≤ 20000 * (mD σ i * mB σ) := by
    obtain ⟨d, hd⟩ : ∃ d, mB σ = mA σ + 1 + d := ⟨mB σ - mA σ - 1, by omega⟩
    have a1 : mD σ i * mB σ = mD σ i * mA σ + mD σ i + mD σ i * d := by rw [hd, Nat.mul_add, Nat.mul_add, Nat.mul_one]
    omega
  have e8 : b.natAbs * (1000 * mB σ * mT σ i) + 20000 * b.natAbs * (mD σ i * mA σ * mT σ i) ≤ 20000 * b.natAbs * (mD σ i * mB σ * mT σ i) := by
    have a1 := Nat.mul_le_mul_left (b.natAbs) (Nat.mul_le_mul_right (mT σ i) e7)
    have a2 : b.natAbs * ((1000 * mB σ + 20000 * (mD σ i * mA σ)) * mT σ i) = b.natAbs * (1000 * mB σ * mT σ i) + 20000 * b.natAbs * (mD σ i * mA σ * mT σ i) := by
      rw [Nat.add_mul, Nat.mul_add, Nat.mul_assoc 20000, Nat.mul_comm 20000 b.natAbs, Nat.mul_assoc b.natAbs 20000]
    have a3 : b.natAbs * (20000 * (mD σ i * mB σ) * mT σ i) = 20000 * b.natAbs * (mD σ i * mB σ * mT σ i) := by
      rw [Nat.mul_assoc 20000, Nat.mul_comm 20000 b.natAbs, Nat.mul_assoc b.natAbs 20000]
    omega
  rw [e5]
  unfold gnum
  omega
/-- the lower part behind k steps at the most -/
def bb (k : Nat) : Nat := 232792560 * 59719680000000 ^ k
theorem bb_mono {a b : Nat} (h : a ≤ b) : bb a ≤ bb b := Nat.mul_le_mul_left _ (Nat.pow_le_pow_right (by omega) h)
theorem bb_8 : 20000 * bb 8 < 1000000 ^ 24 ∧ 960000000 * bb 7 < 1000000 ^ 23 := by decide +kernel
/-- one step: from v over b to v' over b' -/
def SR (σ : MS) (cm : Nat) (v : Nat → Int) (b : Int) (v' : Nat → Int) (b' : Int) (pk : Nat → Int) : Prop := 0 < b' ∧ (cm : Int) ∣ b' ∧ b' ≤ b * 59719680000000 ∧ ∀ s, s < mN σ → pk s = (spk σ v b s : Int) ∧ (v' s).natAbs ≤ 20000 * b'.natAbs ∧ v' s * (b * gsc σ (4 * s + spk σ v b s)) = gnum σ (4 * s + spk σ v b s) v b * b'
theorem gn_dvd {σ : MS} {i : Nat} {v : Nat → Int} {b : Int} {cm : Nat} (h1 : mD σ i ∣ cm) (h2 : (cm : Int) ∣ b) : (mD σ i : Int) ∣ gnum σ i v b := by
  have hb : (mD σ i : Int) ∣ b := Int.dvd_trans (Int.natCast_dvd_natCast.mpr h1) h2
  have hs : ∀ k, (mD σ i : Int) ∣ gsum σ i v k := by
    intro k
    induction k with
    | zero => exact ⟨0, by simp [gsum]⟩
    | succ k ih =>
      refine Int.dvd_add ih ?_
      exact Int.dvd_trans ⟨(mA σ : Int) * (mW σ i k : Int), by unfold gct; rw [Int.mul_assoc]⟩ (Int.dvd_mul_left _ _)
  exact Int.dvd_add (Int.dvd_trans hb (Int.dvd_mul_right _ _)) (hs _)
theorem spk_lt {σ : MS} (hr : rdy σ) {v : Nat → Int} {b : Int} {s : Nat} (hs : s < mN σ) : spk σ v b s < mC σ s := gpick_lt (hr.2 s hs).1 _ (Nat.le_refl _)
theorem p120 {k : Nat} (h : k ≤ 6) : 120 ^ k ≤ 2985984000000 := by
  have h1 : 120 ^ k ≤ 120 ^ 6 := Nat.pow_le_pow_right (by omega) h
  have h2 : 120 ^ 6 = 2985984000000 := by decide +kernel
  omega
/-- the parts of a step fit -/
theorem step_fit {σ : MS} {v : Nat → Int} {b g q : Int} {i T : Nat} (hq : q * (mD σ i : Int) = g) (hT : mT σ i ∣ T) (b' : Int) (hb' : b' = b * (mB σ : Int) * (T : Int)) : q * ((T / mT σ i : Nat) : Int) * (b * gsc σ i) = g * b' := by
  obtain ⟨u, hu⟩ := hT
  by_cases h0 : mT σ i = 0
  · rw [h0, Nat.zero_mul] at hu
    unfold gsc
    rw [hb', hu, h0]
    simp
  · have e : T / mT σ i = u := by rw [hu, Nat.mul_div_cancel_left _ (by omega)]
    rw [e, hb', hu, ← hq, Int.natCast_mul]
    unfold gsc
    generalize (mD σ i : Int) = d
    generalize (mB σ : Int) = B
    generalize (mT σ i : Int) = t
    generalize (u : Int) = w
    simp only [Int.mul_assoc, Int.mul_comm, Int.mul_left_comm]
