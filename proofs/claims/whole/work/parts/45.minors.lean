/-! minors by their last rows, and the equations of a policy -/
def sI (f : Nat → Int) : Nat → Int
  | 0 => 0
  | k + 1 => sI f k + f k
theorem sI_congr {f g : Nat → Int} : ∀ {k : Nat}, (∀ j, j < k → f j = g j) → sI f k = sI g k
  | 0, _ => rfl
  | k + 1, h => by
    show sI f k + f k = sI g k + g k
    rw [sI_congr (fun j hj => h j (by omega)), h k (by omega)]
theorem sI_lin (f g : Nat → Int) (a b : Int) : ∀ k : Nat, sI (fun j => a * f j + b * g j) k = a * sI f k + b * sI g k
  | 0 => by simp [sI]
  | k + 1 => by
    show sI _ k + (a * f k + b * g k) = a * (sI f k + f k) + b * (sI g k + g k)
    rw [sI_lin f g a b k, Int.mul_add, Int.mul_add]
    omega
theorem sI_le {f g : Nat → Int} : ∀ {k : Nat}, (∀ j, j < k → f j ≤ g j) → sI f k ≤ sI g k
  | 0, _ => Int.le_refl 0
  | k + 1, h => Int.add_le_add (sI_le (fun j hj => h j (by omega))) (h k (by omega))
theorem sI_zero : ∀ k : Nat, sI (fun _ => 0) k = 0
  | 0 => rfl
  | k + 1 => by
    show sI _ k + 0 = 0
    rw [sI_zero k]
    rfl
theorem sI_dec {f : Nat → Int} {k : Nat} : ∀ {n : Nat}, k ≤ n → (∀ j, k ≤ j → j < n → f j ≤ 0) → sI f n ≤ sI f k
  | 0, h, _ => by rw [show k = 0 by omega]; exact Int.le_refl _
  | n + 1, h, hf => by
    by_cases e : k = n + 1
    · rw [e]; exact Int.le_refl _
    · have h1 := sI_dec (f := f) (k := k) (n := n) (by omega) (fun j a b => hf j a (by omega))
      have h2 := hf n (by omega) (by omega)
      show sI f n + f n ≤ _
      omega
theorem least_at (y : Nat → Int) : ∀ k : Nat, ∃ i, i ≤ k ∧ ∀ j, j ≤ k → y i ≤ y j
  | 0 => ⟨0, Nat.le_refl 0, fun j hj => by rw [show j = 0 by omega]; exact Int.le_refl _⟩
  | k + 1 => by
    obtain ⟨i, h1, h2⟩ := least_at y k
    by_cases h : y (k + 1) < y i
    · refine ⟨k + 1, Nat.le_refl _, fun j hj => ?_⟩
      by_cases e : j = k + 1
      · rw [e]; exact Int.le_refl _
      · have := h2 j (by omega); omega
    · refine ⟨i, by omega, fun j hj => ?_⟩
      by_cases e : j = k + 1
      · rw [e]; omega
      · exact h2 j (by omega)
/-- a row whose places beside i are not above 0: under values that are least at i, it gives no more than the least one by its sum -/
theorem row_min {a y : Nat → Int} {i k : Nat} (ha : ∀ j, j < k → j ≠ i → a j ≤ 0) (hy : ∀ j, j < k → y i ≤ y j) : sI (fun j => a j * y j) k ≤ y i * sI a k := by
  have h : sI (fun j => a j * y j) k ≤ sI (fun j => y i * a j + 0 * a j) k := sI_le (fun j hj => by
    by_cases e : j = i
    · subst e
      rw [Int.mul_comm]
      omega
    · have h1 := ha j hj e
      have h2 := hy j hj
      have h3 : a j * (y j - y i) ≤ 0 := Int.mul_nonpos_of_nonpos_of_nonneg h1 (by omega)
      rw [Int.mul_sub] at h3
      rw [Int.mul_comm (y i)]
      omega)
  rw [sI_lin] at h
  omega
theorem row_max {a y : Nat → Int} {i k : Nat} (ha : ∀ j, j < k → j ≠ i → a j ≤ 0) (hy : ∀ j, j < k → y j ≤ y i) : y i * sI a k ≤ sI (fun j => a j * y j) k := by
  have h := row_min (a := a) (y := fun j => - y j) (i := i) (k := k) ha (fun j hj => by have := hy j hj; omega)
  have e : sI (fun j => a j * - y j) k = - sI (fun j => a j * y j) k := by
    have := sI_lin (fun j => a j * y j) (fun _ => 0) (-1) 0 k
    rw [sI_congr (g := fun j => a j * - y j) (fun j _ => by rw [Int.mul_neg]; omega)] at this
    omega
  rw [e] at h
  rw [Int.neg_mul] at h
  omega
/-- rows as a policy's equations are: below 0 at the most beside the own place, their sums above 0 -/
def zrow (R : Nat → Nat → Int) (n : Nat) : Prop := ∀ i, i < n → (∀ j, j < n → j ≠ i → R i j ≤ 0) ∧ 0 < sI (R i) n
theorem zrow_pre {R : Nat → Nat → Int} {n k i : Nat} (h : zrow R n) (hi : i < k) (hk : k ≤ n) : 0 < sI (R i) k := by
  obtain ⟨h1, h2⟩ := h i (by omega)
  have := sI_dec (f := R i) (k := k) (n := n) hk (fun j a b => h1 j b (by omega))
  omega
/-- only 0 is sent to 0 -/
theorem zrow_inj {R : Nat → Nat → Int} {n : Nat} (h : zrow R n) {y : Nat → Int} (h0 : ∀ i, i < n → sI (fun j => R i j * y j) n = 0) : ∀ i, i < n → y i = 0 := by
  intro i hi
  obtain ⟨k, rfl⟩ : ∃ k, n = k + 1 := ⟨n - 1, by omega⟩
  obtain ⟨a, a1, a2⟩ := least_at y k
  obtain ⟨b, b1, b2⟩ := least_at (fun j => - y j) k
  have ha := row_min (a := R a) (y := y) (i := a) (k := k + 1) (h a (by omega)).1 (fun j hj => a2 j (by omega))
  have hb := row_max (a := R b) (y := y) (i := b) (k := k + 1) (h b (by omega)).1 (fun j hj => by have := b2 j (by omega); omega)
  rw [h0 a (by omega)] at ha
  rw [h0 b (by omega)] at hb
  have pa := (h a (by omega)).2
  have pb := (h b (by omega)).2
  have e1 : 0 ≤ y a := by
    rcases Int.lt_or_le (y a) 0 with hh | hh
    · have := Int.mul_neg_of_neg_of_pos hh pa
      omega
    · exact hh
  have e2 : y b ≤ 0 := by
    rcases Int.lt_or_le 0 (y b) with hh | hh
    · have := Int.mul_pos hh pb
      omega
    · exact hh
  have e3 := a2 i (by omega)
  have e4 := b2 i (by omega)
  omega
-- the alternating sum along a list of columns
def alt (w : Nat → Int) : List Nat → (List Nat → Int) → Int
  | [], _ => 0
  | c :: cs, F => w c * F cs - alt w cs (fun M => F (c :: M))
theorem alt_lin (w : Nat → Int) (a b : Int) : ∀ (L : List Nat) (F G : List Nat → Int), alt w L (fun M => a * F M + b * G M) = a * alt w L F + b * alt w L G
  | [], F, G => by simp [alt]
  | c :: cs, F, G => by
    have ih := alt_lin w a b cs (fun M => F (c :: M)) (fun M => G (c :: M))
    show w c * (a * F cs + b * G cs) - alt w cs (fun M => a * F (c :: M) + b * G (c :: M)) = a * (w c * F cs - alt w cs _) + b * (w c * G cs - alt w cs _)
    rw [ih, Int.mul_add, Int.mul_sub, Int.mul_sub, Int.mul_left_comm (w c) a, Int.mul_left_comm (w c) b]
    omega
theorem alt_zero (w : Nat → Int) (L : List Nat) {F : List Nat → Int} (h : ∀ M, F M = 0) : alt w L F = 0 := by
  have e : F = fun M => 0 * F M + 0 * F M := by
    funext M
    rw [h M]
    rfl
  rw [e, alt_lin]
  omega
theorem alt_anti (w u : Nat → Int) : ∀ (L : List Nat) (F : List Nat → Int), alt w L (fun M => alt u M F) = - alt u L (fun M => alt w M F)
  | [], F => by simp [alt]
  | c :: cs, F => by
    have ih := alt_anti w u cs (fun M => F (c :: M))
    have e1 : alt w cs (fun M => alt u (c :: M) F) = u c * alt w cs F + (-1) * alt w cs (fun M => alt u M (fun N => F (c :: N))) := by
      rw [← alt_lin w (u c) (-1) cs F (fun M => alt u M (fun N => F (c :: N)))]
      congr 1
      funext M
      show u c * F M - alt u M _ = _
      omega
    have e2 : alt u cs (fun M => alt w (c :: M) F) = w c * alt u cs F + (-1) * alt u cs (fun M => alt w M (fun N => F (c :: N))) := by
      rw [← alt_lin u (w c) (-1) cs F (fun M => alt w M (fun N => F (c :: N)))]
      congr 1
      funext M
      show w c * F M - alt w M _ = _
      omega
    show w c * alt u cs F - alt w cs (fun M => alt u (c :: M) F) = - (u c * alt w cs F - alt u cs (fun M => alt w (c :: M) F))
    rw [e1, e2]
    omega
/-- the minor of the first k rows on these columns, by its last row -/
def dl (R : Nat → Nat → Int) : Nat → List Nat → Int
  | 0, _ => 1
  | k + 1, L => alt (R k) L (dl R k)
theorem dl_kill (R : Nat → Nat → Int) : ∀ (k i : Nat), i < k → ∀ L, alt (R i) L (dl R k) = 0
  | 0, i, h, _ => absurd h (Nat.not_lt_zero i)
  | k + 1, i, h, L => by
    have e : dl R (k + 1) = fun M => alt (R k) M (dl R k) := by funext M; rfl
    rw [e]
    have h1 := alt_anti (R i) (R k) L (dl R k)
    by_cases hi : i = k
    · subst hi
      omega
    · rw [h1, alt_zero (R k) L (fun M => dl_kill R k i (by omega) M)]
      rfl
theorem alt_b {w : Nat → Int} {W B : Nat} (hw : ∀ c, (w c).natAbs ≤ W) : ∀ (L : List Nat) (F : List Nat → Int) (N : Nat), (∀ M, M.length + 1 ≤ N → (F M).natAbs ≤ B) → L.length ≤ N → (alt w L F).natAbs ≤ L.length * (W * B)
  | [], _, _, _, _ => by simp [alt]
  | c :: cs, F, N, hF, hL => by
    have hL' : cs.length + 1 ≤ N := hL
    have ih := alt_b hw cs (fun M => F (c :: M)) (N - 1) (fun M hM => hF (c :: M) (by rw [List.length_cons]; omega)) (by omega)
    have h1 : (w c * F cs).natAbs ≤ W * B := by rw [Int.natAbs_mul]; exact Nat.mul_le_mul (hw c) (hF cs hL')
    show (w c * F cs - alt w cs _).natAbs ≤ (cs.length + 1) * (W * B)
    rw [Nat.add_mul, Nat.one_mul]
    omega
theorem dl_b {R : Nat → Nat → Int} (hR : ∀ i c, (R i c).natAbs ≤ 2400000) : ∀ (k : Nat) (L : List Nat), L.length ≤ 7 → (dl R k L).natAbs ≤ 16800000 ^ k
  | 0, _, _ => by simp [dl]
  | k + 1, L, hL => by
    have h := alt_b (hR k) L (dl R k) 7 (fun M hM => dl_b hR k M (by omega)) hL
    show (alt (R k) L (dl R k)).natAbs ≤ _
    rw [Nat.pow_succ]
    have h2 : L.length * (2400000 * 16800000 ^ k) ≤ 7 * (2400000 * 16800000 ^ k) := Nat.mul_le_mul_right _ hL
    omega
-- columns from the top down, and cofactors
def ds : Nat → List Nat
  | 0 => []
  | k + 1 => k :: ds k
def cf : (List Nat → Int) → Nat → Nat → Int
  | _, 0, _ => 0
  | F, k + 1, j => if j = k then F (ds k) else - cf (fun M => F (k :: M)) k j
theorem alt_cf (w : Nat → Int) : ∀ (k : Nat) (F : List Nat → Int), alt w (ds k) F = sI (fun j => w j * cf F k j) k
  | 0, _ => rfl
  | k + 1, F => by
    have ih := alt_cf w k (fun M => F (k :: M))
    show w k * F (ds k) - alt w (ds k) (fun M => F (k :: M)) = sI (fun j => w j * cf F (k + 1) j) k + w k * cf F (k + 1) k
    have e1 : cf F (k + 1) k = F (ds k) := by show (if k = k then _ else _) = _; rw [if_pos rfl]
    have e2 : sI (fun j => w j * cf F (k + 1) j) k = - sI (fun j => w j * cf (fun M => F (k :: M)) k j) k := by
      have h := sI_lin (fun j => w j * cf (fun M => F (k :: M)) k j) (fun _ => 0) (-1) 0 k
      rw [sI_congr (g := fun j => w j * cf F (k + 1) j) (fun j hj => by
        show _ = w j * (if j = k then _ else _)
        rw [if_neg (by omega), Int.mul_neg]
        omega)] at h
      omega
    rw [e1, e2, ih]
    omega
/-- the determinant is above 0 -/
theorem det_pos {R : Nat → Nat → Int} {n : Nat} (h : zrow R n) : ∀ k, k ≤ n → 0 < dl R k (ds k)
  | 0, _ => by show (0 : Int) < 1; omega
  | k + 1, hk => by
    have ih := det_pos h k (by omega)
    have ek : cf (dl R k) (k + 1) k = dl R k (ds k) := by show (if k = k then _ else _) = _; rw [if_pos rfl]
    have e0 : dl R (k + 1) (ds (k + 1)) = sI (fun j => R k j * cf (dl R k) (k + 1) j) (k + 1) := alt_cf (R k) (k + 1) (dl R k)
    have e1 : ∀ i, i < k → sI (fun j => R i j * cf (dl R k) (k + 1) j) (k + 1) = 0 := fun i hi => by
      rw [← alt_cf]
      exact dl_kill R k i hi _
    generalize cf (dl R k) (k + 1) = y at *
    have hz : ∀ i, i < k + 1 → ∀ j, j < k + 1 → j ≠ i → R i j ≤ 0 := fun i hi j hj hne => (h i (by omega)).1 j (by omega) hne
    have hs : ∀ i, i < k + 1 → 0 < sI (R i) (k + 1) := fun i hi => zrow_pre h hi hk
    obtain ⟨a, a1, a2⟩ := least_at (fun j => - y j) k
    have hmax : ∀ j, j < k + 1 → y j ≤ y k := by
      intro j hj
      by_cases hak : a = k
      · have := a2 j (by omega)
        rw [hak] at this
        omega
      · have hb := row_max (a := R a) (y := y) (i := a) (k := k + 1) (hz a (by omega)) (fun j hj => by have := a2 j (by omega); omega)
        rw [e1 a (by omega)] at hb
        have hle : y a ≤ 0 := by
          rcases Int.lt_or_le 0 (y a) with hh | hh
          · have := Int.mul_pos hh (hs a (by omega))
            omega
          · exact hh
        have h1 := a2 j (by omega)
        omega
    have hb := row_max (a := R k) (y := y) (i := k) (k := k + 1) (hz k (by omega)) hmax
    rw [e0]
    have := Int.mul_pos (show 0 < y k by omega) (hs k (by omega))
    omega
