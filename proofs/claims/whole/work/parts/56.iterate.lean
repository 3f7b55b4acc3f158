/-! policies made better: each round's values are greater, so no policy comes twice -/
abbrev gle (σ : MS) (v : Nat → Int) (b : Int) (i j : Nat) : Prop := gnum σ i v b * gsc σ j ≤ gnum σ j v b * gsc σ i
theorem frac_trans {a b c x y z : Int} (hx : 0 < x) (hy : 0 < y) (hz : 0 < z) (h1 : a * y ≤ b * x) (h2 : b * z ≤ c * y) : a * z ≤ c * x := by
  have e1 : a * y * z ≤ b * x * z := Int.mul_le_mul_of_nonneg_right h1 (by omega)
  have e2 : b * z * x ≤ c * y * x := Int.mul_le_mul_of_nonneg_right h2 (by omega)
  have e3 : a * z * y ≤ c * x * y := by
    rw [Int.mul_right_comm a z y, Int.mul_right_comm c x y]
    rw [Int.mul_right_comm b x z] at e1
    omega
  exact Int.le_of_mul_le_mul_right e3 hy
theorem frac_trans_lt {a b c x y z : Int} (hx : 0 < x) (hy : 0 < y) (hz : 0 < z) (h1 : a * y ≤ b * x) (h2 : b * z < c * y) : a * z < c * x := by
  have e1 : a * y * z ≤ b * x * z := Int.mul_le_mul_of_nonneg_right h1 (by omega)
  have e2 : b * z * x < c * y * x := Int.mul_lt_mul_of_pos_right h2 hx
  have e3 : a * z * y < c * x * y := by
    rw [Int.mul_right_comm a z y, Int.mul_right_comm c x y]
    rw [Int.mul_right_comm b x z] at e1
    omega
  exact Int.lt_of_mul_lt_mul_right e3 (by omega)
theorem frac_lt_trans {a b c x y z : Int} (hx : 0 < x) (hy : 0 < y) (hz : 0 < z) (h1 : a * y < b * x) (h2 : b * z ≤ c * y) : a * z < c * x := by
  have e1 : a * y * z < b * x * z := Int.mul_lt_mul_of_pos_right h1 hz
  have e2 : b * z * x ≤ c * y * x := Int.mul_le_mul_of_nonneg_right h2 (by omega)
  have e3 : a * z * y < c * x * y := by
    rw [Int.mul_right_comm a z y, Int.mul_right_comm c x y]
    rw [Int.mul_right_comm b x z] at e1
    omega
  exact Int.lt_of_mul_lt_mul_right e3 (by omega)
/-- what the chooser finds is as great as where it began and as all it has seen; and greater than where it began, if it is another -/
theorem gpick_ge {σ : MS} {st beg : Nat} {v : Nat → Int} {b : Int} {m : Nat} (hb : beg < m) (hs : ∀ k, k < m → 0 < gsc σ (4 * st + k)) : ∀ a, a ≤ m → gle σ v b (4 * st + beg) (4 * st + gpick σ st beg v b a) ∧ (∀ j, j < a → gle σ v b (4 * st + j) (4 * st + gpick σ st beg v b a)) ∧ (gpick σ st beg v b a ≠ beg → gmore σ v b (4 * st + gpick σ st beg v b a) (4 * st + beg))
  | 0, _ => ⟨Int.le_refl _, fun j hj => absurd hj (Nat.not_lt_zero j), fun h => absurd rfl h⟩
  | a + 1, ha => by
    obtain ⟨h1, h2, h3⟩ := gpick_ge (v := v) (b := b) hb hs a (by omega)
    have hp := gpick_lt (σ := σ) (st := st) (v := v) (b := b) hb a (by omega)
    have e : gpick σ st beg v b (a + 1) = if a ≠ beg ∧ gmore σ v b (4 * st + a) (4 * st + gpick σ st beg v b a) then a else gpick σ st beg v b a := rfl
    by_cases hc : a ≠ beg ∧ gmore σ v b (4 * st + a) (4 * st + gpick σ st beg v b a)
    · rw [if_pos hc] at e
      rw [e]
      have s1 := hs beg hb
      have s2 := hs _ hp
      have s3 := hs a (by omega)
      have hm := hc.2
      refine ⟨frac_trans s1 s2 s3 h1 (Int.le_of_lt hm), fun j hj => ?_, fun _ => frac_trans_lt s1 s2 s3 h1 hm⟩
      by_cases ej : j = a
      · rw [ej]; exact Int.le_refl _
      · exact frac_trans (hs j (by omega)) s2 s3 (h2 j (by omega)) (Int.le_of_lt hm)
    · rw [if_neg hc] at e
      rw [e]
      refine ⟨h1, fun j hj => ?_, h3⟩
      by_cases ej : j = a
      · rw [ej]
        by_cases eb : a = beg
        · subst eb; exact h1
        · exact Int.not_lt.mp (fun h => hc ⟨eb, h⟩)
      · exact h2 j (by omega)
theorem gsc_pos {σ : MS} (h : mOK σ) (hr : rdy σ) {s k : Nat} (hs : s < mN σ) (hk : k < mC σ s) : 0 < gsc σ (4 * s + k) := by
  have hN := h.1
  have hC := h.2.1 s (by omega)
  have h1 := (h.2.2.1 (4 * s + k) (by omega)).2.2.1
  have h2 := (hr.2 s hs).2 k hk
  have h3 := h.2.2.2.1
  exact Int.mul_pos (Int.mul_pos (by omega) (by omega)) (by omega)
/-- a policy's equations by its rows -/
theorem pv_row {σ : MS} {π : Nat → Nat} {v : Nat → Int} {i : Nat} (hi : i < mN σ) (b : Int) : sI (fun j => pm σ π i j * v j) (mN σ) = v i * gsc σ (4 * i + π i) - gnum σ (4 * i + π i) v b + b * gc0 σ (4 * i + π i) := by
  rw [pm_row hi v _ (Nat.le_refl _), if_pos hi]
  unfold gnum
  rw [gsum_sI, Int.mul_comm (v i)]
  omega
/-- if every state gains by π' under v, then the values of π' are as great as v, and greater where it gains more -/
theorem pv_better {σ : MS} {π' : Nat → Nat} {v v' : Nat → Int} {b b' : Int} (h : mOK σ) (hr : rdy σ) (hπ : ∀ s, s < mN σ → π' s < mC σ s) (hb : 0 < b) (hp : PV σ π' v' b') (hg : ∀ s, s < mN σ → v s * gsc σ (4 * s + π' s) ≤ gnum σ (4 * s + π' s) v b) : (∀ s, s < mN σ → v s * b' ≤ v' s * b) ∧ ∀ s, s < mN σ → v s * gsc σ (4 * s + π' s) < gnum σ (4 * s + π' s) v b → v s * b' < v' s * b := by
  have hz := pm_z h hr hπ
  have hb' := hp.1
  have key : ∀ i, i < mN σ → sI (fun j => pm σ π' i j * (b * v' j + (-b') * v j)) (mN σ) = b' * (gnum σ (4 * i + π' i) v b - v i * gsc σ (4 * i + π' i)) := fun i hi => by
    have e1 := pv_row (π := π') (v := v') hi b'
    have e2 := pv_row (π := π') (v := v) hi b
    rw [(hp.2.2 i hi).1] at e1
    have e3 := sI_lin (fun j => pm σ π' i j * v' j) (fun j => pm σ π' i j * v j) b (-b') (mN σ)
    rw [sI_congr (g := fun j => pm σ π' i j * (b * v' j + (-b') * v j)) (fun j _ => by rw [Int.mul_add, Int.mul_left_comm b, Int.mul_left_comm (-b')])] at e3
    rw [e3, e1, e2]
    rw [Int.neg_mul, Int.mul_add, Int.mul_sub, Int.mul_sub, Int.mul_add, Int.mul_sub, Int.mul_left_comm b b']
    omega
  have hnn : ∀ i, i < mN σ → 0 ≤ sI (fun j => pm σ π' i j * (b * v' j + (-b') * v j)) (mN σ) := fun i hi => by
    rw [key i hi]
    exact Int.mul_nonneg (by omega) (by have := hg i hi; omega)
  obtain ⟨k, hk⟩ : ∃ k, mN σ = k + 1 := ⟨mN σ - 1, by have := hr.1; omega⟩
  obtain ⟨a, a1, a2⟩ := least_at (fun j => b * v' j + (-b') * v j) k
  have hmin := row_min (a := pm σ π' a) (y := fun j => b * v' j + (-b') * v j) (i := a) (k := mN σ) (hz a (by omega)).1 (fun j hj => a2 j (by omega))
  have ha0 := hnn a (by omega)
  have hsa := (hz a (by omega)).2
  have hya : 0 ≤ b * v' a + (-b') * v a := by
    rcases Int.lt_or_le (b * v' a + (-b') * v a) 0 with hh | hh
    · have h1 := Int.mul_neg_of_neg_of_pos hh hsa
      have h2 : (fun j => b * v' j + (-b') * v j) a * sI (pm σ π' a) (mN σ) < 0 := h1
      omega
    · exact hh
  have hall : ∀ s, s < mN σ → 0 ≤ b * v' s + (-b') * v s := fun s hs => Int.le_trans hya (a2 s (by omega))
  refine ⟨fun s hs => ?_, fun s hs hlt => ?_⟩
  · have := hall s hs
    rw [Int.neg_mul] at this
    rw [Int.mul_comm (v s), Int.mul_comm (v' s)]
    omega
  · have h1 := hall s hs
    rcases Int.lt_or_le 0 (b * v' s + (-b') * v s) with hh | hh
    · rw [Int.neg_mul] at hh
      rw [Int.mul_comm (v s), Int.mul_comm (v' s)]
      omega
    · exfalso
      have h0 : b * v' s + (-b') * v s = 0 := by omega
      have hm := row_min (a := pm σ π' s) (y := fun j => b * v' j + (-b') * v j) (i := s) (k := mN σ) (hz s hs).1 (fun j hj => by have := hall j hj; show b * v' s + (-b') * v s ≤ b * v' j + (-b') * v j; omega)
      have hm2 : (b * v' s + (-b') * v s) * sI (pm σ π' s) (mN σ) = 0 := by rw [h0, Int.zero_mul]
      rw [key s hs] at hm
      have h3 : 0 < b' * (gnum σ (4 * s + π' s) v b - v s * gsc σ (4 * s + π' s)) := Int.mul_pos hb' (by omega)
      omega
/-- the values of a policy are one: two ways of telling them are the same fractions -/
theorem pv_uniq {σ : MS} {π : Nat → Nat} {v v' : Nat → Int} {b b' : Int} (h : mOK σ) (hr : rdy σ) (hπ : ∀ s, s < mN σ → π s < mC σ s) (hp : PV σ π v b) (hp' : PV σ π v' b') : ∀ s, s < mN σ → v s * b' = v' s * b := fun s hs => by
  have h1 := (pv_better h hr hπ hp.1 hp' (fun s hs => by rw [(hp.2.2 s hs).1]; exact Int.le_refl _)).1 s hs
  have h2 := (pv_better h hr hπ hp'.1 hp (fun s hs => by rw [(hp'.2.2 s hs).1]; exact Int.le_refl _)).1 s hs
  omega
theorem pv_congr {σ : MS} {π π' : Nat → Nat} {v : Nat → Int} {b : Int} (hp : PV σ π v b) (he : ∀ s, s < mN σ → π s = π' s) : PV σ π' v b := ⟨hp.1, hp.2.1, fun s hs => by rw [← he s hs]; exact hp.2.2 s hs⟩
theorem pv_ex {σ : MS} {π : Nat → Nat} (h : mOK σ) (hr : rdy σ) (hπ : ∀ s, s < mN σ → π s < mC σ s) : ∃ v b, PV σ π v b := ⟨_, _, pv_of h hr hπ (v := fun s => (if (mN σ - 1 - s) % 2 = 0 then 1 else -1) * dl (pm σ π) (mN σ) (rm (mN σ + 1) s)) (fun s _ => rfl)⟩
theorem npol_lt {σ : MS} {π : Nat → Nat} {v : Nat → Int} {b : Int} {s : Nat} (hπ : π s < mC σ s) : npol σ π v b s < mC σ s := gpick_lt hπ _ (Nat.le_refl _)
/-- one round: the next policy's values are as great, and greater where it differs -/
theorem round_ge {σ : MS} {π : Nat → Nat} {v v' : Nat → Int} {b b' : Int} (h : mOK σ) (hr : rdy σ) (hπ : ∀ s, s < mN σ → π s < mC σ s) (hp : PV σ π v b) (hp' : PV σ (npol σ π v b) v' b') : (∀ s, s < mN σ → v s * b' ≤ v' s * b) ∧ ∀ s, s < mN σ → npol σ π v b s ≠ π s → v s * b' < v' s * b := by
  have hs : ∀ s, s < mN σ → ∀ k, k < mC σ s → 0 < gsc σ (4 * s + k) := fun s hs k hk => gsc_pos h hr hs hk
  have hge := fun s (hs' : s < mN σ) => gpick_ge (v := v) (b := b) (hπ s hs') (hs s hs') (mC σ s) (Nat.le_refl _)
  have hn : ∀ s, s < mN σ → npol σ π v b s < mC σ s := fun s hs => npol_lt (hπ s hs)
  have hw : ∀ s, s < mN σ → v s * gsc σ (4 * s + npol σ π v b s) ≤ gnum σ (4 * s + npol σ π v b s) v b := fun s hs' => by
    have h1 := (hge s hs').1
    have h2 : gnum σ (4 * s + π s) v b * gsc σ (4 * s + npol σ π v b s) ≤ gnum σ (4 * s + npol σ π v b s) v b * gsc σ (4 * s + π s) := h1
    rw [← (hp.2.2 s hs').1, Int.mul_right_comm] at h2
    exact Int.le_of_mul_le_mul_right h2 (hs s hs' _ (hπ s hs'))
  obtain ⟨b1, b2⟩ := pv_better h hr hn hp.1 hp' hw
  refine ⟨b1, fun s hs' hne => b2 s hs' ?_⟩
  have h1 := (hge s hs').2.2 hne
  have h2 : gnum σ (4 * s + π s) v b * gsc σ (4 * s + npol σ π v b s) < gnum σ (4 * s + npol σ π v b s) v b * gsc σ (4 * s + π s) := h1
  rw [← (hp.2.2 s hs').1, Int.mul_right_comm] at h2
  exact Int.lt_of_mul_lt_mul_right h2 (Int.le_of_lt (hs s hs' _ (hπ s hs')))
