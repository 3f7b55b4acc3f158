/-! what is solved is best: greatest gains, no policy more, and how far the steps are -/
theorem sol_max {σ : MS} (hok : mOK σ) (hr : rdy σ) {r : Nat} {bp bv : Nat → Int} {bd : Int} (h : SOL σ r bp bv bd) : ∃ π : Nat → Nat, (∀ s, s < mN σ → π s < mC σ s ∧ bp s = (π s : Int)) ∧ PV σ π bv bd ∧ ∀ s, s < mN σ → ∀ j, j < mC σ s → gnum σ (4 * s + j) bv bd ≤ bv s * gsc σ (4 * s + j) := by
  obtain ⟨sq, h1, h2, h3, h4, h5, h6⟩ := h
  have hlt := seq_lt hr h1 r (Nat.le_refl _)
  have hlt' := seq_lt hr h1 (r - 1) (by omega)
  have hno : ∀ s, s < mN σ → sq (r - 1 + 1) s = sq (r - 1) s := fun s hs => Classical.byContradiction (fun hne => h4 ⟨s, hs, hne⟩)
  obtain ⟨v, b, p1, p2⟩ := h1.2 (r - 1) (by omega)
  have er : r - 1 + 1 = r := by omega
  rw [er] at hno p2
  have hpv : PV σ (sq r) v b := pv_congr p1 (fun s hs => (hno s hs).symm)
  have hu := pv_uniq hok hr hlt hpv h6
  refine ⟨sq r, fun s hs => ⟨hlt s hs, h5 s hs⟩, h6, fun s hs j hj => ?_⟩
  have hg : ∀ k, k < mC σ s → 0 < gsc σ (4 * s + k) := fun k hk => gsc_pos hok hr hs hk
  have hge := (gpick_ge (v := v) (b := b) (hlt' s hs) hg _ (Nat.le_refl _)).2.1 j hj
  have hnp : gpick σ s (sq (r - 1) s) v b (mC σ s) = sq r s := (p2 s hs).symm
  rw [hnp] at hge
  have hge2 : gnum σ (4 * s + j) v b * gsc σ (4 * s + sq r s) ≤ gnum σ (4 * s + sq r s) v b * gsc σ (4 * s + j) := hge
  rw [← (hpv.2.2 s hs).1, Int.mul_right_comm] at hge2
  have hle := Int.le_of_mul_le_mul_right hge2 (hg _ (hlt s hs))
  have e1 := gnum_prop hu (4 * s + j)
  have e2 := hu s hs
  have hm := Int.mul_le_mul_of_nonneg_right hle (Int.le_of_lt h6.1)
  rw [e1, Int.mul_right_comm, e2, Int.mul_right_comm] at hm
  exact Int.le_of_mul_le_mul_right hm p1.1
/-- if no state gains by π' under v, then the values of π' are no greater than v -/
theorem pv_worse {σ : MS} {π' : Nat → Nat} {v v' : Nat → Int} {b b' : Int} (h : mOK σ) (hr : rdy σ) (hπ : ∀ s, s < mN σ → π' s < mC σ s) (hp : PV σ π' v' b') (hg : ∀ s, s < mN σ → gnum σ (4 * s + π' s) v b ≤ v s * gsc σ (4 * s + π' s)) : ∀ s, s < mN σ → v' s * b ≤ v s * b' := by
  have hz := pm_z h hr hπ
  have hb' := hp.1
  have key : ∀ i, i < mN σ → sI (fun j => pm σ π' i j * (b' * v j + (-b) * v' j)) (mN σ) = b' * (v i * gsc σ (4 * i + π' i) - gnum σ (4 * i + π' i) v b) := fun i hi => by
    have e1 := pv_row (π := π') (v := v') hi b'
    have e2 := pv_row (π := π') (v := v) hi b
    rw [(hp.2.2 i hi).1] at e1
    have e3 := sI_lin (fun j => pm σ π' i j * v j) (fun j => pm σ π' i j * v' j) b' (-b) (mN σ)
    rw [sI_congr (g := fun j => pm σ π' i j * (b' * v j + (-b) * v' j)) (fun j _ => by rw [Int.mul_add, Int.mul_left_comm b', Int.mul_left_comm (-b)])] at e3
    rw [e3, e2, e1]
    generalize gnum σ (4 * i + π' i) v b = g1
    generalize gnum σ (4 * i + π' i) v' b' = g2
    generalize gc0 σ (4 * i + π' i) = g3
    generalize v i * gsc σ (4 * i + π' i) = g4
    grind
  have hnn : ∀ i, i < mN σ → 0 ≤ sI (fun j => pm σ π' i j * (b' * v j + (-b) * v' j)) (mN σ) := fun i hi => by
    rw [key i hi]
    exact Int.mul_nonneg (by omega) (by have := hg i hi; omega)
  obtain ⟨k, hk⟩ : ∃ k, mN σ = k + 1 := ⟨mN σ - 1, by have := hr.1; omega⟩
  obtain ⟨a, a1, a2⟩ := least_at (fun j => b' * v j + (-b) * v' j) k
  have hmin := row_min (a := pm σ π' a) (y := fun j => b' * v j + (-b) * v' j) (i := a) (k := mN σ) (hz a (by omega)).1 (fun j hj => a2 j (by omega))
  have ha0 := hnn a (by omega)
  have hsa := (hz a (by omega)).2
  have hya : 0 ≤ b' * v a + (-b) * v' a := by
    rcases Int.lt_or_le (b' * v a + (-b) * v' a) 0 with hh | hh
    · have h1 := Int.mul_neg_of_neg_of_pos hh hsa
      have h2 : (fun j => b' * v j + (-b) * v' j) a * sI (pm σ π' a) (mN σ) < 0 := h1
      omega
    · exact hh
  intro s hs
  have h5 : 0 ≤ b' * v s + (-b) * v' s := Int.le_trans hya (a2 s (by omega))
  rw [Int.neg_mul] at h5
  rw [Int.mul_comm (v' s), Int.mul_comm (v s)]
  omega
theorem sB_mono (f : Nat → Nat) : ∀ {a b : Nat}, a ≤ b → sB f a ≤ sB f b := by
  intro a b hab
  obtain ⟨d, rfl⟩ : ∃ d, b = a + d := ⟨b - a, by omega⟩
  induction d with
  | zero => exact Nat.le_refl _
  | succ d ih =>
    refine Nat.le_trans (ih (by omega)) ?_
    show sB f (a + d) ≤ sB f (a + d) + f (a + d)
    omega
theorem sB_T (σ : MS) (i : Nat) {n : Nat} (hn : n ≤ 6) : sB (mW σ i) n ≤ mT σ i := by
  refine Nat.le_trans (sB_mono (mW σ i) hn) ?_
  show 0 + mW σ i 0 + mW σ i 1 + mW σ i 2 + mW σ i 3 + mW σ i 4 + mW σ i 5 ≤ mT σ i
  unfold mT
  omega
theorem gs_con {σ : MS} {i : Nat} {v v' : Nat → Int} {b b' q x : Int} : ∀ k, (∀ t, t < k → -x ≤ (v t * b' - v' t * b) * q ∧ (v t * b' - v' t * b) * q ≤ x) → -((sB (mW σ i) k : Int) * ((mD σ i : Int) * (mA σ : Int) * x)) ≤ (gsum σ i v k * b' - gsum σ i v' k * b) * q ∧ (gsum σ i v k * b' - gsum σ i v' k * b) * q ≤ (sB (mW σ i) k : Int) * ((mD σ i : Int) * (mA σ : Int) * x)
  | 0, _ => by
    have e : (gsum σ i v 0 * b' - gsum σ i v' 0 * b) * q = 0 := by
      show (0 * b' - 0 * b) * q = 0
      rw [Int.zero_mul, Int.zero_mul, Int.sub_self, Int.zero_mul]
    have e2 : ((sB (mW σ i) 0 : Nat) : Int) * ((mD σ i : Int) * (mA σ : Int) * x) = 0 := by
      show ((0 : Nat) : Int) * _ = 0
      rw [Int.natCast_zero, Int.zero_mul]
    rw [e, e2]
    omega
  | k + 1, h => by
    obtain ⟨i1, i2⟩ := gs_con (σ := σ) (i := i) (v := v) (v' := v') (b := b) (b' := b') (q := q) (x := x) k (fun t ht => h t (by omega))
    obtain ⟨x1, x2⟩ := h k (by omega)
    have e : (gsum σ i v (k + 1) * b' - gsum σ i v' (k + 1) * b) * q = (gsum σ i v k * b' - gsum σ i v' k * b) * q + (v k * b' - v' k * b) * q * gct σ i k := by
      show ((gsum σ i v k + v k * gct σ i k) * b' - (gsum σ i v' k + v' k * gct σ i k) * b) * q = _
      generalize gsum σ i v k = s1
      generalize gsum σ i v' k = s2
      generalize gct σ i k = g1
      generalize v k = y1
      generalize v' k = y2
      grind
    have hg0 : 0 ≤ gct σ i k := Int.mul_nonneg (Int.mul_nonneg (by omega) (by omega)) (by omega)
    have g1 := Int.mul_le_mul_of_nonneg_right x1 hg0
    have g2 := Int.mul_le_mul_of_nonneg_right x2 hg0
    have e2 : ((sB (mW σ i) (k + 1) : Nat) : Int) * ((mD σ i : Int) * (mA σ : Int) * x) = ((sB (mW σ i) k : Nat) : Int) * ((mD σ i : Int) * (mA σ : Int) * x) + x * gct σ i k := by
      have e3 : ((sB (mW σ i) (k + 1) : Nat) : Int) = ((sB (mW σ i) k : Nat) : Int) + (mW σ i k : Int) := by
        show ((sB (mW σ i) k + mW σ i k : Nat) : Int) = _
        omega
      rw [e3]
      unfold gct
      generalize ((sB (mW σ i) k : Nat) : Int) = s1
      generalize (mW σ i k : Int) = s2
      generalize (mD σ i : Int) = s3
      generalize (mA σ : Int) = s4
      grind
    rw [e, e2]
    rw [Int.neg_mul] at g1
    omega
theorem gn_con {σ : MS} (hok : mOK σ) {i : Nat} {v v' : Nat → Int} {b b' q x : Int} (hx : 0 ≤ x) (h : ∀ t, t < mN σ → -x ≤ (v t * b' - v' t * b) * q ∧ (v t * b' - v' t * b) * q ≤ x) : -((mT σ i : Int) * ((mD σ i : Int) * (mA σ : Int) * x)) ≤ (gnum σ i v b * b' - gnum σ i v' b' * b) * q ∧ (gnum σ i v b * b' - gnum σ i v' b' * b) * q ≤ (mT σ i : Int) * ((mD σ i : Int) * (mA σ : Int) * x) := by
  obtain ⟨h1, h2⟩ := gs_con (σ := σ) (i := i) (mN σ) h
  have e : gnum σ i v b * b' - gnum σ i v' b' * b = gsum σ i v (mN σ) * b' - gsum σ i v' (mN σ) * b := by
    unfold gnum
    generalize gsum σ i v (mN σ) = s1
    generalize gsum σ i v' (mN σ) = s2
    generalize gc0 σ i = s3
    grind
  rw [e]
  have h3 := sB_T σ i hok.1
  have hp : 0 ≤ (mD σ i : Int) * (mA σ : Int) * x := Int.mul_nonneg (Int.mul_nonneg (by omega) (by omega)) hx
  have h4 : ((sB (mW σ i) (mN σ) : Nat) : Int) * ((mD σ i : Int) * (mA σ : Int) * x) ≤ (mT σ i : Int) * ((mD σ i : Int) * (mA σ : Int) * x) := Int.mul_le_mul_of_nonneg_right (by omega) hp
  omega
theorem low_con {bs B' V' bd Bn gp Gp Hp A Bq q z D T : Int} (hBn : 0 < Bn) (hD : 0 < D) (hT : 0 < T) (hB' : 0 < B') (hg : gp = D * Bq * T) (hV : V' * (Bn * gp) = Hp * B') (hG : Gp ≤ bs * gp) (hq : 0 ≤ q) (hK : -(T * (D * A * (z * Bn))) ≤ (Gp * Bn - Hp * bd) * q) : -(z * A * B') ≤ (bs * B' - V' * bd) * (q * Bq) := by
  have hP : 0 < Bn * (D * T) := Int.mul_pos hBn (Int.mul_pos hD hT)
  refine Int.le_of_mul_le_mul_right ?_ hP
  have e1 : (bs * B' - V' * bd) * (q * Bq) * (Bn * (D * T)) = (bs * gp * Bn * B' - V' * (Bn * gp) * bd) * q := by rw [hg]; grind
  rw [e1, hV]
  have e2 : (bs * gp * Bn * B' - Hp * B' * bd) * q = B' * ((bs * gp * Bn - Hp * bd) * q) := by grind
  rw [e2]
  have h1 : Gp * Bn ≤ bs * gp * Bn := Int.mul_le_mul_of_nonneg_right hG (Int.le_of_lt hBn)
  have h2 : (Gp * Bn - Hp * bd) * q ≤ (bs * gp * Bn - Hp * bd) * q := Int.mul_le_mul_of_nonneg_right (Int.sub_le_sub_right h1 _) hq
  have h3 := Int.mul_le_mul_of_nonneg_left (Int.le_trans hK h2) (Int.le_of_lt hB')
  have e3 : -(z * A * B') * (Bn * (D * T)) = B' * -(T * (D * A * (z * Bn))) := by grind
  rw [e3]
  exact h3
theorem up_con {bs B' V' bd Bn g gp G Hx Hp A Bq q z D T : Int} (hBn : 0 < Bn) (hbd : 0 < bd) (hD : 0 < D) (hT : 0 < T) (hgp : 0 < gp) (hB' : 0 < B') (hg : g = D * Bq * T) (hV : V' * (Bn * gp) = Hp * B') (hG : bs * g = G) (hH : Hx * gp ≤ Hp * g) (hq : 0 ≤ q) (hK : (G * Bn - Hx * bd) * q ≤ T * (D * A * (z * Bn))) : (bs * B' - V' * bd) * (q * Bq) ≤ z * A * B' := by
  have hP : 0 < Bn * (D * T) * gp := Int.mul_pos (Int.mul_pos hBn (Int.mul_pos hD hT)) hgp
  refine Int.le_of_mul_le_mul_right ?_ hP
  have e1 : (bs * B' - V' * bd) * (q * Bq) * (Bn * (D * T) * gp) = (bs * g * Bn * gp * B' - V' * (Bn * gp) * g * bd) * q := by rw [hg]; grind
  rw [e1, hV, hG]
  have e2 : (G * Bn * gp * B' - Hp * B' * g * bd) * q = B' * ((G * Bn * gp - Hp * g * bd) * q) := by grind
  rw [e2]
  have h1 : Hx * gp * bd ≤ Hp * g * bd := Int.mul_le_mul_of_nonneg_right hH (Int.le_of_lt hbd)
  have h2 : (G * Bn * gp - Hp * g * bd) * q ≤ (G * Bn * gp - Hx * gp * bd) * q := Int.mul_le_mul_of_nonneg_right (Int.sub_le_sub_left h1 _) hq
  have e3 : (G * Bn * gp - Hx * gp * bd) * q = gp * ((G * Bn - Hx * bd) * q) := by grind
  rw [e3] at h2
  have h3 := Int.mul_le_mul_of_nonneg_left (Int.le_trans h2 (Int.mul_le_mul_of_nonneg_left hK (Int.le_of_lt hgp))) (Int.le_of_lt hB')
  have e4 : z * A * B' * (Bn * (D * T) * gp) = B' * (gp * (T * (D * A * (z * Bn)))) := by grind
  rw [e4]
  exact h3
/-- each step comes nearer by the discount -/
theorem kb_con {σ : MS} (hok : mOK σ) (hr : rdy σ) {π : Nat → Nat} {bv : Nat → Int} {bd : Int} (hπ : ∀ s, s < mN σ → π s < mC σ s) (hPV : PV σ π bv bd) (hmax : ∀ s, s < mN σ → ∀ j, j < mC σ s → gnum σ (4 * s + j) bv bd ≤ bv s * gsc σ (4 * s + j)) {kn : Nat} {V : Nat → Nat → Int} {B : Nat → Int} {pk : Nat → Nat → Int} (hlv : LV σ kn V B pk) {z : Int} (hz : 0 ≤ z) (hE : ∀ s, s < mN σ → -z ≤ bv s ∧ bv s ≤ z) : ∀ n, n < kn → ∀ s, s < mN σ → -(z * ((mA σ ^ n : Nat) : Int) * B n) ≤ (bv s * B n - V n s * bd) * ((mB σ ^ n : Nat) : Int) ∧ (bv s * B n - V n s * bd) * ((mB σ ^ n : Nat) : Int) ≤ z * ((mA σ ^ n : Nat) : Int) * B n
  | 0, h0, s, hs => by
    obtain ⟨cm, c1, c2, c3, c4⟩ := hlv.2 (by omega)
    have hb0 : 0 < B 0 := by rw [c3]; have := c1.1; omega
    have hN := hok.1
    rw [c2 s (by omega), Nat.pow_zero, Nat.pow_zero]
    have e1 : (bv s * B 0 - 0 * bd) * ((1 : Nat) : Int) = bv s * B 0 := by rw [Int.zero_mul, Int.sub_zero]; exact Int.mul_one _
    have e2 : z * ((1 : Nat) : Int) * B 0 = z * B 0 := by rw [show ((1 : Nat) : Int) = 1 from rfl, Int.mul_one]
    rw [e1, e2]
    have g1 := Int.mul_le_mul_of_nonneg_right (hE s hs).1 (Int.le_of_lt hb0)
    have g2 := Int.mul_le_mul_of_nonneg_right (hE s hs).2 (Int.le_of_lt hb0)
    rw [Int.neg_mul] at g1
    exact ⟨g1, g2⟩
  | n + 1, h1, s, hs => by
    have ih := kb_con hok hr hπ hPV hmax hlv hz hE n (by omega)
    obtain ⟨cm, c1, c2, c3, c4⟩ := hlv.2 (by omega)
    obtain ⟨hbn, _, _, _⟩ := LV.b hok.1 c1 c2 c3 c4 n (by omega)
    obtain ⟨hb', _, _, hst⟩ := c4 n h1
    obtain ⟨_, _, hV⟩ := hst s hs
    have hsp := spk_lt (v := V n) (b := B n) hr hs
    have hN := hok.1
    have hC := hok.2.1 s (by omega)
    have hps := hπ s hs
    have hD1 := (hok.2.2.1 (4 * s + spk σ (V n) (B n) s) (by omega)).2.2.1
    have hD2 := (hok.2.2.1 (4 * s + π s) (by omega)).2.2.1
    have hT1 := (hr.2 s hs).2 _ hsp
    have hT2 := (hr.2 s hs).2 _ hps
    have hx : 0 ≤ z * ((mA σ ^ n : Nat) : Int) * B n := Int.mul_nonneg (Int.mul_nonneg hz (by omega)) (Int.le_of_lt hbn)
    have hq : 0 ≤ ((mB σ ^ n : Nat) : Int) := by omega
    have k1 := (gn_con hok (i := 4 * s + spk σ (V n) (B n) s) (v := bv) (v' := V n) (b := bd) (b' := B n) hx ih).1
    have k2 := (gn_con hok (i := 4 * s + π s) (v := bv) (v' := V n) (b := bd) (b' := B n) hx ih).2
    have hge := (gpick_ge (v := V n) (b := B n) (hr.2 s hs).1 (fun k hk => gsc_pos hok hr hs hk) _ (Nat.le_refl _)).2.1 (π s) hps
    have hH : gnum σ (4 * s + π s) (V n) (B n) * gsc σ (4 * s + spk σ (V n) (B n) s) ≤ gnum σ (4 * s + spk σ (V n) (B n) s) (V n) (B n) * gsc σ (4 * s + π s) := hge
    have eA : z * ((mA σ ^ (n + 1) : Nat) : Int) * B (n + 1) = z * ((mA σ ^ n : Nat) : Int) * (mA σ : Int) * B (n + 1) := by rw [Nat.pow_succ, Int.natCast_mul, ← Int.mul_assoc z]
    have eB : ((mB σ ^ (n + 1) : Nat) : Int) = ((mB σ ^ n : Nat) : Int) * (mB σ : Int) := by rw [Nat.pow_succ, Int.natCast_mul]
    rw [eA, eB]
    exact ⟨low_con hbn (by omega) (by omega) hb' rfl hV (hmax s hs _ hsp) hq k1, up_con hbn hPV.1 (by omega) (by omega) (gsc_pos hok hr hs hsp) hb' rfl hV (hPV.2.2 s hs).1 hH hq k2⟩
/-- how far the steps are: no farther than told -/
theorem kb_far {σ : MS} (hok : mOK σ) (hr : rdy σ) {π : Nat → Nat} {bv : Nat → Int} {bd : Int} (hπ : ∀ s, s < mN σ → π s < mC σ s) (hPV : PV σ π bv bd) (hmax : ∀ s, s < mN σ → ∀ j, j < mC σ s → gnum σ (4 * s + j) bv bd ≤ bv s * gsc σ (4 * s + j)) {kn : Nat} {V : Nat → Nat → Int} {B : Nat → Int} {pk : Nat → Nat → Int} (hlv : LV σ kn V B pk) (h1 : 1 < kn) {mx : Int} (hmx : ∀ s, s < mN σ → ((V 1 s).natAbs : Int) ≤ mx) {n : Nat} (hn : n < kn) {s : Nat} (hs : s < mN σ) : ((bv s * B n - V n s * bd).natAbs : Int) * (B 1 * ((mB σ : Int) - (mA σ : Int)) * ((mB σ ^ n : Nat) : Int)) ≤ bd * B n * (mx * (mB σ : Int) * ((mA σ ^ n : Nat) : Int)) := by
  obtain ⟨cm, c1, c2, c3, c4⟩ := hlv.2 (by omega)
  obtain ⟨hbn, _, _, _⟩ := LV.b hok.1 c1 c2 c3 c4 n (by omega)
  obtain ⟨hb1, _, _, _⟩ := LV.b hok.1 c1 c2 c3 c4 1 (by omega)
  have hbd := hPV.1
  have hAB := hok.2.2.2.1
  have hB0 : 0 < (mB σ : Int) := by omega
  have hBA : 0 < (mB σ : Int) - (mA σ : Int) := by omega
  obtain ⟨k, hk⟩ : ∃ k, mN σ = k + 1 := ⟨mN σ - 1, by have := hr.1; omega⟩
  obtain ⟨a, a1, a2⟩ := least_at (fun j => -((bv j).natAbs : Int)) k
  have hE : ∀ s, s < mN σ → -((bv a).natAbs : Int) ≤ bv s ∧ bv s ≤ ((bv a).natAbs : Int) := fun s hs => by
    have h := a2 s (by omega)
    have h' : -((bv a).natAbs : Int) ≤ -((bv s).natAbs : Int) := h
    omega
  have hz : 0 ≤ ((bv a).natAbs : Int) := by omega
  have con := kb_con hok hr hπ hPV hmax hlv hz hE
  -- the greatest value is bounded by the first step
  have hz1 : ((bv a).natAbs : Int) * (B 1 * ((mB σ : Int) - (mA σ : Int))) ≤ mx * bd * (mB σ : Int) := by
    obtain ⟨g1, g2⟩ := con 1 h1 a (by omega)
    rw [Nat.pow_one, Nat.pow_one] at g1 g2
    have hv := hmx a (by omega)
    have hvb : ((V 1 a).natAbs : Int) * bd ≤ mx * bd := Int.mul_le_mul_of_nonneg_right hv (Int.le_of_lt hbd)
    have v1 : V 1 a * bd ≤ ((V 1 a).natAbs : Int) * bd := Int.mul_le_mul_of_nonneg_right (by omega) (Int.le_of_lt hbd)
    have v2 : -((V 1 a).natAbs : Int) * bd ≤ V 1 a * bd := Int.mul_le_mul_of_nonneg_right (by omega) (Int.le_of_lt hbd)
    rw [Int.neg_mul] at v2
    have w1 : V 1 a * bd * (mB σ : Int) ≤ mx * bd * (mB σ : Int) := Int.mul_le_mul_of_nonneg_right (by omega) (Int.le_of_lt hB0)
    have w2 : -(mx * bd) * (mB σ : Int) ≤ V 1 a * bd * (mB σ : Int) := Int.mul_le_mul_of_nonneg_right (by omega) (Int.le_of_lt hB0)
    rw [Int.neg_mul] at w2
    have e1 : (bv a * B 1 - V 1 a * bd) * (mB σ : Int) = bv a * B 1 * (mB σ : Int) - V 1 a * bd * (mB σ : Int) := Int.sub_mul _ _ _
    rw [e1] at g1 g2
    have e2 : ((bv a).natAbs : Int) * (B 1 * ((mB σ : Int) - (mA σ : Int))) = ((bv a).natAbs : Int) * B 1 * (mB σ : Int) - ((bv a).natAbs : Int) * (mA σ : Int) * B 1 := by
      generalize ((bv a).natAbs : Int) = y1
      generalize (mB σ : Int) = y2
      generalize (mA σ : Int) = y3
      generalize B 1 = y4
      grind
    rw [e2]
    rcases Int.le_total 0 (bv a) with hh | hh
    · have e3 : ((bv a).natAbs : Int) = bv a := by omega
      rw [e3] at g2 ⊢
      omega
    · have e3 : ((bv a).natAbs : Int) = -(bv a) := by omega
      rw [e3] at g1 ⊢
      rw [Int.neg_mul, Int.neg_mul] at g1
      rw [Int.neg_mul, Int.neg_mul, Int.neg_mul, Int.neg_mul]
      omega
  obtain ⟨g1, g2⟩ := con n hn s hs
  have hA0 : 0 ≤ ((mA σ ^ n : Nat) : Int) := by omega
  have hB0n : 0 ≤ ((mB σ ^ n : Nat) : Int) := by omega
  have hP : 0 ≤ B 1 * ((mB σ : Int) - (mA σ : Int)) := Int.mul_nonneg (Int.le_of_lt hb1) (Int.le_of_lt hBA)
  have hQ : 0 ≤ ((mA σ ^ n : Nat) : Int) * B n := Int.mul_nonneg hA0 (Int.le_of_lt hbn)
  have k1 := Int.mul_le_mul_of_nonneg_right hz1 hQ
  have hX : ((bv s * B n - V n s * bd).natAbs : Int) * ((mB σ ^ n : Nat) : Int) ≤ ((bv a).natAbs : Int) * ((mA σ ^ n : Nat) : Int) * B n := by
    rcases Int.le_total 0 (bv s * B n - V n s * bd) with hh | hh
    · have e3 : ((bv s * B n - V n s * bd).natAbs : Int) = bv s * B n - V n s * bd := Int.natAbs_of_nonneg hh
      rw [e3]
      exact g2
    · have e3 : ((bv s * B n - V n s * bd).natAbs : Int) = -(bv s * B n - V n s * bd) := Int.ofNat_natAbs_of_nonpos hh
      rw [e3, Int.neg_mul]
      omega
  have k2 := Int.mul_le_mul_of_nonneg_right hX hP
  generalize ((bv s * B n - V n s * bd).natAbs : Int) = x at *
  generalize ((bv a).natAbs : Int) = y at *
  generalize ((mA σ ^ n : Nat) : Int) = an at *
  generalize ((mB σ ^ n : Nat) : Int) = bn at *
  generalize ((mB σ : Int) - (mA σ : Int)) = ba at *
  have e1 : x * (B 1 * ba * bn) = x * bn * (B 1 * ba) := by grind
  have e2 : bd * B n * (mx * (mB σ : Int) * an) = mx * bd * (mB σ : Int) * (an * B n) := by grind
  have e3 : y * an * B n * (B 1 * ba) = y * (B 1 * ba) * (an * B n) := by grind
  rw [e1, e2]
  rw [e3] at k2
  exact Int.le_trans k2 k1
