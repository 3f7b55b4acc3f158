/-! elimination without fractions: its entries are minors -/
def eP (R : Nat → Nat → Int) (k : Nat) : Int := dl R k (ds k)
def eY (R : Nat → Nat → Int) (k j q : Nat) : Int := cf (fun M => dl R k (j :: M)) k q
def eE (R : Nat → Nat → Int) (k i j : Nat) : Int := R i j * eP R k - sI (fun q => R i q * eY R k j q) k
theorem eE_alt (R : Nat → Nat → Int) (k i j : Nat) : eE R k i j = alt (R i) (j :: ds k) (dl R k) := by
  show _ = R i j * dl R k (ds k) - alt (R i) (ds k) (fun M => dl R k (j :: M))
  rw [alt_cf]
  rfl
theorem eE_kill (R : Nat → Nat → Int) {k i : Nat} (j : Nat) (h : i < k) : eE R k i j = 0 := by rw [eE_alt]; exact dl_kill R k i h _
theorem eP_s (R : Nat → Nat → Int) (k : Nat) : eP R (k + 1) = eE R k k k := by rw [eE_alt]; rfl
theorem eY_eq (R : Nat → Nat → Int) {k p : Nat} (j : Nat) (h : p < k) : sI (fun q => R p q * eY R k j q) k = R p j * eP R k := by
  have := eE_kill R j h
  unfold eE at this
  omega
theorem eE_0 (R : Nat → Nat → Int) (i j : Nat) : eE R 0 i j = R i j := by
  show R i j * 1 - 0 = R i j
  omega
theorem zrow_sub {R : Nat → Nat → Int} {n k : Nat} (h : zrow R n) (hk : k ≤ n) : zrow R k := fun i hi => ⟨fun j hj hne => (h i (by omega)).1 j (by omega) hne, zrow_pre h hi hk⟩
theorem zrow_eq {R : Nat → Nat → Int} {n : Nat} (h : zrow R n) {y z : Nat → Int} (he : ∀ i, i < n → sI (fun j => R i j * y j) n = sI (fun j => R i j * z j) n) : ∀ i, i < n → y i = z i := by
  intro i hi
  have h0 := zrow_inj h (y := fun j => 1 * y j + (-1) * z j) (fun i hi => by
    have e2 : sI (fun j => R i j * (1 * y j + (-1) * z j)) n = sI (fun j => 1 * (R i j * y j) + (-1) * (R i j * z j)) n := sI_congr (fun j _ => by rw [Int.mul_add, Int.mul_left_comm (R i j) 1, Int.mul_left_comm (R i j) (-1)])
    rw [e2, sI_lin, he i hi]
    omega)
  have h1 : 1 * y i + (-1) * z i = 0 := h0 i hi
  omega
theorem sI_mul (f : Nat → Int) (a : Int) (k : Nat) : sI (fun j => a * f j) k = a * sI f k := by
  have h := sI_lin f (fun _ => 0) a 0 k
  rw [sI_congr (g := fun j => a * f j) (fun j _ => by omega)] at h
  omega
theorem sI_z (w a b : Nat → Int) (x y z : Int) (k : Nat) : sI (fun q => w q * (if q = k then z else x * a q - y * b q)) (k + 1) = x * sI (fun q => w q * a q) k - y * sI (fun q => w q * b q) k + w k * z := by
  show sI (fun q => w q * (if q = k then z else x * a q - y * b q)) k + w k * (if k = k then z else _) = _
  rw [if_pos rfl]
  have e : sI (fun q => w q * (if q = k then z else x * a q - y * b q)) k = sI (fun q => x * (w q * a q) + (-y) * (w q * b q)) k := sI_congr (fun q hq => by
    rw [if_neg (by omega), Int.mul_sub, Int.mul_left_comm (w q) x, Int.mul_left_comm (w q) y, Int.neg_mul]
    omega)
  rw [e, sI_lin, Int.neg_mul]
  omega
theorem eE_next {R : Nat → Nat → Int} {n : Nat} (h : zrow R n) {k : Nat} (hk : k + 1 ≤ n) (i j : Nat) : eP R k * eE R (k + 1) i j = eP R (k + 1) * eE R k i j - eE R k i k * eE R k k j := by
  have hz := zrow_sub h hk
  have hP := eP_s R k
  have key : ∀ q, q < k + 1 → eP R k * eY R (k + 1) j q = (if q = k then eP R k * eE R k k j else eP R (k + 1) * eY R k j q - eE R k k j * eY R k k q) := by
    refine zrow_eq hz (y := fun q => eP R k * eY R (k + 1) j q) (z := fun q => if q = k then eP R k * eE R k k j else eP R (k + 1) * eY R k j q - eE R k k j * eY R k k q) (fun p hp => ?_)
    have e1 : sI (fun q => R p q * (eP R k * eY R (k + 1) j q)) (k + 1) = eP R k * sI (fun q => R p q * eY R (k + 1) j q) (k + 1) := by
      rw [← sI_mul]
      exact sI_congr (fun q _ => Int.mul_left_comm _ _ _)
    rw [e1, sI_z, eY_eq R j hp]
    by_cases hpk : p < k
    · rw [eY_eq R j hpk, eY_eq R k hpk]
      grind
    · have ep : p = k := by omega
      subst ep
      have a1 : sI (fun q => R p q * eY R p j q) p = R p j * eP R p - eE R p p j := by unfold eE; omega
      have a2 : sI (fun q => R p q * eY R p p q) p = R p p * eP R p - eE R p p p := by unfold eE; omega
      rw [a1, a2, hP]
      grind
  have e1 : eP R k * sI (fun q => R i q * eY R (k + 1) j q) (k + 1) = sI (fun q => R i q * (if q = k then eP R k * eE R k k j else eP R (k + 1) * eY R k j q - eE R k k j * eY R k k q)) (k + 1) := by
    rw [← sI_mul]
    refine sI_congr (fun q hq => ?_)
    rw [← key q hq, Int.mul_left_comm]
  rw [sI_z] at e1
  have a1 : sI (fun q => R i q * eY R k j q) k = R i j * eP R k - eE R k i j := by unfold eE; omega
  have a2 : sI (fun q => R i q * eY R k k q) k = R i k * eP R k - eE R k i k := by unfold eE; omega
  rw [a1, a2] at e1
  have e3 : eE R (k + 1) i j = R i j * eP R (k + 1) - sI (fun q => R i q * eY R (k + 1) j q) (k + 1) := rfl
  rw [e3, Int.mul_sub, e1]
  grind
theorem sI_one {f : Nat → Int} {x : Int} {j : Nat} : ∀ {k : Nat}, j < k → sI (fun q => f q * (if q = j then x else 0)) k = f j * x
  | 0, h => absurd h (Nat.not_lt_zero j)
  | k + 1, h => by
    show sI (fun q => f q * (if q = j then x else 0)) k + f k * (if k = j then x else 0) = f j * x
    by_cases e : k = j
    · subst e
      rw [if_pos rfl, sI_congr (g := fun _ => 0) (fun q hq => by rw [if_neg (by omega), Int.mul_zero]), sI_zero]
      omega
    · rw [if_neg e, Int.mul_zero, sI_one (show j < k by omega)]
      omega
theorem eE_col {R : Nat → Nat → Int} {n k : Nat} (h : zrow R n) (hk : k ≤ n) (i : Nat) {j : Nat} (hj : j < k) : eE R k i j = 0 := by
  have key := zrow_eq (zrow_sub h hk) (y := eY R k j) (z := fun q => if q = j then eP R k else 0) (fun p hp => by rw [eY_eq R j hp, sI_one hj])
  unfold eE
  rw [sI_congr (g := fun q => R i q * (if q = j then eP R k else 0)) (fun q hq => by rw [key q hq]), sI_one hj]
  omega
theorem sI_comm (f : Nat → Nat → Int) (m : Nat) : ∀ n : Nat, sI (fun j => sI (fun q => f j q) m) n = sI (fun q => sI (fun j => f j q) n) m
  | 0 => by
    show 0 = sI (fun q => 0) m
    rw [sI_zero]
  | n + 1 => by
    show sI (fun j => sI (fun q => f j q) m) n + sI (fun q => f n q) m = sI (fun q => sI (fun j => f j q) n + f n q) m
    rw [sI_comm f m n]
    have e := sI_lin (fun q => sI (fun j => f j q) n) (fun q => f n q) 1 1 m
    rw [sI_congr (g := fun q => sI (fun j => f j q) n + f n q) (fun q _ => by omega)] at e
    omega
/-- what is solved from below: Cramer's numbers fit the rows that elimination leaves -/
theorem eE_sol {R : Nat → Nat → Int} {n k i : Nat} (h : zrow R n) (hk : k ≤ n) (hi : i < n) : sI (fun j => eE R k i j * eY R n n j) n = eP R n * eE R k i n := by
  have hrow : ∀ p, p < n → sI (fun j => R p j * eY R n n j) n = R p n * eP R n := fun p hp => eY_eq R n hp
  have ex : ∀ p, sI (fun q => R p q * sI (fun j => eY R k j q * eY R n n j) n) k = sI (fun j => sI (fun q => R p q * eY R k j q) k * eY R n n j) n := fun p => by
    have e1 : sI (fun q => R p q * sI (fun j => eY R k j q * eY R n n j) n) k = sI (fun q => sI (fun j => R p q * eY R k j q * eY R n n j) n) k := sI_congr (fun q _ => by rw [← sI_mul]; exact sI_congr (fun j _ => by rw [Int.mul_assoc]))
    rw [e1, ← sI_comm]
    refine sI_congr (fun j _ => ?_)
    rw [Int.mul_comm, ← sI_mul]
    exact sI_congr (fun q _ => by rw [Int.mul_comm])
  have key := zrow_eq (zrow_sub h hk) (y := fun q => sI (fun j => eY R k j q * eY R n n j) n) (z := fun q => eP R n * eY R k n q) (fun p hp => by
    rw [ex p]
    have e1 : sI (fun j => sI (fun q => R p q * eY R k j q) k * eY R n n j) n = sI (fun j => eP R k * (R p j * eY R n n j)) n := sI_congr (fun j _ => by rw [eY_eq R j hp, Int.mul_comm (R p j), Int.mul_assoc])
    have e2 : sI (fun q => R p q * (eP R n * eY R k n q)) k = sI (fun q => eP R n * (R p q * eY R k n q)) k := sI_congr (fun q _ => Int.mul_left_comm _ _ _)
    rw [e1, sI_mul, hrow p (by omega), e2, sI_mul, eY_eq R n hp]
    grind)
  have e1 : sI (fun j => eE R k i j * eY R n n j) n = sI (fun j => eP R k * (R i j * eY R n n j) + (-1) * (sI (fun q => R i q * eY R k j q) k * eY R n n j)) n := sI_congr (fun j _ => by
    unfold eE
    rw [Int.sub_mul, Int.mul_comm (R i j), Int.mul_assoc]
    omega)
  rw [e1, sI_lin, hrow i hi, ← ex i]
  have e2 : sI (fun q => R i q * sI (fun j => eY R k j q * eY R n n j) n) k = eP R n * sI (fun q => R i q * eY R k n q) k := by
    rw [← sI_mul]
    exact sI_congr (fun q hq => by rw [key q hq, Int.mul_left_comm])
  rw [e2]
  unfold eE
  grind
-- how great they get
theorem dl_bW {R : Nat → Nat → Int} {W : Nat} (hR : ∀ i c, (R i c).natAbs ≤ W) : ∀ (k : Nat) (L : List Nat), L.length ≤ 7 → (dl R k L).natAbs ≤ (7 * W) ^ k
  | 0, _, _ => by simp [dl]
  | k + 1, L, hL => by
    have h := alt_b (hR k) L (dl R k) 7 (fun M hM => dl_bW hR k M (by omega)) hL
    show (alt (R k) L (dl R k)).natAbs ≤ _
    rw [Nat.pow_succ, Nat.mul_comm ((7 * W) ^ k), Nat.mul_assoc]
    exact Nat.le_trans h (Nat.mul_le_mul_right _ hL)
theorem ds_len : ∀ k, (ds k).length = k
  | 0 => rfl
  | k + 1 => by show (ds k).length + 1 = k + 1; rw [ds_len k]
theorem cf_b {B : Nat} : ∀ {k : Nat} {F : List Nat → Int} (j : Nat), (∀ M, M.length ≤ k → (F M).natAbs ≤ B) → (cf F k j).natAbs ≤ B
  | 0, _, _, _ => Nat.zero_le _
  | k + 1, F, j, hF => by
    show (if j = k then F (ds k) else - cf (fun M => F (k :: M)) k j).natAbs ≤ B
    by_cases e : j = k
    · rw [if_pos e]; exact hF _ (by rw [ds_len]; omega)
    · rw [if_neg e, Int.natAbs_neg]
      exact cf_b j (fun M hM => hF _ (by rw [List.length_cons]; omega))
theorem pw_up {W a b : Nat} (hW : 0 < W) (h : a ≤ b) : W ^ a ≤ W ^ b := Nat.pow_le_pow_right hW h
theorem eE_b {R : Nat → Nat → Int} {W : Nat} (hW : 0 < W) (hR : ∀ i c, (R i c).natAbs ≤ W) {k : Nat} (hk : k ≤ 6) (i j : Nat) : (eE R k i j).natAbs ≤ (7 * W) ^ 7 := by
  rw [eE_alt]
  have h := alt_b (hR i) (j :: ds k) (dl R k) 7 (fun M hM => dl_bW hR k M (by omega)) (by rw [List.length_cons, ds_len]; omega)
  have h1 : (j :: ds k).length * (W * (7 * W) ^ k) ≤ 7 * (W * (7 * W) ^ k) := Nat.mul_le_mul_right _ (by rw [List.length_cons, ds_len]; omega)
  have h2 : 7 * (W * (7 * W) ^ k) = (7 * W) ^ (k + 1) := by rw [Nat.pow_succ, Nat.mul_comm ((7 * W) ^ k), Nat.mul_assoc]
  have h3 := pw_up (W := 7 * W) (by omega) (show k + 1 ≤ 7 by omega)
  omega
theorem eP_b {R : Nat → Nat → Int} {W : Nat} (hW : 0 < W) (hR : ∀ i c, (R i c).natAbs ≤ W) {k : Nat} (hk : k ≤ 6) : (eP R k).natAbs ≤ (7 * W) ^ 7 := by
  have h := dl_bW hR k (ds k) (by rw [ds_len]; omega)
  have h3 := pw_up (W := 7 * W) (by omega) (show k ≤ 7 by omega)
  unfold eP
  omega
theorem eY_b {R : Nat → Nat → Int} {W : Nat} (hW : 0 < W) (hR : ∀ i c, (R i c).natAbs ≤ W) {k : Nat} (hk : k ≤ 6) (j q : Nat) : (eY R k j q).natAbs ≤ (7 * W) ^ 7 := by
  have h := cf_b (B := (7 * W) ^ k) (F := fun M => dl R k (j :: M)) (k := k) q (fun M hM => dl_bW hR k _ (by rw [List.length_cons]; omega))
  have h3 := pw_up (W := 7 * W) (by omega) (show k ≤ 7 by omega)
  unfold eY
  omega
-- the reference's equations
def qm (σ : MS) (π : Nat → Nat) (cm : Nat) (i c : Nat) : Int := if i < mN σ ∧ c ≤ mN σ then (if c = mN σ then (mB σ : Int) * (mT σ (4 * i + π i) : Int) * mU σ (4 * i + π i) * ((cm / mD σ (4 * i + π i) : Nat) : Int) else (if i = c then (mB σ : Int) * (mT σ (4 * i + π i) : Int) else 0) - (mA σ : Int) * (mW σ (4 * i + π i) c : Int)) else 0
theorem qm_row {σ : MS} {π : Nat → Nat} {cm i : Nat} (hi : i < mN σ) (y : Nat → Int) : ∀ k, k ≤ mN σ → sI (fun j => qm σ π cm i j * y j) k = - ((mA σ : Int) * sI (fun t => (mW σ (4 * i + π i) t : Int) * y t) k) + (if i < k then (mB σ : Int) * (mT σ (4 * i + π i) : Int) * y i else 0)
  | 0, _ => by rw [if_neg (by omega)]; simp [sI]
  | k + 1, hk => by
    have ih := qm_row (σ := σ) (π := π) (cm := cm) hi y k (by omega)
    show sI (fun j => qm σ π cm i j * y j) k + qm σ π cm i k * y k = - ((mA σ : Int) * (sI (fun t => (mW σ (4 * i + π i) t : Int) * y t) k + (mW σ (4 * i + π i) k : Int) * y k)) + _
    have e : qm σ π cm i k = (if i = k then (mB σ : Int) * (mT σ (4 * i + π i) : Int) else 0) - (mA σ : Int) * (mW σ (4 * i + π i) k : Int) := by
      unfold qm
      rw [if_pos ⟨hi, by omega⟩, if_neg (by omega)]
    rw [ih, e, Int.mul_add, Int.sub_mul, ← Int.mul_assoc (mA σ : Int) (mW σ (4 * i + π i) k : Int)]
    by_cases h1 : i = k
    · rw [if_pos h1, if_neg (by omega), if_pos (by omega), h1]
      omega
    · rw [if_neg h1]
      by_cases h2 : i < k
      · rw [if_pos h2, if_pos (by omega)]
        omega
      · rw [if_neg h2, if_neg (by omega)]
        omega
theorem qm_z {σ : MS} {π : Nat → Nat} {cm : Nat} (h : mOK σ) (hr : rdy σ) (hπ : ∀ s, s < mN σ → π s < mC σ s) : zrow (qm σ π cm) (mN σ) := fun i hi => by
  have hN := h.1
  have hC := h.2.1 i (by omega)
  have hp := hπ i hi
  constructor
  · intro j hj hne
    unfold qm
    rw [if_pos ⟨hi, by omega⟩, if_neg (by omega), if_neg (fun e => hne e.symm)]
    have := Int.mul_nonneg (show (0 : Int) ≤ (mA σ : Int) by omega) (show (0 : Int) ≤ (mW σ (4 * i + π i) j : Int) by omega)
    omega
  · have e := qm_row (σ := σ) (π := π) (cm := cm) hi (fun _ => 1) (mN σ) (Nat.le_refl _)
    rw [sI_congr (g := fun j => qm σ π cm i j) (fun j _ => by rw [Int.mul_one]), if_pos hi, sI_congr (f := fun t => (mW σ (4 * i + π i) t : Int) * 1) (g := fun t => (mW σ (4 * i + π i) t : Int)) (fun t _ => by rw [Int.mul_one]), sumW h (by omega), Int.mul_one] at e
    have ht := (hr.2 i hi).2 _ hp
    have hab := h.2.2.2.1
    have e2 : (mB σ : Int) * (mT σ (4 * i + π i) : Int) - (mA σ : Int) * (mT σ (4 * i + π i) : Int) = ((mB σ : Int) - (mA σ : Int)) * (mT σ (4 * i + π i) : Int) := (Int.sub_mul _ _ _).symm
    have e3 := Int.mul_pos (show (0 : Int) < (mB σ : Int) - (mA σ : Int) by omega) (show (0 : Int) < (mT σ (4 * i + π i) : Int) by omega)
    have e4 : sI (qm σ π cm i) (mN σ) = sI (fun j => qm σ π cm i j) (mN σ) := rfl
    omega
theorem qm_b {σ : MS} {π : Nat → Nat} {cm : Nat} (h : mOK σ) (hcm : cm ≤ 232792560) (hπ : ∀ s, s < mN σ → π s < mC σ s) (i c : Nat) : (qm σ π cm i c).natAbs ≤ 558702144000000 := by
  unfold qm
  by_cases h1 : i < mN σ ∧ c ≤ mN σ
  · rw [if_pos h1]
    have hN := h.1
    have hC := h.2.1 i (by omega)
    have hp := hπ i h1.1
    obtain ⟨u1, u2, d1, d2, w1⟩ := h.2.2.1 (4 * i + π i) (by omega)
    have hT := mT_b h (show 4 * i + π i < 24 by omega)
    have hB := h.2.2.2.2.1
    have hA := h.2.2.2.1
    have hbt : mB σ * mT σ (4 * i + π i) ≤ 20 * 120 := Nat.mul_le_mul hB hT
    by_cases h2 : c = mN σ
    · rw [if_pos h2, Int.natAbs_mul, Int.natAbs_mul]
      have e1 : ((mB σ : Int) * (mT σ (4 * i + π i) : Int)).natAbs ≤ 2400 := by rw [Int.natAbs_mul]; exact hbt
      have e2 : ((cm / mD σ (4 * i + π i) : Nat) : Int).natAbs ≤ 232792560 := Nat.le_trans (Nat.div_le_self _ _) hcm
      exact Nat.mul_le_mul (Nat.mul_le_mul e1 (show (mU σ (4 * i + π i)).natAbs ≤ 1000 by omega)) e2
    · rw [if_neg h2]
      have hw := w1 c (by omega)
      have haw : mA σ * mW σ (4 * i + π i) c ≤ 20 * 20 := Nat.mul_le_mul (by omega) hw
      have e1 : (mA σ : Int) * (mW σ (4 * i + π i) c : Int) = ((mA σ * mW σ (4 * i + π i) c : Nat) : Int) := (Int.natCast_mul _ _).symm
      have e2 : (mB σ : Int) * (mT σ (4 * i + π i) : Int) = ((mB σ * mT σ (4 * i + π i) : Nat) : Int) := (Int.natCast_mul _ _).symm
      rw [e1, e2]
      split <;> omega
  · rw [if_neg h1]
    simp
/-- what solves the reference's equations are the values, over P times the common lower part -/
theorem qm_sol {σ : MS} {π : Nat → Nat} {cm : Nat} (h : mOK σ) (hπ : ∀ s, s < mN σ → π s < mC σ s) (hd : ∀ s, s < mN σ → mD σ (4 * s + π s) ∣ cm) {X : Nat → Int} {P : Int} (hX : ∀ i, i < mN σ → sI (fun j => qm σ π cm i j * X j) (mN σ) = qm σ π cm i (mN σ) * P) : ∀ s, s < mN σ → X s * gsc σ (4 * s + π s) = gnum σ (4 * s + π s) X (P * (cm : Int)) := fun s hs => by
  have e := hX s hs
  rw [qm_row hs X _ (Nat.le_refl _), if_pos hs] at e
  have e1 : qm σ π cm s (mN σ) = (mB σ : Int) * (mT σ (4 * s + π s) : Int) * mU σ (4 * s + π s) * ((cm / mD σ (4 * s + π s) : Nat) : Int) := by
    unfold qm
    rw [if_pos ⟨hs, Nat.le_refl _⟩, if_pos rfl]
  rw [e1] at e
  have e2 : (cm : Int) = (mD σ (4 * s + π s) : Int) * ((cm / mD σ (4 * s + π s) : Nat) : Int) := by rw [← Int.natCast_mul, Nat.mul_div_cancel' (hd s hs)]
  unfold gnum gsc gc0
  rw [gsum_sI]
  have e3 : sI (fun t => gct σ (4 * s + π s) t * X t) (mN σ) = (mD σ (4 * s + π s) : Int) * (mA σ : Int) * sI (fun t => (mW σ (4 * s + π s) t : Int) * X t) (mN σ) := by
    rw [← sI_mul]
    exact sI_congr (fun t _ => by unfold gct; rw [Int.mul_assoc ((mD σ (4 * s + π s) : Int) * (mA σ : Int))])
  rw [e3, e2]
  generalize ((cm / mD σ (4 * s + π s) : Nat) : Int) = q at *
  generalize sI (fun t => (mW σ (4 * s + π s) t : Int) * X t) (mN σ) = S at *
  grind
/-- two ways of telling a policy's values are the same fractions -/
theorem pr_uniq {σ : MS} {π : Nat → Nat} {v v' : Nat → Int} {b b' : Int} (h : mOK σ) (hr : rdy σ) (hπ : ∀ s, s < mN σ → π s < mC σ s) (e : ∀ s, s < mN σ → v s * gsc σ (4 * s + π s) = gnum σ (4 * s + π s) v b) (e' : ∀ s, s < mN σ → v' s * gsc σ (4 * s + π s) = gnum σ (4 * s + π s) v' b') : ∀ s, s < mN σ → v s * b' = v' s * b := fun s hs => by
  have key := zrow_eq (pm_z h hr hπ) (y := fun j => b' * v j) (z := fun j => b * v' j) (fun i hi => by
    have a1 := pv_row (π := π) (v := v) hi b
    have a2 := pv_row (π := π) (v := v') hi b'
    rw [e i hi] at a1
    rw [e' i hi] at a2
    have b1 : sI (fun j => pm σ π i j * (b' * v j)) (mN σ) = b' * sI (fun j => pm σ π i j * v j) (mN σ) := by rw [← sI_mul]; exact sI_congr (fun j _ => Int.mul_left_comm _ _ _)
    have b2 : sI (fun j => pm σ π i j * (b * v' j)) (mN σ) = b * sI (fun j => pm σ π i j * v' j) (mN σ) := by rw [← sI_mul]; exact sI_congr (fun j _ => Int.mul_left_comm _ _ _)
    rw [b1, b2, a1, a2]
    grind)
  have := key s hs
  rw [Int.mul_comm (v s), Int.mul_comm (v' s)]
  exact this
