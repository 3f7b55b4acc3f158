/-! the values of a policy -/
/-- v over b are the values of the policy π -/
def PV (σ : MS) (π : Nat → Nat) (v : Nat → Int) (b : Int) : Prop := 0 < b ∧ b.natAbs ≤ 16800000 ^ 6 ∧ ∀ s, s < mN σ → v s * gsc σ (4 * s + π s) = gnum σ (4 * s + π s) v b ∧ (v s).natAbs ≤ 16800000 ^ 6
def pm (σ : MS) (π : Nat → Nat) (i c : Nat) : Int := if i < mN σ ∧ c ≤ mN σ then eqr σ (4 * i + π i) i c else 0
theorem sI_tail0 {f : Nat → Int} {k : Nat} : ∀ {n : Nat}, k ≤ n → (∀ j, k ≤ j → j < n → f j = 0) → sI f n = sI f k
  | 0, h, _ => by rw [show k = 0 by omega]
  | n + 1, h, hf => by
    by_cases e : k = n + 1
    · rw [e]
    · have h1 := sI_tail0 (f := f) (k := k) (n := n) (by omega) (fun j a b => hf j a (by omega))
      have h2 := hf n (by omega) (by omega)
      show sI f n + f n = _
      omega
theorem sumW {σ : MS} (h : mOK σ) {i : Nat} (hi : i < 24) : sI (fun t => (mW σ i t : Int)) (mN σ) = (mT σ i : Int) := by
  have h6 := sI_tail0 (f := fun t => (mW σ i t : Int)) (k := mN σ) (n := 6) h.1 (fun j a b => by have := h.2.2.2.2.2.2.2 i j hi a b; simp [this])
  rw [← h6]
  unfold mT
  simp [sI]
theorem gsum_sI (σ : MS) (i : Nat) (v : Nat → Int) : ∀ k, gsum σ i v k = sI (fun t => gct σ i t * v t) k
  | 0 => rfl
  | k + 1 => by
    show gsum σ i v k + v k * gct σ i k = sI _ k + gct σ i k * v k
    rw [gsum_sI σ i v k, Int.mul_comm]
theorem gct_nn (σ : MS) (i t : Nat) : 0 ≤ gct σ i t := Int.mul_nonneg (Int.mul_nonneg (by omega) (by omega)) (by omega)
theorem pm_row {σ : MS} {π : Nat → Nat} {i : Nat} (hi : i < mN σ) (y : Nat → Int) : ∀ k, k ≤ mN σ → sI (fun j => pm σ π i j * y j) k = - sI (fun t => gct σ (4 * i + π i) t * y t) k + (if i < k then gsc σ (4 * i + π i) * y i else 0)
  | 0, _ => by simp [sI]
  | k + 1, hk => by
    have ih := pm_row (π := π) hi y k (by omega)
    have e : pm σ π i k = - gct σ (4 * i + π i) k + (if k = i then gsc σ (4 * i + π i) else 0) := by
      unfold pm eqr
      rw [if_pos ⟨hi, by omega⟩, if_neg (by omega)]
    show sI _ k + pm σ π i k * y k = - (sI _ k + gct σ (4 * i + π i) k * y k) + _
    rw [ih, e, Int.add_mul, Int.neg_mul]
    by_cases h1 : i < k
    · rw [if_pos h1, if_neg (by omega), if_pos (by omega), Int.zero_mul]
      omega
    · by_cases h2 : k = i
      · rw [if_neg h1, if_pos h2, if_pos (by omega), h2]
        omega
      · rw [if_neg h1, if_neg h2, if_neg (by omega), Int.zero_mul]
        omega
theorem pm_b {σ : MS} {π : Nat → Nat} (h : mOK σ) (hπ : ∀ s, s < mN σ → π s < mC σ s) (i c : Nat) : (pm σ π i c).natAbs ≤ 2400000 := by
  unfold pm
  by_cases e : i < mN σ ∧ c ≤ mN σ
  · rw [if_pos e]
    have hN := h.1
    have hC := h.2.1 i (by omega)
    have hp := hπ i e.1
    have hi : 4 * i + π i < 24 := by omega
    have h1 := gc0_b h hi
    have h3 := gsc_b h hi
    unfold eqr
    by_cases e1 : c = mN σ
    · rw [if_pos e1]; exact h1
    · have h2 := gct_b h hi (show c < 6 by omega)
      rw [if_neg e1]
      split <;> omega
  · rw [if_neg e]
    decide
theorem pm_z {σ : MS} {π : Nat → Nat} (h : mOK σ) (hr : rdy σ) (hπ : ∀ s, s < mN σ → π s < mC σ s) : zrow (pm σ π) (mN σ) := by
  intro i hi
  have hN := h.1
  have hC := h.2.1 i (by omega)
  have hp := hπ i hi
  have hi24 : 4 * i + π i < 24 := by omega
  refine ⟨fun j hj hne => ?_, ?_⟩
  · have := gct_nn σ (4 * i + π i) j
    unfold pm eqr
    rw [if_pos ⟨hi, by omega⟩, if_neg (by omega), if_neg hne]
    omega
  · have e := pm_row (π := π) hi (fun _ => 1) (mN σ) (Nat.le_refl _)
    rw [sI_congr (g := pm σ π i) (fun j _ => by omega), if_pos hi] at e
    have e2 : sI (fun t => gct σ (4 * i + π i) t * 1) (mN σ) = (mD σ (4 * i + π i) : Int) * (mA σ : Int) * (mT σ (4 * i + π i) : Int) := by
      have h1 := sI_lin (fun t => (mW σ (4 * i + π i) t : Int)) (fun _ => 0) ((mD σ (4 * i + π i) : Int) * (mA σ : Int)) 0 (mN σ)
      rw [sumW h hi24] at h1
      rw [sI_congr (g := fun t => (mD σ (4 * i + π i) : Int) * (mA σ : Int) * (mW σ (4 * i + π i) t : Int) + 0 * 0) (fun t _ => by unfold gct; omega), h1]
      omega
    rw [e2] at e
    rw [e]
    unfold gsc
    have hd := (h.2.2.1 _ hi24).2.2.1
    have hAB := h.2.2.2.1
    have hT := (hr.2 i hi).2 (π i) hp
    have h3 : (mD σ (4 * i + π i) : Int) * (mA σ : Int) * (mT σ (4 * i + π i) : Int) < (mD σ (4 * i + π i) : Int) * (mB σ : Int) * (mT σ (4 * i + π i) : Int) :=
      Int.mul_lt_mul_of_pos_right (Int.mul_lt_mul_of_pos_left (by omega) (by omega)) (by omega)
    omega
theorem dl_congr {R M : Nat → Nat → Int} {n : Nat} (h : ∀ i c, i < n → c ≤ n → R i c = M i c) : ∀ (k : Nat), k ≤ n → ∀ L : List Nat, (∀ c ∈ L, c ≤ n) → dl R k L = dl M k L := by
  have ha : ∀ (w u : Nat → Int) (L : List Nat) (F G : List Nat → Int), (∀ c ∈ L, w c = u c) → (∀ N : List Nat, (∀ c ∈ N, c ∈ L) → F N = G N) → alt w L F = alt u L G := by
    intro w u L
    induction L with
    | nil => intro F G _ _; rfl
    | cons c cs ih =>
      intro F G hw hF
      rw [alt_s, alt_s, hw c List.mem_cons_self, hF cs (fun x hx => List.mem_cons_of_mem _ hx), ih (fun M => F (c :: M)) (fun M => G (c :: M)) (fun x hx => hw x (List.mem_cons_of_mem _ hx)) (fun N hN => hF (c :: N) (fun x hx => by
        rcases List.mem_cons.mp hx with rfl | hx
        · exact List.mem_cons_self
        · exact List.mem_cons_of_mem _ (hN x hx)))]
  intro k
  induction k with
  | zero => intro _ L _; rfl
  | succ k ih =>
    intro hk L hL
    exact ha _ _ L _ _ (fun c hc => h k c (by omega) (hL c hc)) (fun N hN => ih (by omega) N (fun c hc => hL c (hN c hc)))
-- the lists of columns that are read at the end
def rm : Nat → Nat → List Nat
  | 0, _ => []
  | k + 1, j => if j = k then ds k else k :: rm k j
theorem cf_rm : ∀ (k : Nat) (F : List Nat → Int) (j : Nat), j < k → cf F k j = (if (k - 1 - j) % 2 = 0 then 1 else -1) * F (rm k j)
  | 0, _, j, h => absurd h (Nat.not_lt_zero j)
  | k + 1, F, j, h => by
    show (if j = k then F (ds k) else - cf (fun M => F (k :: M)) k j) = _ * F (if j = k then ds k else k :: rm k j)
    by_cases e : j = k
    · rw [if_pos e, if_pos e, if_pos (by omega)]
      omega
    · have ih := cf_rm k (fun M => F (k :: M)) j (by omega)
      rw [if_neg e, if_neg e, ih]
      by_cases h2 : (k - 1 - j) % 2 = 0
      · rw [if_pos h2, if_neg (by omega)]
        omega
      · rw [if_neg h2, if_pos (by omega)]
        omega
theorem col_fin {n s : Nat} (hn : n < 7) (hs : s < n) : bl ((2 ^ (n + 1) - 1) ^^^ 2 ^ s) 7 = rm (n + 1) s ∧ pop ((2 ^ (n + 1) - 1) ^^^ 2 ^ s) = n ∧ (2 ^ (n + 1) - 1) ^^^ 2 ^ s < 2 ^ (n + 1) - 1 ∧ 0 < (2 ^ (n + 1) - 1) ^^^ 2 ^ s := bit_all (P := fun n s => n < 7 → s < n → bl ((2 ^ (n + 1) - 1) ^^^ 2 ^ s) 7 = rm (n + 1) s ∧ pop ((2 ^ (n + 1) - 1) ^^^ 2 ^ s) = n ∧ (2 ^ (n + 1) - 1) ^^^ 2 ^ s < 2 ^ (n + 1) - 1 ∧ 0 < (2 ^ (n + 1) - 1) ^^^ 2 ^ s) (fun m c h1 h2 => (show ∀ n : Fin 7, ∀ s : Fin 7, s.val < n.val → bl ((2 ^ (n.val + 1) - 1) ^^^ 2 ^ s.val) 7 = rm (n.val + 1) s.val ∧ pop ((2 ^ (n.val + 1) - 1) ^^^ 2 ^ s.val) = n.val ∧ (2 ^ (n.val + 1) - 1) ^^^ 2 ^ s.val < 2 ^ (n.val + 1) - 1 ∧ 0 < (2 ^ (n.val + 1) - 1) ^^^ 2 ^ s.val by decide +kernel) ⟨m.val, h1⟩ ⟨c.val, by omega⟩ h2) (show n < 128 by omega) (show s < 8 by omega) hn hs
theorem col_det {n : Nat} (hn : n < 7) : bl (2 ^ n - 1) 7 = ds n ∧ pop (2 ^ n - 1) = n := (show ∀ n : Fin 7, bl (2 ^ n.val - 1) 7 = ds n.val ∧ pop (2 ^ n.val - 1) = n.val by decide +kernel) ⟨n, hn⟩
theorem j_all {n : Nat} (hn : n < 7) : (iI 1 <<< (iI ((n + 1 : Nat) : Int) &&& 31)) = iI ((2 ^ (n + 1) : Nat) : Int) ∧ (iI ((2 ^ (n + 1) - 1 : Nat) : Int) >>> (iI 1 &&& 31)) = iI ((2 ^ n - 1 : Nat) : Int) := (show ∀ n : Fin 7, (iI 1 <<< (iI ((n.val + 1 : Nat) : Int) &&& 31)) = iI ((2 ^ (n.val + 1) : Nat) : Int) ∧ (iI ((2 ^ (n.val + 1) - 1 : Nat) : Int) >>> (iI 1 &&& 31)) = iI ((2 ^ n.val - 1 : Nat) : Int) by decide +kernel) ⟨n, hn⟩
/-- what the minors give is a policy's values -/
theorem pv_of {σ : MS} {π : Nat → Nat} (h : mOK σ) (hr : rdy σ) (hπ : ∀ s, s < mN σ → π s < mC σ s) {v : Nat → Int} (hv : ∀ s, s < mN σ → v s = (if (mN σ - 1 - s) % 2 = 0 then 1 else -1) * dl (pm σ π) (mN σ) (rm (mN σ + 1) s)) : PV σ π v (dl (pm σ π) (mN σ) (ds (mN σ))) := by
  have hb := pm_b h hπ
  have hN := h.1
  have hlen : ∀ k, (ds k).length = k := by
    intro k
    induction k with
    | zero => rfl
    | succ k ih => show (ds k).length + 1 = k + 1; rw [ih]
  have hlr : ∀ k j, (rm k j).length ≤ k := by
    intro k j
    induction k with
    | zero => exact Nat.le_refl 0
    | succ k ih =>
      show (if j = k then ds k else k :: rm k j).length ≤ k + 1
      split
      · rw [hlen]; omega
      · show (rm k j).length + 1 ≤ k + 1; omega
  have hpw : 16800000 ^ mN σ ≤ 16800000 ^ 6 := Nat.pow_le_pow_right (by omega) hN
  have hcf : ∀ s, s < mN σ → cf (dl (pm σ π) (mN σ)) (mN σ + 1) s = - v s := fun s hs => by
    rw [cf_rm _ _ _ (by omega), hv s hs]
    by_cases e : (mN σ - 1 - s) % 2 = 0
    · rw [if_pos e, if_neg (by omega)]
      omega
    · rw [if_neg e, if_pos (by omega)]
      omega
  refine ⟨det_pos (pm_z h hr hπ) _ (Nat.le_refl _), Nat.le_trans (dl_b hb _ _ (by rw [hlen]; omega)) hpw, fun s hs => ⟨?_, ?_⟩⟩
  · have hk := dl_kill (pm σ π) (mN σ) s hs (ds (mN σ + 1))
    rw [alt_cf] at hk
    have hk : sI (fun j => pm σ π s j * cf (dl (pm σ π) (mN σ)) (mN σ + 1) j) (mN σ) + pm σ π s (mN σ) * cf (dl (pm σ π) (mN σ)) (mN σ + 1) (mN σ) = 0 := hk
    have e1 : cf (dl (pm σ π) (mN σ)) (mN σ + 1) (mN σ) = dl (pm σ π) (mN σ) (ds (mN σ)) := by show (if _ then _ else _) = _; rw [if_pos rfl]
    have e2 : pm σ π s (mN σ) = gc0 σ (4 * s + π s) := by unfold pm eqr; rw [if_pos ⟨hs, Nat.le_refl _⟩, if_pos rfl]
    have e3 := pm_row (π := π) hs v (mN σ) (Nat.le_refl _)
    have e4 : sI (fun j => pm σ π s j * cf (dl (pm σ π) (mN σ)) (mN σ + 1) j) (mN σ) = - sI (fun j => pm σ π s j * v j) (mN σ) := by
      have h1 := sI_lin (fun j => pm σ π s j * v j) (fun _ => 0) (-1) 0 (mN σ)
      rw [sI_congr (g := fun j => pm σ π s j * cf (dl (pm σ π) (mN σ)) (mN σ + 1) j) (fun j hj => by rw [hcf j hj, Int.mul_neg]; omega)] at h1
      omega
    rw [if_pos hs] at e3
    rw [e4, e1, e2, e3] at hk
    unfold gnum
    rw [gsum_sI, Int.mul_comm (v s), Int.mul_comm _ (gc0 σ (4 * s + π s))]
    omega
  · rw [hv s hs, Int.natAbs_mul]
    have h1 := dl_b hb (mN σ) (rm (mN σ + 1) s) (by have := hlr (mN σ + 1) s; omega)
    split <;> (simp; omega)
def RV (D : va_G) (E : Nat → ClassId) (r n x : Nat) (v : Nat → Int) (H : Heap) : Prop := ∀ s, s < 6 → s ≠ x → WH D E (r + 2 + 2 * s) n (v s) H
theorem RV.k {D : va_G} {E : Nat → ClassId} {r n x : Nat} {v : Nat → Int} {H H1 : Heap} (h : RV D E r n x v H) (hq : ∀ q, r + 2 ≤ q → q ≤ r + 13 ∧ q ≠ r + 2 + 2 * x ∧ q ≠ r + 3 + 2 * x → q < H.size → H1[q]? = H[q]?) : RV D E r n x v H1 := fun i hi hne => by
  have hl := (h i hi hne).lt
  exact (h i hi hne).k (hq _ (by omega) (by omega) (by omega)) (hq _ (by omega) (by omega) (by omega))
theorem RV.up {D : va_G} {E : Nat → ClassId} {r n x : Nat} {v : Nat → Int} {u : Int} {H : Heap} (h : RV D E r n x v H) (hw : WH D E (r + 2 + 2 * x) n u H) : RV D E r n 6 (ud v x u) H := fun i hi _ => by
  by_cases e : i = x
  · subst e; rw [ud_s]; exact hw
  · rw [ud_n _ _ e]; exact h i hi e
