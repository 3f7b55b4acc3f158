/-! the equations: writeRow, expand -/
def RS (E : Nat → ClassId) (e0 : Nat) (R : Nat → Nat → Int) (H : Heap) : Prop := ∀ i, i < 6 → IA E (e0 + 2 + i) 7 (R i) H
def MN (D : va_G) (E : Nat → ClassId) (e0 x : Nat) (mn : Nat → Int) (H : Heap) : Prop := ∀ i, i < 128 → i ≠ x → WH D E (e0 + 9 + 2 * i) 8 (mn i) H
def EQ (D : va_G) (E : Nat → ClassId) (e0 : Nat) (R : Nat → Nat → Int) (mn : Nat → Int) (H : Heap) : Prop := OA D e0 2 [.ref (e0 + 1), .ref (e0 + 8)] H ∧ QA E 6 (e0 + 1) 6 (fun i => some (e0 + 2 + i)) H ∧ RS E e0 R H ∧ QA E 5 (e0 + 8) 128 (fun i => some (e0 + 9 + 2 * i)) H ∧ MN D E e0 128 mn H
theorem RS.k {E : Nat → ClassId} {e0 : Nat} {R : Nat → Nat → Int} {H H1 : Heap} (h : RS E e0 R H) (hq : ∀ q, e0 + 2 ≤ q → q ≤ e0 + 7 → q < H.size → H1[q]? = H[q]?) : RS E e0 R H1 := fun i hi => (h i hi).k (hq _ (by omega) (by omega) (h i hi).lt)
theorem MN.k {D : va_G} {E : Nat → ClassId} {e0 x : Nat} {mn : Nat → Int} {H H1 : Heap} (h : MN D E e0 x mn H) (hq : ∀ q, e0 + 9 ≤ q → q ≤ e0 + 264 ∧ q ≠ e0 + 9 + 2 * x ∧ q ≠ e0 + 10 + 2 * x → q < H.size → H1[q]? = H[q]?) : MN D E e0 x mn H1 := fun i hi hne => by
  have hl := (h i hi hne).lt
  exact (h i hi hne).k (hq _ (by omega) (by omega) (by omega)) (hq _ (by omega) (by omega) (by omega))
theorem EQ.lt {D : va_G} {E : Nat → ClassId} {e0 : Nat} {R : Nat → Nat → Int} {mn : Nat → Int} {H : Heap} (h : EQ D E e0 R mn H) : e0 + 264 < H.size := by
  have := (h.2.2.2.2 127 (by omega) (by omega)).lt
  omega
theorem EQ.k {D : va_G} {E : Nat → ClassId} {e0 : Nat} {R : Nat → Nat → Int} {mn : Nat → Int} {H H1 : Heap} (h : EQ D E e0 R mn H) (hq : ∀ q, e0 ≤ q → q ≤ e0 + 264 → q < H.size → H1[q]? = H[q]?) : EQ D E e0 R mn H1 := by
  have hl := h.lt
  obtain ⟨h0, h1, h2, h3, h4⟩ := h
  exact ⟨h0.k (hq _ (by omega) (by omega) (by omega)), h1.k (hq _ (by omega) (by omega) (by omega)), h2.k (fun q a b c => hq q (by omega) (by omega) c), h3.k (hq _ (by omega) (by omega) (by omega)), h4.k (fun q a b c => hq q (by omega) (by omega) c)⟩
theorem MN.up {D : va_G} {E : Nat → ClassId} {e0 x : Nat} {mn : Nat → Int} {v : Int} {H : Heap} (h : MN D E e0 x mn H) (hw : WH D E (e0 + 9 + 2 * x) 8 v H) : MN D E e0 128 (ud mn x v) H := fun i hi _ => by
  by_cases e : i = x
  · subst e; rw [ud_s]; exact hw
  · rw [ud_n _ _ e]; exact h i hi e
/-- an equation's row: the place of each state, and the right side behind -/
def eqr (σ : MS) (i st t : Nat) : Int := if t = mN σ then gc0 σ i else - gct σ i t + (if t = st then gsc σ i else 0)
def uR (R : Nat → Nat → Int) (st : Nat) (row : Nat → Int) : Nat → Nat → Int := fun q => if q = st then row else R q
set_option maxHeartbeats 4000000 in
set_option maxRecDepth 100000 in
/-- writeRow(model, state, action) -/
theorem c_writeRow (l : Launch) (D : va_G) (E : Nat → ClassId) (e0 m0 st i : Nat) (σ : MS) (R : Nat → Nat → Int) (mn : Nat → Int) (hok : mOK σ) (hi : i < 24) (hst : st < mN σ) (hem : e0 + 264 < m0 ∨ m0 + 50 < e0) : pw_M rvV l D E yX2_writeRow wsX2_writeRow ({ frames := 0, cells := 0, slots := 0, locals := 0 } : Room) [.ref (e0), .ref (m0), .int (iI ((st : Int))), .ref (m0 + 3 + 2 * i)] (fun H => EQ D E e0 R mn H ∧ MO D E m0 σ H) (fun _ H => ∃ row, (∀ t, t ≤ mN σ → row t = eqr σ i st t) ∧ EQ D E e0 (uR R st row) mn H) (fun q => q = e0 + 2 + st) (0) (0) := by
  refine pw_of (cc := cX2_writeRow) (maxL := 6) (ret := none) (by decide +kernel) rfl (Nat.le_of_ble_eq_true rfl) ?_
  intro p e s m args below meth c hx hb hr hml hts hown hlocks hini hK ⟨⟨hEO, hEQ, hRS, hEM, hMN⟩, hM⟩ ls hl
  have hown : s.vm.findClass RX2 = some m.cls := hown
  have hl : lv_has ls 6 [(0, .ref (e0)), (1, .ref (m0)), (2, .int (iI ((st : Int)))), (3, .ref (m0 + 3 + 2 * i))] := hl
  have hS : va_S (fun q => q = e0 + 2 + st) s.heap s.heap [] := va_S.rf
  have lk_11 := hts (.fieldLink RX2 11 "PolicyWorks$Equations" "rows" "[[I") (by decide +kernel)
  have lk_25 := hts (.fieldLink RX2 25 "PolicyWorks$Model" "states" "I") (by decide +kernel)
  have lk_65 := hts (.fieldLink RX2 65 "PolicyWorks$Action" "below" "I") (by decide +kernel)
  have lk_69 := hts (.fieldLink RX2 69 "PolicyWorks$Model" "discountAbove" "I") (by decide +kernel)
  have lk_72 := hts (.fieldLink RX2 72 "PolicyWorks$Action" "weights" "[I") (by decide +kernel)
  have lk_76 := hts (.fieldLink RX2 76 "PolicyWorks$Model" "discountBelow" "I") (by decide +kernel)
  have lk_79 := hts (.fieldLink RX2 79 "PolicyWorks$Action" "total" "I") (by decide +kernel)
  have lk_82 := hts (.fieldLink RX2 82 "PolicyWorks$Action" "above" "I") (by decide +kernel)
  have hin0 : ∀ w ∈ wsX00, w ∈ wsX2_writeRow := by decide +kernel
  have hin2 : ∀ w ∈ wsX20, w ∈ wsX2_writeRow := by decide +kernel
  have hin6 : ∀ w ∈ wsX60, w ∈ wsX2_writeRow := by decide +kernel
  have hN6 := hok.1
  have hMO := hM.1
  have hAO := (hM.2.2.2 i hi).1
  have hAW := (hM.2.2.2 i hi).2
  have hrow := hRS st (by omega)
  have hRX : ∀ i, i < 6 → i ≠ st → IA E (e0 + 2 + i) 7 (R i) s.heap := fun i h1 _ => hRS i h1
  have loop : ∀ (k t : Nat) (g : Nat → Int) (H : Heap) (locs : List Loc) (ls : Array Slot), t + k = mN σ → (∀ j, j < t → g j = - gct σ i j) → OA D (e0) 2 [.ref (e0 + 1), .ref (e0 + 8)] H → QA E 6 (e0 + 1) 6 (fun i => some (e0 + 2 + i)) H → QA E 5 (e0 + 8) 128 (fun i => some (e0 + 9 + 2 * i)) H → MN D E e0 128 mn H → IA E (e0 + 2 + st) 7 g H → (∀ i, i < 6 → i ≠ st → IA E (e0 + 2 + i) 7 (R i) H) → MO D E m0 σ H → va_S (fun q => q = e0 + 2 + st) s.heap H locs → lv_has ls 6 [(0, .ref (e0)), (1, .ref (m0)), (2, .int (iI ((st : Int)))), (3, .ref (m0 + 3 + 2 * i)), (4, .ref (e0 + 2 + st)), (5, .int (iI ((t : Int))))] → W p l e ({ frames := 0, cells := 0, slots := 0, locals := 0 } : Room) s m args below meth c H locs (0) (0) (MQ below (pw_Q rvV (fun _ H => ∃ row, (∀ t, t ≤ mN σ → row t = eqr σ i st t) ∧ EQ D E e0 (uR R st row) mn H) (fun q => q = e0 + 2 + st)) args s (0) (0) (fun q => q = e0 + 2 + st)) (F0 m 11 ls []) := by
    intro k
    induction k with
    | zero =>
      intro t g H locs ls ht h0 hEO hEQ hEM hMN hrow hRX hM hS hl
      have hMO := hM.1
      have hAO := (hM.2.2.2 i hi).1
      have hAW := (hM.2.2.2 i hi).2
      have et : t = mN σ := by omega
      refine lv_iload hx hb dX2_writeRow_11 (lv_at hl 5 rfl) ?_
      refine lv_aload_n hx hb dX2_writeRow_13 rfl (lv_at hl 1 rfl) ?_
      refine pw_get (C := RX6) (T := TX6) (N := 5) hx hb hts hin6 hown hK hMO rfl 2 (by decide) lk_25 rfl rfl dX2_writeRow_14 ?_
      refine pw_icmp_ge (tgt := 49) hx hb dX2_writeRow_17 (by decide) (fun c_17 => ?_) (fun c_17 => absurd c_17 (by omega))
      refine lv_aload hx hb dX2_writeRow_49 (lv_at hl 4 rfl) ?_
      refine lv_iload_n hx hb dX2_writeRow_51 rfl (lv_at hl 2 rfl) ?_
      refine lv_dup2_11 hx hb dX2_writeRow_52 rfl rfl ?_
      refine pw_iald hx hb hK hrow (st) rfl (by omega) (by omega) dX2_writeRow_53 ?_
      refine lv_aload_n hx hb dX2_writeRow_54 rfl (lv_at hl 3 rfl) ?_
      refine pw_get (C := RX0) (T := TX0) (N := 4) hx hb hts hin0 hown hK hAO rfl 2 (by decide) lk_65 rfl rfl dX2_writeRow_55 ?_
      refine lv_aload_n hx hb dX2_writeRow_58 rfl (lv_at hl 1 rfl) ?_
      refine pw_get (C := RX6) (T := TX6) (N := 5) hx hb hts hin6 hown hK hMO rfl 4 (by decide) lk_76 rfl rfl dX2_writeRow_59 ?_
      refine pw_imul hx hb dX2_writeRow_62 ?_
      refine lv_aload_n hx hb dX2_writeRow_63 rfl (lv_at hl 3 rfl) ?_
      refine pw_get (C := RX0) (T := TX0) (N := 4) hx hb hts hin0 hown hK hAO rfl 3 (by decide) lk_79 rfl rfl dX2_writeRow_64 ?_
      refine pw_imul hx hb dX2_writeRow_67 ?_
      refine pw_asi (gsc σ i) rfl ?_
      refine pw_iadd hx hb dX2_writeRow_68 ?_
      refine pw_iast hx hb hK hrow hS rfl (st) rfl (by omega) (by omega) dX2_writeRow_69 (fun H1 locs1 hnew hz1 oq hS => ?_)
      have hEO := hEO.k (oq _ (by omega))
      have hEQ := hEQ.k (oq _ (by omega))
      have hEM := hEM.k (oq _ (by omega))
      have hMN := hMN.k (fun q h1 h2 h3 => (oq _ (by omega)))
      have hRX : ∀ i, i < 6 → i ≠ st → IA E (e0 + 2 + i) 7 (R i) _ := fun i h1 h2 => (hRX i h1 h2).k (oq _ (by omega))
      have hMO := hMO.k (oq _ (by omega))
      have hM := hM.k (fun q h1 h2 h3 => (oq _ (by omega)))
      have hAO := hAO.k (oq _ (by omega))
      have hAW := hAW.k (oq _ (by omega))
      have hrow := hnew
      clear hnew oq hz1
      refine lv_aload hx hb dX2_writeRow_70 (lv_at hl 4 rfl) ?_
      refine lv_aload_n hx hb dX2_writeRow_72 rfl (lv_at hl 1 rfl) ?_
      refine pw_get (C := RX6) (T := TX6) (N := 5) hx hb hts hin6 hown hK hMO rfl 2 (by decide) lk_25 rfl rfl dX2_writeRow_73 ?_
      refine lv_aload_n hx hb dX2_writeRow_76 rfl (lv_at hl 3 rfl) ?_
      refine pw_get (C := RX0) (T := TX0) (N := 4) hx hb hts hin0 hown hK hAO rfl 1 (by decide) lk_82 rfl rfl dX2_writeRow_77 ?_
      refine lv_aload_n hx hb dX2_writeRow_80 rfl (lv_at hl 1 rfl) ?_
      refine pw_get (C := RX6) (T := TX6) (N := 5) hx hb hts hin6 hown hK hMO rfl 4 (by decide) lk_76 rfl rfl dX2_writeRow_81 ?_
      refine pw_imul hx hb dX2_writeRow_84 ?_
      refine lv_aload_n hx hb dX2_writeRow_85 rfl (lv_at hl 3 rfl) ?_
      refine pw_get (C := RX0) (T := TX0) (N := 4) hx hb hts hin0 hown hK hAO rfl 3 (by decide) lk_79 rfl rfl dX2_writeRow_86 ?_
      refine pw_imul hx hb dX2_writeRow_89 ?_
      refine pw_asi (gc0 σ i) rfl ?_
      refine pw_iast hx hb hK hrow hS rfl (mN σ) rfl (by omega) (by omega) dX2_writeRow_90 (fun H1 locs1 hnew hz1 oq hS => ?_)
      have hEO := hEO.k (oq _ (by omega))
      have hEQ := hEQ.k (oq _ (by omega))
      have hEM := hEM.k (oq _ (by omega))
      have hMN := hMN.k (fun q h1 h2 h3 => (oq _ (by omega)))
      have hRX : ∀ i, i < 6 → i ≠ st → IA E (e0 + 2 + i) 7 (R i) _ := fun i h1 h2 => (hRX i h1 h2).k (oq _ (by omega))
      have hMO := hMO.k (oq _ (by omega))
      have hM := hM.k (fun q h1 h2 h3 => (oq _ (by omega)))
      have hAO := hAO.k (oq _ (by omega))
      have hAW := hAW.k (oq _ (by omega))
      have hrow := hnew
      clear hnew oq hz1
      refine pw_vret hx hb hr hlocks hS ⟨ud (ud g st (g st + gsc σ i)) (mN σ) (gc0 σ i), fun u hu => ?_, hEO, hEQ, ?_, hEM, hMN⟩ dX2_writeRow_91
      · unfold eqr
        by_cases e1 : u = mN σ
        · rw [if_pos e1, e1, ud_s]
        · rw [if_neg e1, ud_n _ _ e1]
          by_cases e2 : u = st
          · rw [if_pos e2, e2, ud_s, h0 st (by omega)]
          · rw [if_neg e2, ud_n _ _ e2, h0 u (by omega)]; omega
      · intro q hq
        by_cases e1 : q = st
        · subst e1; unfold uR; rw [if_pos rfl]; exact hrow
        · unfold uR; rw [if_neg e1]; exact hRX q hq e1
    | succ k ih =>
      intro t g H locs ls ht h0 hEO hEQ hEM hMN hrow hRX hM hS hl
      have hMO := hM.1
      have hAO := (hM.2.2.2 i hi).1
      have hAW := (hM.2.2.2 i hi).2
      refine lv_iload hx hb dX2_writeRow_11 (lv_at hl 5 rfl) ?_
      refine lv_aload_n hx hb dX2_writeRow_13 rfl (lv_at hl 1 rfl) ?_
      refine pw_get (C := RX6) (T := TX6) (N := 5) hx hb hts hin6 hown hK hMO rfl 2 (by decide) lk_25 rfl rfl dX2_writeRow_14 ?_
      refine pw_icmp_ge (tgt := 49) hx hb dX2_writeRow_17 (by decide) (fun c_17 => absurd c_17 (by omega)) (fun c_17 => ?_)
      refine lv_aload hx hb dX2_writeRow_20 (lv_at hl 4 rfl) ?_
      refine lv_iload hx hb dX2_writeRow_22 (lv_at hl 5 rfl) ?_
      refine lv_aload_n hx hb dX2_writeRow_24 rfl (lv_at hl 3 rfl) ?_
      refine pw_get (C := RX0) (T := TX0) (N := 4) hx hb hts hin0 hown hK hAO rfl 2 (by decide) lk_65 rfl rfl dX2_writeRow_25 ?_
      refine pw_ineg hx hb dX2_writeRow_28 ?_
      refine lv_aload_n hx hb dX2_writeRow_29 rfl (lv_at hl 1 rfl) ?_
      refine pw_get (C := RX6) (T := TX6) (N := 5) hx hb hts hin6 hown hK hMO rfl 3 (by decide) lk_69 rfl rfl dX2_writeRow_30 ?_
      refine pw_imul hx hb dX2_writeRow_33 ?_
      refine lv_aload_n hx hb dX2_writeRow_34 rfl (lv_at hl 3 rfl) ?_
      refine pw_get (C := RX0) (T := TX0) (N := 4) hx hb hts hin0 hown hK hAO rfl 0 (by decide) lk_72 rfl rfl dX2_writeRow_35 ?_
      refine lv_iload hx hb dX2_writeRow_38 (lv_at hl 5 rfl) ?_
      refine pw_iald hx hb hK hAW (t) rfl (by omega) (by omega) dX2_writeRow_40 ?_
      refine pw_asi ((mW σ i (t) : Int)) rfl ?_
      refine pw_imul hx hb dX2_writeRow_41 ?_
      refine pw_asi (- gct σ i t) (by unfold gct; rw [Int.neg_mul, Int.neg_mul]) ?_
      refine pw_iast hx hb hK hrow hS rfl (t) rfl (by omega) (by omega) dX2_writeRow_42 (fun H1 locs1 hnew hz1 oq hS => ?_)
      have hEO := hEO.k (oq _ (by omega))
      have hEQ := hEQ.k (oq _ (by omega))
      have hEM := hEM.k (oq _ (by omega))
      have hMN := hMN.k (fun q h1 h2 h3 => (oq _ (by omega)))
      have hRX : ∀ i, i < 6 → i ≠ st → IA E (e0 + 2 + i) 7 (R i) _ := fun i h1 h2 => (hRX i h1 h2).k (oq _ (by omega))
      have hMO := hMO.k (oq _ (by omega))
      have hM := hM.k (fun q h1 h2 h3 => (oq _ (by omega)))
      have hAO := hAO.k (oq _ (by omega))
      have hAW := hAW.k (oq _ (by omega))
      have hrow := hnew
      clear hnew oq hz1
      refine lv_iinc (v := iI (((t + 1 : Nat) : Int))) (lv' := [(5, .int (iI (((t + 1 : Nat) : Int)))), (0, .ref (e0)), (1, .ref (m0)), (2, .int (iI ((st : Int)))), (3, .ref (m0 + 3 + 2 * i)), (4, .ref (e0 + 2 + st))]) hx hb dX2_writeRow_43 hl (k := 5) rfl (by show iI _ + iI _ = _; exact (iI_add _ _).trans (by first | rfl | (congr 1; omega))) (by decide) rfl (fun ls hl => ?_)
      refine lv_goto (tgt := 11) hx hb dX2_writeRow_46 (by decide) ?_
      exact ih (t + 1) _ _ _ _ (by omega) (fun j hj => ud_ext h0 rfl j hj) hEO hEQ hEM hMN hrow hRX hM hS (lv_sub hl [1, 2, 3, 4, 5, 0] rfl)
  refine lv_aload_n hx hb dX2_writeRow_0 rfl (lv_at hl 0 rfl) ?_
  refine pw_get (C := RX2) (T := TX2) (N := 2) hx hb hts hin2 hown hK hEO rfl 0 (by decide) lk_11 rfl rfl dX2_writeRow_1 ?_
  refine lv_iload_n hx hb dX2_writeRow_4 rfl (lv_at hl 2 rfl) ?_
  refine pw_qalda hx hb hK hEQ (st) rfl (by omega) (by omega) rfl dX2_writeRow_5 ?_
  refine lv_astore (lv' := [(4, .ref (e0 + 2 + st)), (0, .ref (e0)), (1, .ref (m0)), (2, .int (iI ((st : Int)))), (3, .ref (m0 + 3 + 2 * i))]) hx hb dX2_writeRow_6 hl (by decide) rfl (fun ls hl => ?_)
  refine pw_iconst hx hb dX2_writeRow_8 ?_
  refine lv_istore (lv' := [(5, .int (iI (0))), (4, .ref (e0 + 2 + st)), (0, .ref (e0)), (1, .ref (m0)), (2, .int (iI ((st : Int)))), (3, .ref (m0 + 3 + 2 * i))]) hx hb dX2_writeRow_9 hl (by decide) rfl (fun ls hl => ?_)
  exact loop (mN σ) 0 _ _ _ _ (by omega) (fun j hj => by omega) hEO hEQ hEM hMN hrow hRX hM hS (lv_sub hl [2, 3, 4, 5, 1, 0] rfl)
theorem p168 {k : Nat} (h : k ≤ 6) : 16800000 ^ k < 1000000 ^ 8 := by
  have h1 : 16800000 ^ k ≤ 16800000 ^ 6 := Nat.pow_le_pow_right (by omega) h
  have h2 : 16800000 ^ 6 < 1000000 ^ 8 := by decide +kernel
  omega
theorem alt_s {w : Nat → Int} {k : Nat} {cs : List Nat} {F : List Nat → Int} : alt w (k :: cs) F = w k * F cs - alt w cs (fun M => F (k :: M)) := rfl
theorem bl_s {m c : Nat} (h : m / 2 ^ c % 2 = 1) : bl m (c + 1) = c :: bl m c := by show (if _ then _ else _) = _; rw [if_pos h]
theorem bl_n {m c : Nat} (h : ¬ m / 2 ^ c % 2 = 1) : bl m (c + 1) = bl m c := by show (if _ then _ else _) = _; rw [if_neg h]
theorem p2_mono {a b : Nat} (h : a ≤ b) : 2 ^ a ≤ 2 ^ b := Nat.pow_le_pow_right (by omega) h
/-- one column of an expansion -/
theorem exp_set {M : Nat → Nat → Int} {p cols k : Nat} (hm : cols < 128) (hk : k < 7) (hb : cols / 2 ^ k % 2 = 1) : alt (M p) (bl cols (k + 1)) (fun L => dl M p (hi cols (k + 1) ++ L)) = M p k * dl M p (bl (cols ^^^ 2 ^ k) 7) - alt (M p) (bl cols k) (fun L => dl M p (hi cols k ++ L)) := by
  rw [bl_s hb, alt_s, (bl_x hm hk hb).1, hi_s hm hk hb]
  congr 2
  funext L
  rw [List.append_assoc]
  rfl
theorem exp_no {M : Nat → Nat → Int} {p cols k : Nat} (hm : cols < 128) (hk : k < 7) (hb : ¬ cols / 2 ^ k % 2 = 1) : alt (M p) (bl cols (k + 1)) (fun L => dl M p (hi cols (k + 1) ++ L)) = alt (M p) (bl cols k) (fun L => dl M p (hi cols k ++ L)) := by
  rw [bl_n hb, hi_n hm hk hb]
set_option maxHeartbeats 4000000 in
set_option maxRecDepth 100000 in
/-- expand(columns, n) -/
theorem c_expand (l : Launch) (D : va_G) (E : Nat → ClassId) (e0 n cols : Nat) (R Mx : Nat → Nat → Int) (mn : Nat → Int) (hn : n ≤ 6) (hc1 : 0 < cols) (hc2 : cols + 1 < 2 ^ (n + 1)) (hRM : ∀ i c, i < n → c ≤ n → R i c = Mx i c) (hMb : ∀ i c, (Mx i c).natAbs ≤ 2400000) (hmn : ∀ j, j < cols → mn j = dl Mx (pop j) (bl j 7)) : pw_M rvV l D E yX2_expand wsX2_expand ({ frames := 2, cells := 0, slots := 0, locals := 65 } : Room) [.ref (e0), .int (iI ((cols : Int))), .int (iI ((n : Int)))] (fun H => EQ D E e0 R mn H) (fun _ H => EQ D E e0 R (ud mn cols (dl Mx (pop cols) (bl cols 7))) H) (fun q => q = e0 + 9 + 2 * cols ∨ q = e0 + 9 + 2 * cols + 1) (0) (0) := by
  refine pw_of (cc := cX2_expand) (maxL := 7) (ret := none) (by decide +kernel) rfl (Nat.le_of_ble_eq_true rfl) ?_
  intro p e s m args below meth c hx hb hr hml hts hown hlocks hini hK ⟨hEO, hEQ, hRS, hEM, hMN⟩ ls hl
  have hown : s.vm.findClass RX2 = some m.cls := hown
  have hl : lv_has ls 7 [(0, .ref (e0)), (1, .int (iI ((cols : Int)))), (2, .int (iI ((n : Int))))] := hl
  have hS : va_S (fun q => q = e0 + 9 + 2 * cols ∨ q = e0 + 9 + 2 * cols + 1) s.heap s.heap [] := va_S.rf
  have lk_11 := hts (.fieldLink RX2 11 "PolicyWorks$Equations" "rows" "[[I") (by decide +kernel)
  have lk_18 := hts (.fieldLink RX2 18 "PolicyWorks$Equations" "minors" "[LPolicyWorks$Whole;") (by decide +kernel)
  have hin2 : ∀ w ∈ wsX20, w ∈ wsX2_expand := by decide +kernel
  have hp7 : 2 ^ (n + 1) ≤ 128 := p2_mono (show n + 1 ≤ 7 by omega)
  have hcl : cols < 128 := by omega
  obtain ⟨hpp, hpn⟩ := pop_b (show n < 7 by omega) hc2 hc1
  obtain ⟨pm, hpm⟩ : ∃ pm, pop cols = pm + 1 := ⟨pop cols - 1, by omega⟩
  have hrow := hRS pm (by omega)
  have hMX : MN D E e0 cols mn s.heap := fun i h1 h2 => hMN i h1 (by omega)
  obtain ⟨kz, hR⟩ := (hMN cols hcl (by omega)).r
  have hT := dl_b hMb (pop cols) (bl cols 7) (bl_len hcl)
  have hTb := int_lt (Nat.lt_of_le_of_lt hT (p168 (show pop cols ≤ 6 by omega)))
  have hTe : dl Mx (pop cols) (bl cols 7) = alt (Mx pm) (bl cols 7) (dl Mx pm) := by rw [hpm]; rfl
  have loop : ∀ (k : Nat) (sg : Int) (f : Nat → Int) (H : Heap) (locs : List Loc) (ls : Array Slot), k ≤ n + 1 → (sg = 1 ∨ sg = -1) → wv f 8 + sg * alt (Mx pm) (bl cols k) (fun L => dl Mx pm (hi cols k ++ L)) = dl Mx (pop cols) (bl cols 7) → (∀ j, (f j).natAbs ≤ (7 - k) * 2400000000000) → OA D (e0) 2 [.ref (e0 + 1), .ref (e0 + 8)] H → QA E 6 (e0 + 1) 6 (fun i => some (e0 + 2 + i)) H → QA E 5 (e0 + 8) 128 (fun i => some (e0 + 9 + 2 * i)) H → RS E e0 R H → MN D E e0 cols mn H → WR D E (e0 + 9 + 2 * cols) 8 f 0 0 H → va_S (fun q => q = e0 + 9 + 2 * cols ∨ q = e0 + 9 + 2 * cols + 1) s.heap H locs → lv_has ls 7 [(0, .ref (e0)), (1, .int (iI ((cols : Int)))), (2, .int (iI ((n : Int)))), (3, .ref (e0 + 2 + pm)), (4, .ref (e0 + 9 + 2 * cols)), (5, .int (iI (sg))), (6, .int (iI ((k : Int) - 1)))] → W p l e ({ frames := 2, cells := 0, slots := 0, locals := 65 } : Room) s m args below meth c H locs (0) (0) (MQ below (pw_Q rvV (fun _ H => EQ D E e0 R (ud mn cols (dl Mx (pop cols) (bl cols 7))) H) (fun q => q = e0 + 9 + 2 * cols ∨ q = e0 + 9 + 2 * cols + 1)) args s (0) (0) (fun q => q = e0 + 9 + 2 * cols ∨ q = e0 + 9 + 2 * cols + 1)) (F0 m 31 ls []) := by
    intro k
    induction k with
    | zero =>
      intro sg f H locs ls hk hsg hinv hfb hEO hEQ hEM hRS hMX hR hS hl
      have hrow := hRS pm (by omega)
      have hinv : wv f 8 + sg * 0 = dl Mx (pop cols) (bl cols 7) := hinv
      have hwv : wv f 8 = dl Mx (pop cols) (bl cols 7) := by omega
      refine lv_iload hx hb dX2_expand_31 (lv_at hl 6 rfl) ?_
      refine pw_if_lt (tgt := 88) hx hb dX2_expand_33 (by decide) (fun c_33 => ?_) (fun c_33 => absurd c_33 (by omega))
      refine lv_aload hx hb dX2_expand_88 (lv_at hl 4 rfl) ?_
      refine pw_callVv (As := []) (rest := []) ⟨hx, hb, hml, hown, hts⟩ (c_settle l D E (e0 + 9 + 2 * cols) 8 f 0 0 (by omega) (fun j _ => by have := hfb j; omega) (by rw [hwv]; exact hTb.1) (by rw [hwv]; exact hTb.2)) (cwV 0 hts gX2_expand_X8_settle rfl rfl rfl (by decide +kernel) ⟨Nat.le_of_ble_eq_true rfl, Nat.le_of_ble_eq_true rfl⟩) hK hR.1 rfl hR rfl hl.1 rfl (Nat.le_of_ble_eq_true rfl) dX2_expand_90 ⟨Nat.zero_le _, Nat.zero_le _⟩ hS (fun q h => h) (fun H1 locs1 hW hz1 hk1 hS => ?_)
      have hEO := hEO.k (hk1 _ hEO.lt (by (try dsimp only); omega))
      have hEQ := hEQ.k (hk1 _ hEQ.lt (by (try dsimp only); omega))
      have hEM := hEM.k (hk1 _ hEM.lt (by (try dsimp only); omega))
      have hRS := hRS.k (fun q h1 h2 h3 => (hk1 _ h3 (by (try dsimp only); omega)))
      have hrow := hrow.k (hk1 _ hrow.lt (by (try dsimp only); omega))
      have hMX := hMX.k (fun q h1 h2 h3 => (hk1 _ h3 (by (try dsimp only); omega)))
      rw [hwv] at hW
      exact pw_vret hx hb hr hlocks hS ⟨hEO, hEQ, hRS, hEM, hMX.up hW⟩ dX2_expand_93
    | succ k ih =>
      intro sg f H locs ls hk hsg hinv hfb hEO hEQ hEM hRS hMX hR hS hl
      have hrow := hRS pm (by omega)
      have ek : ((k + 1 : Nat) : Int) - 1 = (k : Int) := by omega
      obtain ⟨jb1, jb2, jb3, jb4⟩ := j_bit hcl (show k < 7 by omega)
      have hMk := hMb pm k
      have hRk := hRM pm k (by omega) (by omega)
      have hm2 : cols / 2 ^ k % 2 = 0 ∨ cols / 2 ^ k % 2 = 1 := by omega
      refine lv_iload hx hb dX2_expand_31 (lv_at hl 6 rfl) ?_
      refine pw_if_lt (tgt := 88) hx hb dX2_expand_33 (by decide) (fun c_33 => absurd c_33 (by omega)) (fun c_33 => ?_)
      refine lv_iload_n hx hb dX2_expand_36 rfl (lv_at hl 1 rfl) ?_
      refine lv_iload hx hb dX2_expand_37 (lv_at hl 6 rfl) ?_
      refine pw_asi (k : Int) ek ?_
      refine lv_ishr hx hb dX2_expand_39 ?_
      refine pw_eqi (((cols / 2 ^ k : Nat) : Int)) jb1 ?_
      refine pw_iconst hx hb dX2_expand_40 ?_
      refine lv_iand hx hb dX2_expand_41 ?_
      refine pw_eqi (((cols / 2 ^ k % 2 : Nat) : Int)) jb2 ?_
      refine pw_if_eq (tgt := 82) hx hb dX2_expand_42 (by decide) (fun c_42 => ?_) (fun c_42 => ?_)
      · refine lv_iinc (v := iI ((k : Int) - 1)) (lv' := [(6, .int (iI ((k : Int) - 1))), (0, .ref (e0)), (1, .int (iI ((cols : Int)))), (2, .int (iI ((n : Int)))), (3, .ref (e0 + 2 + pm)), (4, .ref (e0 + 9 + 2 * cols)), (5, .int (iI (sg)))]) hx hb dX2_expand_82 hl (k := 6) rfl (by show iI _ + iI _ = _; exact (iI_add _ _).trans (by first | rfl | (congr 1; omega))) (by decide) rfl (fun ls hl => ?_)
        refine lv_goto (tgt := 31) hx hb dX2_expand_85 (by decide) ?_
        have hbs : ¬ cols / 2 ^ k % 2 = 1 := by omega
        rw [exp_no hcl (show k < 7 by omega) hbs] at hinv
        exact ih sg f _ _ _ (by omega) hsg hinv (fun j => Nat.le_trans (hfb j) (Nat.mul_le_mul_right _ (by omega))) hEO hEQ hEM hRS hMX hR hS (lv_sub hl [1, 2, 3, 4, 5, 6, 0] rfl)
      · have hbs : cols / 2 ^ k % 2 = 1 := by omega
        obtain ⟨bx1, bx2, bx3⟩ := bl_x hcl (show k < 7 by omega) hbs
        have hmk := hmn (cols ^^^ 2 ^ k) bx2
        have hpk : pop (cols ^^^ 2 ^ k) = pm := by omega
        rw [hpk] at hmk
        have hex := exp_set (M := Mx) (p := pm) hcl (show k < 7 by omega) hbs
        rw [hex, Int.mul_sub] at hinv
        refine lv_aload_n hx hb dX2_expand_45 rfl (lv_at hl 3 rfl) ?_
        refine lv_iload hx hb dX2_expand_46 (lv_at hl 6 rfl) ?_
        refine pw_iald hx hb hK hrow (k) (by omega) (by omega) (by omega) dX2_expand_48 ?_
        refine pw_if_eq (tgt := 77) hx hb dX2_expand_49 (by decide) (fun c_49 => ?_) (fun c_49 => ?_) (by rw [hRk]; omega) (by rw [hRk]; omega)
        · refine lv_iload hx hb dX2_expand_77 (lv_at hl 5 rfl) ?_
          refine pw_ineg hx hb dX2_expand_79 ?_
          refine lv_istore (lv' := [(5, .int (iI (-(sg)))), (0, .ref (e0)), (1, .int (iI ((cols : Int)))), (2, .int (iI ((n : Int)))), (3, .ref (e0 + 2 + pm)), (4, .ref (e0 + 9 + 2 * cols)), (6, .int (iI (((k + 1 : Nat) : Int) - 1)))]) hx hb dX2_expand_80 hl (by decide) rfl (fun ls hl => ?_)
          refine lv_iinc (v := iI ((k : Int) - 1)) (lv' := [(6, .int (iI ((k : Int) - 1))), (5, .int (iI (-(sg)))), (0, .ref (e0)), (1, .int (iI ((cols : Int)))), (2, .int (iI ((n : Int)))), (3, .ref (e0 + 2 + pm)), (4, .ref (e0 + 9 + 2 * cols))]) hx hb dX2_expand_82 hl (k := 6) rfl (by show iI _ + iI _ = _; exact (iI_add _ _).trans (by first | rfl | (congr 1; omega))) (by decide) rfl (fun ls hl => ?_)
          refine lv_goto (tgt := 31) hx hb dX2_expand_85 (by decide) ?_
          have hz : Mx pm k = 0 := by rw [← hRk]; exact c_49
          rw [hz, Int.zero_mul, Int.mul_zero] at hinv
          exact ih (-sg) f _ _ _ (by omega) (by omega) (by rw [Int.neg_mul]; omega) (fun j => Nat.le_trans (hfb j) (Nat.mul_le_mul_right _ (by omega))) hEO hEQ hEM hRS hMX hR hS (lv_sub hl [2, 3, 4, 5, 6, 1, 0] rfl)
        · refine lv_aload hx hb dX2_expand_52 (lv_at hl 4 rfl) ?_
          refine lv_aload_n hx hb dX2_expand_54 rfl (lv_at hl 0 rfl) ?_
          refine pw_get (C := RX2) (T := TX2) (N := 2) hx hb hts hin2 hown hK hEO rfl 1 (by decide) lk_18 rfl rfl dX2_expand_55 ?_
          refine lv_iload_n hx hb dX2_expand_58 rfl (lv_at hl 1 rfl) ?_
          refine pw_iconst hx hb dX2_expand_59 ?_
          refine lv_iload hx hb dX2_expand_60 (lv_at hl 6 rfl) ?_
          refine pw_asi (k : Int) ek ?_
          refine lv_ishl hx hb dX2_expand_62 ?_
          refine pw_eqi (((2 ^ k : Nat) : Int)) jb3 ?_
          refine lv_ixor hx hb dX2_expand_63 ?_
          refine pw_eqi ((((cols ^^^ 2 ^ k) : Nat) : Int)) jb4 ?_
          refine pw_qald hx hb hK hEM rfl ((cols ^^^ 2 ^ k)) rfl (by omega) (by omega) rfl dX2_expand_64 ?_
          refine lv_iload hx hb dX2_expand_65 (lv_at hl 5 rfl) ?_
          refine pw_i2l hx hb dX2_expand_67 ?_
          refine lv_aload_n hx hb dX2_expand_68 rfl (lv_at hl 3 rfl) ?_
          refine lv_iload hx hb dX2_expand_69 (lv_at hl 6 rfl) ?_
          refine pw_iald hx hb hK hrow (k) (by omega) (by omega) (by omega) dX2_expand_71 ?_
          have hrr : -2147483648 ≤ R pm k ∧ R pm k ≤ 2147483647 := by rw [hRk]; omega
          refine pw_i2l hx hb dX2_expand_72 ?_
          refine pw_lmul hx hb dX2_expand_73 ?_
          refine pw_callVv (As := [.ref (e0 + 9 + 2 * (cols ^^^ 2 ^ k)), .long (lI ((sg) * ((R pm) (k))))]) (rest := []) ⟨hx, hb, hml, hown, hts⟩ (c_add l D E (e0 + 9 + 2 * cols) 8 (e0 + 9 + 2 * (cols ^^^ 2 ^ k)) 8 f 0 0 (mn (cols ^^^ 2 ^ k)) (sg * R pm k) (by omega) (by omega) (by omega)) (cwV 2 hts gX2_expand_X8_add rfl rfl rfl (by decide +kernel) ⟨Nat.le_of_ble_eq_true rfl, Nat.le_of_ble_eq_true rfl⟩) hK hR.1 rfl ⟨hR, hMX (cols ^^^ 2 ^ k) (by omega) (by omega)⟩ rfl hl.1 rfl (Nat.le_of_ble_eq_true rfl) dX2_expand_74 ⟨Nat.zero_le _, Nat.zero_le _⟩ hS (fun q h => h) (fun H1 locs1 hR hz1 hk1 hS => ?_)
          have hEO := hEO.k (hk1 _ hEO.lt (by (try dsimp only); omega))
          have hEQ := hEQ.k (hk1 _ hEQ.lt (by (try dsimp only); omega))
          have hEM := hEM.k (hk1 _ hEM.lt (by (try dsimp only); omega))
          have hRS := hRS.k (fun q h1 h2 h3 => (hk1 _ h3 (by (try dsimp only); omega)))
          have hrow := hrow.k (hk1 _ hrow.lt (by (try dsimp only); omega))
          have hMX := hMX.k (fun q h1 h2 h3 => (hk1 _ h3 (by (try dsimp only); omega)))
          refine lv_iload hx hb dX2_expand_77 (lv_at hl 5 rfl) ?_
          refine pw_ineg hx hb dX2_expand_79 ?_
          refine lv_istore (lv' := [(5, .int (iI (-(sg)))), (0, .ref (e0)), (1, .int (iI ((cols : Int)))), (2, .int (iI ((n : Int)))), (3, .ref (e0 + 2 + pm)), (4, .ref (e0 + 9 + 2 * cols)), (6, .int (iI (((k + 1 : Nat) : Int) - 1)))]) hx hb dX2_expand_80 hl (by decide) rfl (fun ls hl => ?_)
          refine lv_iinc (v := iI ((k : Int) - 1)) (lv' := [(6, .int (iI ((k : Int) - 1))), (5, .int (iI (-(sg)))), (0, .ref (e0)), (1, .int (iI ((cols : Int)))), (2, .int (iI ((n : Int)))), (3, .ref (e0 + 2 + pm)), (4, .ref (e0 + 9 + 2 * cols))]) hx hb dX2_expand_82 hl (k := 6) rfl (by show iI _ + iI _ = _; exact (iI_add _ _).trans (by first | rfl | (congr 1; omega))) (by decide) rfl (fun ls hl => ?_)
          refine lv_goto (tgt := 31) hx hb dX2_expand_85 (by decide) ?_
          have hvb := (hMX (cols ^^^ 2 ^ k) (by omega) (by omega)).b
          have hsb : (sg * R pm k).natAbs ≤ 2400000 := by rw [hRk, Int.natAbs_mul]; rcases hsg with h | h <;> rw [h] <;> simp <;> exact hMk
          refine ih (-sg) _ _ _ _ (by omega) (by omega) ?_ (fun j => by have h1 := hfb j; have h2 := dig_b hsb (mn (cols ^^^ 2 ^ k)) j; omega) hEO hEQ hEM hRS hMX hR hS (lv_sub hl [2, 3, 4, 5, 6, 1, 0] rfl)
          rw [wv_lin, wv_wdig hvb, Int.neg_mul, hRk, hmk, Int.mul_assoc]
          omega
  refine lv_aload_n hx hb dX2_expand_0 rfl (lv_at hl 0 rfl) ?_
  refine pw_get (C := RX2) (T := TX2) (N := 2) hx hb hts hin2 hown hK hEO rfl 0 (by decide) lk_11 rfl rfl dX2_expand_1 ?_
  refine lv_iload_n hx hb dX2_expand_4 rfl (lv_at hl 1 rfl) ?_
  refine pw_callSi (As := [.int (iI ((cols : Int)))]) (rest := [.ref (e0 + 1)]) ⟨hx, hb, hml, hown, hts⟩ (c_bitCount l D E cols hcl) (va_cwS 1 hts gX2_expand_J6_bitCount_0f7a4 rfl rfl rfl (by decide +kernel) ⟨Nat.le_of_ble_eq_true rfl, Nat.le_of_ble_eq_true rfl⟩) hK trivial rfl hl.1 rfl (Nat.le_of_ble_eq_true rfl) dX2_expand_5 ⟨Nat.zero_le _, Nat.zero_le _⟩ hS (fun q h => h.elim) (fun z H1 locs1 hz hz1 hk1 hS => ?_)
  have hEO := hEO.k (hk1 _ hEO.lt (fun h => h))
  have hEQ := hEQ.k (hk1 _ hEQ.lt (fun h => h))
  have hEM := hEM.k (hk1 _ hEM.lt (fun h => h))
  have hRS := hRS.k (fun q h1 h2 h3 => (hk1 _ h3 (fun h => h)))
  have hrow := hrow.k (hk1 _ hrow.lt (fun h => h))
  have hMX := hMX.k (fun q h1 h2 h3 => (hk1 _ h3 (fun h => h)))
  have hR := hR.k (hk1 _ hR.1.lt (fun h => h)) (hk1 _ hR.2.lt (fun h => h))
  rw [hpm] at hz
  subst hz
  refine pw_iconst hx hb dX2_expand_8 ?_
  refine pw_isub hx hb dX2_expand_9 ?_
  refine pw_qalda hx hb hK hEQ (pm) (by omega) (by omega) (by omega) rfl dX2_expand_10 ?_
  refine lv_astore_n (lv' := [(3, .ref (e0 + 2 + pm)), (0, .ref (e0)), (1, .int (iI ((cols : Int)))), (2, .int (iI ((n : Int))))]) hx hb dX2_expand_11 rfl hl (by decide) rfl (fun ls hl => ?_)
  refine lv_aload_n hx hb dX2_expand_12 rfl (lv_at hl 1 rfl) ?_
  refine pw_get (C := RX2) (T := TX2) (N := 2) hx hb hts hin2 hown hK hEO rfl 1 (by decide) lk_18 rfl rfl dX2_expand_13 ?_
  refine lv_iload_n hx hb dX2_expand_16 rfl (lv_at hl 2 rfl) ?_
  refine pw_qald hx hb hK hEM rfl (cols) rfl (by omega) (by omega) rfl dX2_expand_17 ?_
  refine lv_astore (lv' := [(4, .ref (e0 + 9 + 2 * cols)), (3, .ref (e0 + 2 + pm)), (0, .ref (e0)), (1, .int (iI ((cols : Int)))), (2, .int (iI ((n : Int))))]) hx hb dX2_expand_18 hl (by decide) rfl (fun ls hl => ?_)
  refine lv_aload hx hb dX2_expand_20 (lv_at hl 0 rfl) ?_
  refine pw_callVv (As := []) (rest := []) ⟨hx, hb, hml, hown, hts⟩ (c_clear l D E (e0 + 9 + 2 * cols) 8 (wdig (mn cols)) kz (mn cols).sign (by omega)) (cwV 0 hts gX2_expand_X8_clear rfl rfl rfl (by decide +kernel) ⟨Nat.le_of_ble_eq_true rfl, Nat.le_of_ble_eq_true rfl⟩) hK hR.1 rfl hR rfl hl.1 rfl (Nat.le_of_ble_eq_true rfl) dX2_expand_22 ⟨Nat.zero_le _, Nat.zero_le _⟩ hS (fun q h => h) (fun H1 locs1 hR hz1 hk1 hS => ?_)
  have hEO := hEO.k (hk1 _ hEO.lt (by (try dsimp only); omega))
  have hEQ := hEQ.k (hk1 _ hEQ.lt (by (try dsimp only); omega))
  have hEM := hEM.k (hk1 _ hEM.lt (by (try dsimp only); omega))
  have hRS := hRS.k (fun q h1 h2 h3 => (hk1 _ h3 (by (try dsimp only); omega)))
  have hrow := hrow.k (hk1 _ hrow.lt (by (try dsimp only); omega))
  have hMX := hMX.k (fun q h1 h2 h3 => (hk1 _ h3 (by (try dsimp only); omega)))
  refine pw_iconst hx hb dX2_expand_25 ?_
  refine lv_istore (lv' := [(5, .int (iI (1))), (4, .ref (e0 + 9 + 2 * cols)), (3, .ref (e0 + 2 + pm)), (0, .ref (e0)), (1, .int (iI ((cols : Int)))), (2, .int (iI ((n : Int))))]) hx hb dX2_expand_26 hl (by decide) rfl (fun ls hl => ?_)
  refine lv_iload_n hx hb dX2_expand_28 rfl (lv_at hl 5 rfl) ?_
  refine lv_istore (lv' := [(6, .int (iI ((n : Int)))), (5, .int (iI (1))), (4, .ref (e0 + 9 + 2 * cols)), (3, .ref (e0 + 2 + pm)), (0, .ref (e0)), (1, .int (iI ((cols : Int)))), (2, .int (iI ((n : Int))))]) hx hb dX2_expand_29 hl (by decide) rfl (fun ls hl => ?_)
  have hl : lv_has ls 7 [(0, .ref (e0)), (1, .int (iI ((cols : Int)))), (2, .int (iI ((n : Int)))), (3, .ref (e0 + 2 + pm)), (4, .ref (e0 + 9 + 2 * cols)), (5, .int (iI (1))), (6, .int (iI (((n + 1 : Nat) : Int) - 1)))] := by rw [show ((n + 1 : Nat) : Int) - 1 = (n : Int) by omega]; exact lv_sub hl [4, 5, 6, 3, 2, 1, 0] rfl
  have ht0 := hi_top (show n < 7 by omega) (show cols < 2 ^ (n + 1) by omega)
  have hsp := bl_split hcl (show n + 1 < 8 by omega)
  rw [ht0, List.nil_append] at hsp
  refine loop (n + 1) 1 _ _ _ _ (Nat.le_refl _) (Or.inl rfl) ?_ (fun j => by simp) hEO hEQ hEM hRS hMX hR hS hl
  rw [wv_zero, ht0, hTe, hsp]
  simp
