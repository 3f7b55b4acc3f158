/-! the class's whole numbers: product, dropSign, compare -/
theorem bp_add (a b : Nat) : (1000000 : Int) ^ (a + b) = 1000000 ^ a * 1000000 ^ b := Int.pow_add _ _ _
theorem wk_mul {v w : Int} {m1 m2 k1 k2 n : Nat} (h1 : wk v m1 k1) (h2 : wk w m2 k2) (hv : (v * w).natAbs < 1000000 ^ n) : k1 = 0 ∨ k2 = 0 ∨ k1 + k2 ≤ n + 1 := by
  by_cases e1 : k1 = 0
  · exact Or.inl e1
  · by_cases e2 : k2 = 0
    · exact Or.inr (Or.inl e2)
    · refine Or.inr (Or.inr ?_)
      have a1 := h1.2.2 (by omega)
      have a2 := h2.2.2 (by omega)
      rw [Int.natAbs_mul] at hv
      have a3 : 1000000 ^ (k1 - 1) * 1000000 ^ (k2 - 1) ≤ v.natAbs * w.natAbs := Nat.mul_le_mul a1 a2
      rw [← Nat.pow_add] at a3
      have a4 : 1000000 ^ (k1 - 1 + (k2 - 1)) < 1000000 ^ n := Nat.lt_of_le_of_lt a3 hv
      have a5 := (Nat.pow_lt_pow_iff_right (a := 1000000) (by omega)).mp a4
      omega
theorem mul_b {x y : Int} (hx : -1000000 < x ∧ x < 1000000) (hy : -1000000 < y ∧ y < 1000000) : -1000000000000 ≤ x * y ∧ x * y ≤ 1000000000000 := by
  have h : (x * y).natAbs ≤ 1000000 * 1000000 := by rw [Int.natAbs_mul]; exact Nat.mul_le_mul (by omega) (by omega)
  omega
theorem wdig_abs {v : Int} (h : v < 0) (j : Nat) : wdig (v.natAbs : Int) j = - wdig v j := by
  unfold wdig
  rw [if_pos h, if_neg (by omega), Int.natAbs_natCast]
  omega
theorem abs_pos {v : Int} (h : 0 ≤ v) : (v.natAbs : Int) = v := by omega
theorem wv_tail {f g : Nat → Int} {k : Nat} : ∀ {n : Nat}, k ≤ n → (∀ j, k ≤ j → j < n → f j = g j) → wv f n - wv f k = wv g n - wv g k
  | 0, h, _ => by rw [show k = 0 by omega]; simp [wv]
  | n + 1, h, hfg => by
    by_cases e : k = n + 1
    · rw [e]; omega
    · have ih := wv_tail (n := n) (by omega) (fun j h1 h2 => hfg j h1 (by omega))
      have e2 := hfg n (by omega) (by omega)
      show wv f n + f n * _ - _ = wv g n + g n * _ - _
      rw [e2]
      omega
theorem wdig_sg {v : Int} (j : Nat) : (0 ≤ v → 0 ≤ wdig v j) ∧ (v ≤ 0 → wdig v j ≤ 0) := by
  constructor
  · intro h
    unfold wdig
    rw [if_neg (by omega)]
    omega
  · intro h
    by_cases e : v < 0
    · unfold wdig
      rw [if_pos e]
      omega
    · rw [show v = 0 by omega, wdig_0]
      omega
theorem wv_wlt {v : Int} (k : Nat) : (0 ≤ v → 0 ≤ wv (wdig v) k ∧ wv (wdig v) k < 1000000 ^ k) ∧ (v ≤ 0 → wv (wdig v) k ≤ 0 ∧ -(1000000 ^ k) < wv (wdig v) k) := by
  constructor
  · intro h
    obtain ⟨a, b, _⟩ := dig_pos (d := wdig v) (n := k) (fun j _ => ⟨(wdig_sg j).1 h, (wdig_b v j).2⟩)
    exact ⟨a, b⟩
  · intro h
    obtain ⟨a, b, _⟩ := dig_neg (d := wdig v) (n := k) (fun j _ => ⟨(wdig_b v j).1, (wdig_sg j).2 h⟩)
    exact ⟨a, b⟩
/-- the highest limb that differs decides -/
theorem cmp_lt {v w : Int} {n k : Nat} (hv : v.natAbs < 1000000 ^ n) (hw : w.natAbs < 1000000 ^ n) (hk : k < n) (h : ∀ j, k + 1 ≤ j → j < n → wdig v j = wdig w j) (hlt : wdig v k < wdig w k) : v < w := by
  have e1 := wv_wdig hv
  have e2 := wv_wdig hw
  have e3 := wv_tail (f := wdig v) (g := wdig w) (k := k + 1) (n := n) (by omega) h
  have e4 : wv (wdig v) (k + 1) = wv (wdig v) k + wdig v k * 1000000 ^ k := rfl
  have e5 : wv (wdig w) (k + 1) = wv (wdig w) k + wdig w k * 1000000 ^ k := rfl
  have hp := bp_posI k
  have e6 : wdig v k * 1000000 ^ k ≤ (wdig w k - 1) * 1000000 ^ k := Int.mul_le_mul_of_nonneg_right (by omega) (by omega)
  rw [Int.sub_mul] at e6
  have a1 := wv_wlt (v := v) k
  have a2 := wv_wlt (v := w) k
  have s1 := wdig_sg (v := v) k
  have s2 := wdig_sg (v := w) k
  by_cases c1 : 0 ≤ v
  · by_cases c2 : 0 ≤ w
    · have := a1.1 c1
      have := a2.1 c2
      omega
    · have := s1.1 c1
      have := s2.2 (by omega)
      omega
  · by_cases c2 : 0 ≤ w
    · omega
    · have := a1.2 (by omega)
      have := a2.2 (by omega)
      omega
theorem cmp_eq {v w : Int} {n : Nat} (hv : v.natAbs < 1000000 ^ n) (hw : w.natAbs < 1000000 ^ n) (h : ∀ j, j < n → wdig v j = wdig w j) : v = w := by
  rw [← wv_wdig hv, ← wv_wdig hw, wv_congr h]
theorem wdig_at {v : Int} {n k j : Nat} (h : wk v n k) : (if 0 ≤ (j : Int) ∧ (j : Int) < (k : Int) then wdig v (j : Int).toNat else 0) = wdig v j := by
  by_cases e : j < k
  · rw [if_pos (by omega), Int.toNat_natCast]
  · rw [if_neg (by omega), wdig_hi h (by omega)]
set_option maxHeartbeats 4000000 in
set_option maxRecDepth 100000 in
/-- product(one, other) -/
theorem c_product (l : Launch) (D : va_G) (E : Nat → ClassId) (a n b nb c0 nc : Nat) (f : Nat → Int) (sz sg v w : Int) (hn : n < 1000) (hnb : nb < 1000) (hnc : nc < 1000) (hab : a + 1 < b ∨ b + 1 < a) (hac : a + 1 < c0 ∨ c0 + 1 < a) (hv1 : -(1000000 ^ n) < v * w) (hv2 : v * w < 1000000 ^ n) : pw_M rvV l D E yX8_product wsX8_product ({ frames := 2, cells := 0, slots := 0, locals := 50 } : Room) [.ref (a), .ref (b), .ref (c0)] (fun H => WR D E a n f sz sg H ∧ WH D E b nb v H ∧ WH D E c0 nc w H) (fun _ H => WH D E a n (v * w) H) (fun q => q = a ∨ q = a + 1) (0) (0) := by
  refine pw_of (cc := cX8_product) (maxL := 6) (ret := none) (by decide +kernel) rfl (Nat.le_of_ble_eq_true rfl) ?_
  intro p e s m args below meth c hx hb hr hml hts hown hlocks hini hK ⟨⟨hO, hL⟩, ⟨kb, ⟨hOb, hLb⟩, hkb⟩, kc, ⟨hOc, hLc⟩, hkc⟩ ls hl
  have hown : s.vm.findClass RX8 = some m.cls := hown
  have hl : lv_has ls 6 [(0, .ref (a)), (1, .ref (b)), (2, .ref (c0))] := hl
  have hS : va_S (fun q => q = a ∨ q = a + 1) s.heap s.heap [] := va_S.rf
  have lk_7 := hts (.fieldLink RX8 7 "PolicyWorks$Whole" "limbs" "[J") (by decide +kernel)
  have lk_13 := hts (.fieldLink RX8 13 "PolicyWorks$Whole" "size" "I") (by decide +kernel)
  have hin8 : ∀ w ∈ wsX80, w ∈ wsX8_product := by decide +kernel
  have hkb1 := hkb.1
  have hkc1 := hkc.1
  have hkk := wk_mul hkb hkc (nat_lt hv1 hv2)
  have evb : wv (wdig v) kb = v := wv_wdig hkb.2.1
  have evc : wv (wdig w) kc = w := wv_wdig hkc.2.1
  have inner : ∀ (i : Nat), i < kb → (∀ (g : Nat → Int) (H : Heap) (locs : List Loc) (ls : Array Slot), wv g n = wv (wdig v) (i + 1) * w → (∀ q, q < n → -(1000 * ((i : Int) + 1) * 1000000000000) ≤ g q ∧ g q ≤ 1000 * ((i : Int) + 1) * 1000000000000) → OA D (a) 8 [.ref (a + 1), .int (iI (0)), .int (iI (0))] H → LA E (a + 1) n g H → OA D (b) 8 [.ref (b + 1), .int (iI ((kb : Int))), .int (iI (v.sign))] H → LA E (b + 1) nb (wdig v) H → OA D (c0) 8 [.ref (c0 + 1), .int (iI ((kc : Int))), .int (iI (w.sign))] H → LA E (c0 + 1) nc (wdig w) H → va_S (fun q => q = a ∨ q = a + 1) s.heap H locs → lv_has ls 6 [(0, .ref (a)), (1, .ref (b)), (2, .ref (c0)), (3, .int (iI (((i + 1 : Nat) : Int))))] → W p l e ({ frames := 2, cells := 0, slots := 0, locals := 50 } : Room) s m args below meth c H locs (0) (0) (MQ below (pw_Q rvV (fun _ H => WH D E a n (v * w) H) (fun q => q = a ∨ q = a + 1)) args s (0) (0) (fun q => q = a ∨ q = a + 1)) (F0 m 6 ls [])) → ∀ (k j : Nat) (g : Nat → Int) (H : Heap) (locs : List Loc) (ls : Array Slot), j + k = kc → wv g n = wv (wdig v) i * w + wdig v i * wv (wdig w) j * 1000000 ^ i → (∀ q, q < n → -((1000 * (i : Int) + j) * 1000000000000) ≤ g q ∧ g q ≤ (1000 * (i : Int) + j) * 1000000000000) → OA D (a) 8 [.ref (a + 1), .int (iI (0)), .int (iI (0))] H → LA E (a + 1) n g H → OA D (b) 8 [.ref (b + 1), .int (iI ((kb : Int))), .int (iI (v.sign))] H → LA E (b + 1) nb (wdig v) H → OA D (c0) 8 [.ref (c0 + 1), .int (iI ((kc : Int))), .int (iI (w.sign))] H → LA E (c0 + 1) nc (wdig w) H → va_S (fun q => q = a ∨ q = a + 1) s.heap H locs → lv_has ls 6 [(0, .ref (a)), (1, .ref (b)), (2, .ref (c0)), (3, .int (iI ((i : Int)))), (4, .int (iI (min (kc : Int) ((n : Int) - (i : Int))))), (5, .int (iI ((j : Int))))] → W p l e ({ frames := 2, cells := 0, slots := 0, locals := 50 } : Room) s m args below meth c H locs (0) (0) (MQ below (pw_Q rvV (fun _ H => WH D E a n (v * w) H) (fun q => q = a ∨ q = a + 1)) args s (0) (0) (fun q => q = a ∨ q = a + 1)) (F0 m 33 ls []) := by
    intro i hi next k
    induction k with
    | zero =>
      intro j g H locs ls hj hw hbd hO hL hOb hLb hOc hLc hS hl
      refine lv_iload hx hb dX8_product_33 (lv_at hl 5 rfl) ?_
      refine lv_iload hx hb dX8_product_35 (lv_at hl 4 rfl) ?_
      refine pw_icmp_ge (tgt := 72) hx hb dX8_product_37 (by decide) (fun c_37 => ?_) (fun c_37 => absurd c_37 (by omega))
      refine lv_iinc (v := iI (((i + 1 : Nat) : Int))) (lv' := [(3, .int (iI (((i + 1 : Nat) : Int)))), (0, .ref (a)), (1, .ref (b)), (2, .ref (c0)), (4, .int (iI (min (kc : Int) ((n : Int) - (i : Int))))), (5, .int (iI ((j : Int))))]) hx hb dX8_product_72 hl (k := 3) rfl (by show iI _ + iI _ = _; rw [iI_add]; first | rfl | (congr 1; omega)) (by decide) rfl (fun ls hl => ?_)
      refine lv_goto (tgt := 6) hx hb dX8_product_75 (by decide) ?_
      have ej : j = kc := by omega
      subst ej
      refine next _ _ _ _ ?_ (fun q hq => by have := hbd q hq; omega) hO hL hOb hLb hOc hLc hS (lv_sub hl [1, 2, 3, 0] rfl)
      show wv g n = (wv (wdig v) i + wdig v i * 1000000 ^ i) * w
      rw [hw, evc, Int.add_mul, Int.mul_assoc, Int.mul_assoc, Int.mul_comm w]
    | succ k ih =>
      intro j g H locs ls hj hw hbd hO hL hOb hLb hOc hLc hS hl
      have hq := hbd (i + j) (by omega)
      have hm := mul_b (wdig_b v i) (wdig_b w j)
      refine lv_iload hx hb dX8_product_33 (lv_at hl 5 rfl) ?_
      refine lv_iload hx hb dX8_product_35 (lv_at hl 4 rfl) ?_
      refine pw_icmp_ge (tgt := 72) hx hb dX8_product_37 (by decide) (fun c_37 => absurd c_37 (by omega)) (fun c_37 => ?_)
      refine lv_aload_n hx hb dX8_product_40 rfl (lv_at hl 0 rfl) ?_
      refine pw_get (C := RX8) (T := TX8) (N := 3) hx hb hts hin8 hown hK hO rfl 0 (by decide) lk_7 rfl rfl dX8_product_41 ?_
      refine lv_iload_n hx hb dX8_product_44 rfl (lv_at hl 3 rfl) ?_
      refine lv_iload hx hb dX8_product_45 (lv_at hl 5 rfl) ?_
      refine pw_iadd hx hb dX8_product_47 ?_
      refine pw_asi (((i + j : Nat) : Int)) (by omega) ?_
      refine lv_dup2_11 hx hb dX8_product_48 rfl rfl ?_
      refine pw_lald hx hb hK hL (i + j) rfl (by omega) (by omega) dX8_product_49 ?_
      refine lv_aload_n hx hb dX8_product_50 rfl (lv_at hl 1 rfl) ?_
      refine pw_get (C := RX8) (T := TX8) (N := 3) hx hb hts hin8 hown hK hOb rfl 0 (by decide) lk_7 rfl rfl dX8_product_51 ?_
      refine lv_iload_n hx hb dX8_product_54 rfl (lv_at hl 3 rfl) ?_
      refine pw_lald hx hb hK hLb (i) rfl (by omega) (by omega) dX8_product_55 ?_
      refine lv_aload_n hx hb dX8_product_56 rfl (lv_at hl 2 rfl) ?_
      refine pw_get (C := RX8) (T := TX8) (N := 3) hx hb hts hin8 hown hK hOc rfl 0 (by decide) lk_7 rfl rfl dX8_product_57 ?_
      refine lv_iload hx hb dX8_product_60 (lv_at hl 5 rfl) ?_
      refine pw_lald hx hb hK hLc (j) rfl (by omega) (by omega) dX8_product_62 ?_
      refine pw_lmul hx hb dX8_product_63 ?_
      refine pw_ladd hx hb dX8_product_64 ?_
      refine pw_last hx hb hK hL hS (Or.inr rfl) (i + j) rfl (by omega) (by omega) dX8_product_65 (fun H1 locs1 hnew hz1 oq hS => ?_)
      have hO := hO.k (oq _ (by omega))
      have hOb := hOb.k (oq _ (by omega))
      have hLb := hLb.k (oq _ (by omega))
      have hOc := hOc.k (oq _ (by omega))
      have hLc := hLc.k (oq _ (by omega))
      have hL := hnew
      clear hnew oq hz1
      refine lv_iinc (v := iI (((j + 1 : Nat) : Int))) (lv' := [(5, .int (iI (((j + 1 : Nat) : Int)))), (0, .ref (a)), (1, .ref (b)), (2, .ref (c0)), (3, .int (iI ((i : Int)))), (4, .int (iI (min (kc : Int) ((n : Int) - (i : Int)))))]) hx hb dX8_product_66 hl (k := 5) rfl (by show iI _ + iI _ = _; rw [iI_add]; first | rfl | (congr 1; omega)) (by decide) rfl (fun ls hl => ?_)
      refine lv_goto (tgt := 33) hx hb dX8_product_69 (by decide) ?_
      refine ih (j + 1) _ _ _ _ (by omega) ?_ (fun q hq1 => by
        by_cases e : q = i + j
        · rw [e, ud_s]; omega
        · rw [ud_n _ _ e]; have := hbd q hq1; omega) hO hL hOb hLb hOc hLc hS (lv_sub hl [1, 2, 3, 4, 5, 0] rfl)
      rw [wv_ud _ _ _ _ (by omega), hw]
      show _ = wv (wdig v) i * w + wdig v i * (wv (wdig w) j + wdig w j * 1000000 ^ j) * 1000000 ^ i
      rw [bp_add, Int.mul_add, Int.add_mul]
      have e1 : (g (i + j) + wdig v i * wdig w j - g (i + j)) = wdig v i * wdig w j := by omega
      rw [e1, Int.mul_comm (1000000 ^ i) (1000000 ^ j), ← Int.mul_assoc, ← Int.mul_assoc]
      omega
  have outer : ∀ (k i : Nat) (g : Nat → Int) (H : Heap) (locs : List Loc) (ls : Array Slot), i + k = kb → wv g n = wv (wdig v) i * w → (∀ q, q < n → -(1000 * (i : Int) * 1000000000000) ≤ g q ∧ g q ≤ 1000 * (i : Int) * 1000000000000) → OA D (a) 8 [.ref (a + 1), .int (iI (0)), .int (iI (0))] H → LA E (a + 1) n g H → OA D (b) 8 [.ref (b + 1), .int (iI ((kb : Int))), .int (iI (v.sign))] H → LA E (b + 1) nb (wdig v) H → OA D (c0) 8 [.ref (c0 + 1), .int (iI ((kc : Int))), .int (iI (w.sign))] H → LA E (c0 + 1) nc (wdig w) H → va_S (fun q => q = a ∨ q = a + 1) s.heap H locs → lv_has ls 6 [(0, .ref (a)), (1, .ref (b)), (2, .ref (c0)), (3, .int (iI ((i : Int))))] → W p l e ({ frames := 2, cells := 0, slots := 0, locals := 50 } : Room) s m args below meth c H locs (0) (0) (MQ below (pw_Q rvV (fun _ H => WH D E a n (v * w) H) (fun q => q = a ∨ q = a + 1)) args s (0) (0) (fun q => q = a ∨ q = a + 1)) (F0 m 6 ls []) := by
    intro k
    induction k with
    | zero =>
      intro i g H locs ls hi hw hbd hO hL hOb hLb hOc hLc hS hl
      have ei : i = kb := by omega
      subst ei
      rw [evb] at hw
      refine lv_iload_n hx hb dX8_product_6 rfl (lv_at hl 3 rfl) ?_
      refine lv_aload_n hx hb dX8_product_7 rfl (lv_at hl 1 rfl) ?_
      refine pw_get (C := RX8) (T := TX8) (N := 3) hx hb hts hin8 hown hK hOb rfl 1 (by decide) lk_13 rfl rfl dX8_product_8 ?_
      refine pw_icmp_ge (tgt := 78) hx hb dX8_product_11 (by decide) (fun c_11 => ?_) (fun c_11 => absurd c_11 (by omega))
      refine lv_aload_n hx hb dX8_product_78 rfl (lv_at hl 0 rfl) ?_
      refine pw_callVv (As := []) (rest := []) ⟨hx, hb, hml, hown, hts⟩ (c_settle l D E a n g 0 0 hn (fun q hq => by have := hbd q hq; omega) (by rw [hw]; exact hv1) (by rw [hw]; exact hv2)) (cwV 0 hts gX8_product_X8_settle rfl rfl rfl (by decide +kernel) ⟨Nat.le_of_ble_eq_true rfl, Nat.le_of_ble_eq_true rfl⟩) hK hO rfl ⟨hO, hL⟩ rfl hl.1 rfl (by decide) dX8_product_79 ⟨Nat.zero_le _, Nat.zero_le _⟩ hS (fun q h => h) (fun H1 locs1 hW hz1 hk1 hS => ?_)
      have hOb := hOb.k (hk1 _ hOb.lt (by (try dsimp only); omega))
      have hLb := hLb.k (hk1 _ hLb.lt (by (try dsimp only); omega))
      have hOc := hOc.k (hk1 _ hOc.lt (by (try dsimp only); omega))
      have hLc := hLc.k (hk1 _ hLc.lt (by (try dsimp only); omega))
      rw [hw] at hW
      exact pw_vret hx hb hr hlocks hS hW dX8_product_82
    | succ k ih =>
      intro i g H locs ls hi hw hbd hO hL hOb hLb hOc hLc hS hl
      refine lv_iload_n hx hb dX8_product_6 rfl (lv_at hl 3 rfl) ?_
      refine lv_aload_n hx hb dX8_product_7 rfl (lv_at hl 1 rfl) ?_
      refine pw_get (C := RX8) (T := TX8) (N := 3) hx hb hts hin8 hown hK hOb rfl 1 (by decide) lk_13 rfl rfl dX8_product_8 ?_
      refine pw_icmp_ge (tgt := 78) hx hb dX8_product_11 (by decide) (fun c_11 => absurd c_11 (by omega)) (fun c_11 => ?_)
      refine lv_aload_n hx hb dX8_product_14 rfl (lv_at hl 2 rfl) ?_
      refine pw_get (C := RX8) (T := TX8) (N := 3) hx hb hts hin8 hown hK hOc rfl 1 (by decide) lk_13 rfl rfl dX8_product_15 ?_
      refine lv_aload_n hx hb dX8_product_18 rfl (lv_at hl 0 rfl) ?_
      refine pw_get (C := RX8) (T := TX8) (N := 3) hx hb hts hin8 hown hK hO rfl 0 (by decide) lk_7 rfl rfl dX8_product_19 ?_
      refine pw_alen (n := n) (k0 := 1) hx hb hK hL rfl rfl dX8_product_22 ?_
      refine lv_iload_n hx hb dX8_product_23 rfl (lv_at hl 3 rfl) ?_
      refine pw_isub hx hb dX8_product_24 ?_
      refine pw_mmin hx hb (hml.trans hl.1.symm) hown hts (by decide +kernel) (Nat.le_of_ble_eq_true rfl) (Nat.le_of_ble_eq_true rfl) (Nat.le_of_ble_eq_true rfl) (Nat.le_of_ble_eq_true rfl) dX8_product_25 ?_
      refine lv_istore (lv' := [(4, .int (iI (min ((kc : Int)) (((n : Int)) - ((i : Int)))))), (0, .ref (a)), (1, .ref (b)), (2, .ref (c0)), (3, .int (iI ((i : Int))))]) hx hb dX8_product_28 hl (by decide) rfl (fun ls hl => ?_)
      refine pw_iconst hx hb dX8_product_30 ?_
      refine lv_istore (lv' := [(5, .int (iI (0))), (4, .int (iI (min ((kc : Int)) (((n : Int)) - ((i : Int)))))), (0, .ref (a)), (1, .ref (b)), (2, .ref (c0)), (3, .int (iI ((i : Int))))]) hx hb dX8_product_31 hl (by decide) rfl (fun ls hl => ?_)
      exact inner i (by omega) (fun g H locs ls h1 h2 hO hL hOb hLb hOc hLc hS hl => ih (i + 1) g H locs ls (by omega) h1 (fun q hq => by have := h2 q hq; omega) hO hL hOb hLb hOc hLc hS hl) kc 0 g _ _ _ (by omega) (by rw [hw]; simp [wv]) (fun q hq => by have := hbd q hq; omega) hO hL hOb hLb hOc hLc hS (lv_sub hl [2, 3, 4, 5, 1, 0] rfl)
  refine lv_aload_n hx hb dX8_product_0 rfl (lv_at hl 0 rfl) ?_
  refine pw_callVv (As := []) (rest := []) ⟨hx, hb, hml, hown, hts⟩ (c_clear l D E a n f sz sg hn) (cwV 0 hts gX8_product_X8_clear rfl rfl rfl (by decide +kernel) ⟨Nat.le_of_ble_eq_true rfl, Nat.le_of_ble_eq_true rfl⟩) hK hO rfl ⟨hO, hL⟩ rfl hl.1 rfl (by decide) dX8_product_1 ⟨Nat.zero_le _, Nat.zero_le _⟩ hS (fun q h => h) (fun H1 locs1 ⟨hO, hL⟩ hz1 hk1 hS => ?_)
  have hOb := hOb.k (hk1 _ hOb.lt (by (try dsimp only); omega))
  have hLb := hLb.k (hk1 _ hLb.lt (by (try dsimp only); omega))
  have hOc := hOc.k (hk1 _ hOc.lt (by (try dsimp only); omega))
  have hLc := hLc.k (hk1 _ hLc.lt (by (try dsimp only); omega))
  refine pw_iconst hx hb dX8_product_4 ?_
  refine lv_istore_n (lv' := [(3, .int (iI (0))), (0, .ref (a)), (1, .ref (b)), (2, .ref (c0))]) hx hb dX8_product_5 rfl hl (by decide) rfl (fun ls hl => ?_)
  exact outer kb 0 _ _ _ _ (by omega) (by rw [wv_zero]; simp [wv]) (fun q hq => by simp) hO hL hOb hLb hOc hLc hS (lv_sub hl [1, 2, 3, 0] rfl)
set_option maxHeartbeats 4000000 in
set_option maxRecDepth 100000 in
/-- dropSign() -/
theorem c_dropSign (l : Launch) (D : va_G) (E : Nat → ClassId) (a n : Nat) (v : Int) (hn : n < 1000) : pw_M rvV l D E yX8_dropSign wsX8_dropSign ({ frames := 0, cells := 0, slots := 0, locals := 0 } : Room) [.ref (a)] (fun H => WH D E a n v H) (fun _ H => WH D E a n (v.natAbs : Int) H) (fun q => q = a ∨ q = a + 1) (0) (0) := by
  refine pw_of (cc := cX8_dropSign) (maxL := 2) (ret := none) (by decide +kernel) rfl (Nat.le_of_ble_eq_true rfl) ?_
  intro p e s m args below meth c hx hb hr hml hts hown hlocks hini hK ⟨ka, ⟨hO, hL⟩, hka⟩ ls hl
  have hown : s.vm.findClass RX8 = some m.cls := hown
  have hl : lv_has ls 2 [(0, .ref (a))] := hl
  have hS : va_S (fun q => q = a ∨ q = a + 1) s.heap s.heap [] := va_S.rf
  have lk_7 := hts (.fieldLink RX8 7 "PolicyWorks$Whole" "limbs" "[J") (by decide +kernel)
  have lk_13 := hts (.fieldLink RX8 13 "PolicyWorks$Whole" "size" "I") (by decide +kernel)
  have lk_17 := hts (.fieldLink RX8 17 "PolicyWorks$Whole" "sign" "I") (by decide +kernel)
  have hin8 : ∀ w ∈ wsX80, w ∈ wsX8_dropSign := by decide +kernel
  have hka1 := hka.1
  have hsg := sgn_i v
  have hsr : -1 ≤ v.sign ∧ v.sign ≤ 1 := by rw [hsg]; split <;> (try split) <;> omega
  have loop : v < 0 → ∀ (k i : Nat) (g : Nat → Int) (H : Heap) (locs : List Loc) (ls : Array Slot), i + k = ka → (∀ j, j < i → g j = - wdig v j) → (∀ j, i ≤ j → j < n → g j = wdig v j) → OA D (a) 8 [.ref (a + 1), .int (iI ((ka : Int))), .int (iI (v.sign))] H → LA E (a + 1) n g H → va_S (fun q => q = a ∨ q = a + 1) s.heap H locs → lv_has ls 2 [(0, .ref (a)), (1, .int (iI ((i : Int))))] → W p l e ({ frames := 0, cells := 0, slots := 0, locals := 0 } : Room) s m args below meth c H locs (0) (0) (MQ below (pw_Q rvV (fun _ H => WH D E a n (v.natAbs : Int) H) (fun q => q = a ∨ q = a + 1)) args s (0) (0) (fun q => q = a ∨ q = a + 1)) (F0 m 9 ls []) := by
    intro hneg k
    induction k with
    | zero =>
      intro i g H locs ls hi h0 h1 hO hL hS hl
      refine lv_iload_n hx hb dX8_dropSign_9 rfl (lv_at hl 1 rfl) ?_
      refine lv_aload_n hx hb dX8_dropSign_10 rfl (lv_at hl 0 rfl) ?_
      refine pw_get (C := RX8) (T := TX8) (N := 3) hx hb hts hin8 hown hK hO rfl 1 (by decide) lk_13 rfl rfl dX8_dropSign_11 ?_
      refine pw_icmp_ge (tgt := 36) hx hb dX8_dropSign_14 (by decide) (fun c_14 => ?_) (fun c_14 => absurd c_14 (by omega))
      refine lv_aload_n hx hb dX8_dropSign_36 rfl (lv_at hl 0 rfl) ?_
      refine pw_iconst hx hb dX8_dropSign_37 ?_
      refine pw_put (C := RX8) (T := TX8) (N := 3) hx hb hts hin8 tyX8 tyX8_ok nmX8 hown hK hO hS (Or.inl rfl) rfl 2 (by decide) lk_17 rfl rfl rfl rfl (by show _ < 3; decide) dX8_dropSign_38 (fun H1 locs1 hnew hz1 oq hS => ?_)
      have hL := hL.k (oq _ (by omega))
      have hO : OA D (a) 8 [.ref (a + 1), .int (iI ((ka : Int))), .int (iI (1))] H1 := hnew
      clear hnew oq hz1
      exact pw_vret hx hb hr hlocks hS ⟨ka, ⟨by rw [sgn_i, if_neg (by omega), if_neg (by omega)]; exact hO, hL.up (fun j hj => by
        rw [wdig_abs hneg]
        by_cases e : j < i
        · exact h0 j e
        · rw [h1 j (by omega) hj, wdig_hi hka (by omega)]; rfl)⟩, by unfold wk; rw [Int.natAbs_natCast]; exact hka⟩ dX8_dropSign_41
    | succ k ih =>
      intro i g H locs ls hi h0 h1 hO hL hS hl
      have hgi := h1 i (Nat.le_refl i) (by omega)
      refine lv_iload_n hx hb dX8_dropSign_9 rfl (lv_at hl 1 rfl) ?_
      refine lv_aload_n hx hb dX8_dropSign_10 rfl (lv_at hl 0 rfl) ?_
      refine pw_get (C := RX8) (T := TX8) (N := 3) hx hb hts hin8 hown hK hO rfl 1 (by decide) lk_13 rfl rfl dX8_dropSign_11 ?_
      refine pw_icmp_ge (tgt := 36) hx hb dX8_dropSign_14 (by decide) (fun c_14 => absurd c_14 (by omega)) (fun c_14 => ?_)
      refine lv_aload_n hx hb dX8_dropSign_17 rfl (lv_at hl 0 rfl) ?_
      refine pw_get (C := RX8) (T := TX8) (N := 3) hx hb hts hin8 hown hK hO rfl 0 (by decide) lk_7 rfl rfl dX8_dropSign_18 ?_
      refine lv_iload_n hx hb dX8_dropSign_21 rfl (lv_at hl 1 rfl) ?_
      refine lv_aload_n hx hb dX8_dropSign_22 rfl (lv_at hl 0 rfl) ?_
      refine pw_get (C := RX8) (T := TX8) (N := 3) hx hb hts hin8 hown hK hO rfl 0 (by decide) lk_7 rfl rfl dX8_dropSign_23 ?_
      refine lv_iload_n hx hb dX8_dropSign_26 rfl (lv_at hl 1 rfl) ?_
      refine pw_lald hx hb hK hL (i) rfl (by omega) (by omega) dX8_dropSign_27 ?_
      refine pw_asl (wdig v i) hgi ?_
      refine pw_lneg hx hb dX8_dropSign_28 ?_
      refine pw_last hx hb hK hL hS (Or.inr rfl) (i) rfl (by omega) (by omega) dX8_dropSign_29 (fun H1 locs1 hnew hz1 oq hS => ?_)
      have hO := hO.k (oq _ (by omega))
      have hL := hnew
      clear hnew oq hz1
      refine lv_iinc (v := iI (((i + 1 : Nat) : Int))) (lv' := [(1, .int (iI (((i + 1 : Nat) : Int)))), (0, .ref (a))]) hx hb dX8_dropSign_30 hl (k := 1) rfl (by show iI _ + iI _ = _; rw [iI_add]; first | rfl | (congr 1; omega)) (by decide) rfl (fun ls hl => ?_)
      refine lv_goto (tgt := 9) hx hb dX8_dropSign_33 (by decide) ?_
      exact ih (i + 1) _ _ _ _ (by omega) (fun j hj => ud_ext h0 rfl j hj) (fun j h2 h3 => by rw [ud_n _ _ (by omega)]; exact h1 j (by omega) h3) hO hL hS (lv_sub hl [1, 0] rfl)
  refine lv_aload_n hx hb dX8_dropSign_0 rfl (lv_at hl 0 rfl) ?_
  refine pw_get (C := RX8) (T := TX8) (N := 3) hx hb hts hin8 hown hK hO rfl 2 (by decide) lk_17 rfl rfl dX8_dropSign_1 ?_
  refine pw_if_ge (tgt := 41) hx hb dX8_dropSign_4 (by decide) (fun c_4 => ?_) (fun c_4 => ?_)
  · have hv0 : 0 ≤ v := by rw [hsg] at c_4; split at c_4 <;> omega
    exact pw_vret hx hb hr hlocks hS (by rw [abs_pos hv0]; exact ⟨ka, ⟨hO, hL⟩, hka⟩) dX8_dropSign_41
  · have hv0 : v < 0 := by rw [hsg] at c_4; split at c_4 <;> (try split at c_4) <;> omega
    refine pw_iconst hx hb dX8_dropSign_7 ?_
    refine lv_istore_n (lv' := [(1, .int (iI (0))), (0, .ref (a))]) hx hb dX8_dropSign_8 rfl hl (by decide) rfl (fun ls hl => ?_)
    exact loop hv0 ka 0 _ _ _ _ (by omega) (fun j hj => by omega) (fun j _ _ => rfl) hO hL hS (lv_sub hl [1, 0] rfl)
set_option maxHeartbeats 4000000 in
set_option maxRecDepth 100000 in
/-- compare(other) -/
theorem c_compare (l : Launch) (D : va_G) (E : Nat → ClassId) (a n b nb : Nat) (v w : Int) (hn : n < 1000) (hnb : nb < 1000) : pw_M rvI l D E yX8_compare wsX8_compare ({ frames := 1, cells := 0, slots := 0, locals := 40 } : Room) [.ref (a), .ref (b)] (fun H => WH D E a n v H ∧ WH D E b nb w H) (fun z H => z = (if v < w then -1 else if v = w then 0 else 1) ∧ True) (fun _ => False) (0) (0) := by
  refine pw_of (cc := cX8_compare) (maxL := 7) (ret := (some .int)) (by decide +kernel) rfl (Nat.le_of_ble_eq_true rfl) ?_
  intro p e s m args below meth c hx hb hr hml hts hown hlocks hini hK ⟨⟨ka, ⟨hO, hL⟩, hka⟩, kb, ⟨hOb, hLb⟩, hkb⟩ ls hl
  have hown : s.vm.findClass RX8 = some m.cls := hown
  have hl : lv_has ls 7 [(0, .ref (a)), (1, .ref (b))] := hl
  have hS : va_S (fun _ => False) s.heap s.heap [] := va_S.rf
  have lk_13 := hts (.fieldLink RX8 13 "PolicyWorks$Whole" "size" "I") (by decide +kernel)
  have hin8 : ∀ w ∈ wsX80, w ∈ wsX8_compare := by decide +kernel
  have hka1 := hka.1
  have hkb1 := hkb.1
  obtain ⟨mx, hmx⟩ : ∃ mx : Nat, mx = max ka kb := ⟨_, rfl⟩
  have hva : v.natAbs < 1000000 ^ mx := Nat.lt_of_lt_of_le hka.2.1 (bp_mono (by omega))
  have hwb : w.natAbs < 1000000 ^ mx := Nat.lt_of_lt_of_le hkb.2.1 (bp_mono (by omega))
  have loop : ∀ (k : Nat) (H : Heap) (locs : List Loc) (ls : Array Slot), k ≤ mx → (∀ j, k ≤ j → j < mx → wdig v j = wdig w j) → OA D (a) 8 [.ref (a + 1), .int (iI ((ka : Int))), .int (iI (v.sign))] H → LA E (a + 1) n (wdig v) H → OA D (b) 8 [.ref (b + 1), .int (iI ((kb : Int))), .int (iI (w.sign))] H → LA E (b + 1) nb (wdig w) H → va_S (fun _ => False) s.heap H locs → lv_has ls 7 [(0, .ref (a)), (1, .ref (b)), (2, .int (iI ((k : Int) - 1)))] → W p l e ({ frames := 1, cells := 0, slots := 0, locals := 40 } : Room) s m args below meth c H locs (0) (0) (MQ below (pw_Q rvI (fun z H => z = (if v < w then -1 else if v = w then 0 else 1) ∧ True) (fun _ => False)) args s (0) (0) (fun _ => False)) (F0 m 14 ls []) := by
    intro k
    induction k with
    | zero =>
      intro H locs ls hk h0 hO hL hOb hLb hS hl
      have evw : v = w := cmp_eq hva hwb (fun j hj => h0 j (by omega) hj)
      refine lv_iload_n hx hb dX8_compare_14 rfl (lv_at hl 2 rfl) ?_
      refine pw_if_lt (tgt := 57) hx hb dX8_compare_15 (by decide) (fun c_15 => ?_) (fun c_15 => absurd c_15 (by omega))
      refine pw_iconst hx hb dX8_compare_57 ?_
      exact pw_iret hx hb hr hlocks hS ⟨by rw [if_neg (by omega), if_pos evw], trivial⟩ dX8_compare_58
    | succ k ih =>
      intro H locs ls hk h0 hO hL hOb hLb hS hl
      have b1 := wdig_b v k
      have b2 := wdig_b w k
      have ek : ((k + 1 : Nat) : Int) - 1 = (k : Int) := by omega
      refine lv_iload_n hx hb dX8_compare_14 rfl (lv_at hl 2 rfl) ?_
      refine pw_if_lt (tgt := 57) hx hb dX8_compare_15 (by decide) (fun c_15 => absurd c_15 (by omega)) (fun c_15 => ?_)
      refine lv_aload_n hx hb dX8_compare_18 rfl (lv_at hl 0 rfl) ?_
      refine lv_iload_n hx hb dX8_compare_19 rfl (lv_at hl 2 rfl) ?_
      refine pw_callVl (As := [.int (iI (((k + 1 : Nat) : Int) - 1))]) (rest := []) ⟨hx, hb, hml, hown, hts⟩ (c_limbAt l D E a n (wdig v) ka v.sign (((k + 1 : Nat) : Int) - 1) hn (by omega) (by omega) (by omega)) (cwV 1 hts gX8_compare_X8_limbAt rfl rfl rfl (by decide +kernel) ⟨Nat.le_of_ble_eq_true rfl, Nat.le_of_ble_eq_true rfl⟩) hK hO rfl ⟨hO, hL⟩ rfl hl.1 rfl (by decide) dX8_compare_20 ⟨Nat.zero_le _, Nat.zero_le _⟩ hS (fun q h => h.elim) (fun z H1 locs1 hz hz1 hk1 hS => ?_)
      have hO := hO.k (hk1 _ hO.lt (fun h => h))
      have hL := hL.k (hk1 _ hL.lt (fun h => h))
      have hOb := hOb.k (hk1 _ hOb.lt (fun h => h))
      have hLb := hLb.k (hk1 _ hLb.lt (fun h => h))
      have hz : z = wdig v k := by rw [hz.1, ek]; exact wdig_at hka
      subst hz
      refine lv_lstore_n (lv' := [(3, .long (lI (wdig v k))), (0, .ref (a)), (1, .ref (b)), (2, .int (iI (((k + 1 : Nat) : Int) - 1)))]) hx hb dX8_compare_23 rfl hl (by decide) rfl (fun ls hl => ?_)
      refine lv_aload_n hx hb dX8_compare_24 rfl (lv_at hl 2 rfl) ?_
      refine lv_iload_n hx hb dX8_compare_25 rfl (lv_at hl 3 rfl) ?_
      refine pw_callVl (As := [.int (iI (((k + 1 : Nat) : Int) - 1))]) (rest := []) ⟨hx, hb, hml, hown, hts⟩ (c_limbAt l D E b nb (wdig w) kb w.sign (((k + 1 : Nat) : Int) - 1) hnb (by omega) (by omega) (by omega)) (cwV 1 hts gX8_compare_X8_limbAt rfl rfl rfl (by decide +kernel) ⟨Nat.le_of_ble_eq_true rfl, Nat.le_of_ble_eq_true rfl⟩) hK hOb rfl ⟨hOb, hLb⟩ rfl hl.1 rfl (by decide) dX8_compare_26 ⟨Nat.zero_le _, Nat.zero_le _⟩ hS (fun q h => h.elim) (fun z H1 locs1 hz hz1 hk1 hS => ?_)
      have hO := hO.k (hk1 _ hO.lt (fun h => h))
      have hL := hL.k (hk1 _ hL.lt (fun h => h))
      have hOb := hOb.k (hk1 _ hOb.lt (fun h => h))
      have hLb := hLb.k (hk1 _ hLb.lt (fun h => h))
      have hz : z = wdig w k := by rw [hz.1, ek]; exact wdig_at hkb
      subst hz
      refine lv_lstore (lv' := [(5, .long (lI (wdig w k))), (3, .long (lI (wdig v k))), (0, .ref (a)), (1, .ref (b)), (2, .int (iI (((k + 1 : Nat) : Int) - 1)))]) hx hb dX8_compare_29 hl (by decide) rfl (fun ls hl => ?_)
      refine lv_lload_n hx hb dX8_compare_31 rfl (lv_at hl 1 rfl) ?_
      refine lv_lload hx hb dX8_compare_32 (lv_at hl 0 rfl) ?_
      refine pw_lcmp_eq (tgt := 51) hx hb dX8_compare_34 dX8_compare_35 (by decide) (fun c_34 => ?_) (fun c_34 => ?_)
      · refine lv_iinc (v := iI ((k : Int) - 1)) (lv' := [(2, .int (iI ((k : Int) - 1))), (5, .long (lI (wdig w k))), (3, .long (lI (wdig v k))), (0, .ref (a)), (1, .ref (b))]) hx hb dX8_compare_51 hl (k := 4) rfl (by show iI _ + iI _ = _; rw [iI_add]; first | rfl | (congr 1; omega)) (by decide) rfl (fun ls hl => ?_)
        refine lv_goto (tgt := 14) hx hb dX8_compare_54 (by decide) ?_
        exact ih _ _ _ (by omega) (fun j h1 h2 => by
        by_cases e : j = k
        · rw [e]; exact c_34
        · exact h0 j (by omega) h2) hO hL hOb hLb hS (lv_sub hl [3, 4, 0] rfl)
      · refine lv_lload_n hx hb dX8_compare_38 rfl (lv_at hl 1 rfl) ?_
        refine lv_lload hx hb dX8_compare_39 (lv_at hl 0 rfl) ?_
        refine pw_lcmp_ge (tgt := 49) hx hb dX8_compare_41 dX8_compare_42 (by decide) (fun c_41 => ?_) (fun c_41 => ?_)
        · refine pw_iconst hx hb dX8_compare_49 ?_
          have hgt := cmp_lt hwb hva (by omega) (fun j h1 h2 => (h0 j h1 h2).symm) (show wdig w k < wdig v k by omega)
          exact pw_iret hx hb hr hlocks hS ⟨by rw [if_neg (by omega), if_neg (by omega)], trivial⟩ dX8_compare_50
        · refine pw_iconst hx hb dX8_compare_45 ?_
          refine lv_goto (tgt := 50) hx hb dX8_compare_46 (by decide) ?_
          exact pw_iret hx hb hr hlocks hS ⟨by rw [if_pos (cmp_lt hva hwb (by omega) h0 c_41)], trivial⟩ dX8_compare_50
  refine lv_aload_n hx hb dX8_compare_0 rfl (lv_at hl 0 rfl) ?_
  refine pw_get (C := RX8) (T := TX8) (N := 3) hx hb hts hin8 hown hK hO rfl 1 (by decide) lk_13 rfl rfl dX8_compare_1 ?_
  refine lv_aload_n hx hb dX8_compare_4 rfl (lv_at hl 1 rfl) ?_
  refine pw_get (C := RX8) (T := TX8) (N := 3) hx hb hts hin8 hown hK hOb rfl 1 (by decide) lk_13 rfl rfl dX8_compare_5 ?_
  refine pw_mmax hx hb (hml.trans hl.1.symm) hown hts (by decide +kernel) (Nat.le_of_ble_eq_true rfl) (Nat.le_of_ble_eq_true rfl) (Nat.le_of_ble_eq_true rfl) (Nat.le_of_ble_eq_true rfl) dX8_compare_8 ?_
  refine pw_asi ((mx : Int)) (by omega) ?_
  refine pw_iconst hx hb dX8_compare_11 ?_
  refine pw_isub hx hb dX8_compare_12 ?_
  refine lv_istore_n (lv' := [(2, .int (iI (((mx : Int)) - (1)))), (0, .ref (a)), (1, .ref (b))]) hx hb dX8_compare_13 rfl hl (by decide) rfl (fun ls hl => ?_)
  exact loop mx _ _ _ (Nat.le_refl mx) (fun j h1 h2 => by omega) hO hL hOb hLb hS (lv_sub hl [1, 2, 0] rfl)
