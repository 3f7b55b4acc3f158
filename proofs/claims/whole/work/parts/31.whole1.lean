/-! the class's whole numbers: contracts of its methods -/
/-- a whole number's cells, its limbs as they are -/
def WR (D : va_G) (E : Nat → ClassId) (a n : Nat) (f : Nat → Int) (sz sg : Int) (H : Heap) : Prop := OA D a 8 [.ref (a + 1), .int (iI sz), .int (iI sg)] H ∧ LA E (a + 1) n f H
/-- a settled whole number -/
def WH (D : va_G) (E : Nat → ClassId) (a n : Nat) (v : Int) (H : Heap) : Prop := ∃ k : Nat, WR D E a n (wdig v) k v.sign H ∧ wk v n k
theorem WR.k {D : va_G} {E : Nat → ClassId} {a n : Nat} {f : Nat → Int} {sz sg : Int} {H H1 : Heap} (h : WR D E a n f sz sg H) (h0 : H1[a]? = H[a]?) (h1 : H1[a + 1]? = H[a + 1]?) : WR D E a n f sz sg H1 := ⟨h.1.k h0, h.2.k h1⟩
theorem WH.k {D : va_G} {E : Nat → ClassId} {a n : Nat} {v : Int} {H H1 : Heap} (h : WH D E a n v H) (h0 : H1[a]? = H[a]?) (h1 : H1[a + 1]? = H[a + 1]?) : WH D E a n v H1 := by
  obtain ⟨k, h2, h3⟩ := h
  exact ⟨k, h2.k h0 h1, h3⟩
theorem WH.lt {D : va_G} {E : Nat → ClassId} {a n : Nat} {v : Int} {H : Heap} (h : WH D E a n v H) : a + 1 < H.size := by
  obtain ⟨k, h2, h3⟩ := h
  exact h2.2.lt
theorem WR.up {D : va_G} {E : Nat → ClassId} {a n : Nat} {f g : Nat → Int} {sz sg : Int} {H : Heap} (h : WR D E a n f sz sg H) (hfg : ∀ j, j < n → f j = g j) : WR D E a n g sz sg H := ⟨h.1, h.2.up hfg⟩
theorem wh_bound {v : Int} {n k : Nat} (h : wk v n k) : v.natAbs < 1000000 ^ n := Nat.lt_of_lt_of_le h.2.1 (bp_mono h.1)
theorem sgn_i (v : Int) : v.sign = if v < 0 then -1 else if v = 0 then 0 else 1 := by
  rcases Int.lt_trichotomy v 0 with h | h | h
  · rw [if_pos h, Int.sign_eq_neg_one_of_neg h]
  · subst h; rfl
  · rw [if_neg (by omega), if_neg (by omega), Int.sign_eq_one_of_pos h]
/-- measured digits of a number: it is settled -/
theorem wh_of {D : va_G} {E : Nat → ClassId} {a n k : Nat} {v : Int} {f : Nat → Int} {H : Heap} (hv1 : -(1000000 ^ n) < v) (hv2 : v < 1000000 ^ n) (hf : ∀ j, j < n → f j = wdig v j) (hk : k ≤ n) (h0 : ∀ j, k ≤ j → j < n → f j = 0) (h1 : 0 < k → f (k - 1) ≠ 0) (hW : WR D E a n f k (if k = 0 then 0 else if f (k - 1) < 0 then -1 else 1) H) : WH D E a n v H := by
  have hva : v.natAbs < 1000000 ^ n := by
    have hp := bp_cast n
    have : ((v.natAbs : Nat) : Int) < ((1000000 ^ n : Nat) : Int) := by omega
    exact_mod_cast this
  have hwk := wk_of hk hva hf h0 h1
  refine ⟨k, ?_, hwk⟩
  have e : (if k = 0 then 0 else if f (k - 1) < 0 then -1 else 1 : Int) = v.sign := by
    rw [sgn_i]
    by_cases hk0 : k = 0
    · have := (wk_z hwk).mp hk0
      simp [hk0, this]
    · have hv0 : v ≠ 0 := fun e => hk0 ((wk_z hwk).mpr e)
      obtain ⟨t1, t2⟩ := wdig_top hwk (by omega)
      rw [if_neg hk0, hf (k - 1) (by omega)]
      by_cases hv : v < 0
      · rw [if_pos hv, if_pos (t1 hv)]
      · have := t2 (by omega)
        rw [if_neg hv, if_neg hv0, if_neg (by omega)]
  rw [e] at hW
  exact hW.up hf
set_option maxHeartbeats 4000000 in
set_option maxRecDepth 100000 in
/-- measure(): the size, and the sign of the top limb -/
theorem c_measure (l : Launch) (D : va_G) (E : Nat → ClassId) (a n : Nat) (f : Nat → Int) (sz sg : Int) (hn : n < 1000) (hf : ∀ j, j < n → -9223372036854775808 ≤ f j ∧ f j ≤ 9223372036854775807) : pw_M rvV l D E yX8_measure wsX8_measure ({ frames := 0, cells := 0, slots := 0, locals := 0 } : Room) [.ref (a)] (fun H => WR D E a n f sz sg H) (fun _ H => ∃ k : Nat, k ≤ n ∧ (∀ j, k ≤ j → j < n → f j = 0) ∧ (0 < k → f (k - 1) ≠ 0) ∧ WR D E a n f k (if k = 0 then 0 else if f (k - 1) < 0 then -1 else 1) H) (fun q => q = a ∨ q = a + 1) (0) (0) := by
  refine pw_of (cc := cX8_measure) (maxL := 1) (ret := none) (by decide +kernel) rfl (Nat.le_of_ble_eq_true rfl) ?_
  intro p e s m args below meth c hx hb hr hml hts hown hlocks hini hK ⟨hO, hL⟩ ls hl
  have hown : s.vm.findClass RX8 = some m.cls := hown
  have hl : lv_has ls 1 [(0, .ref (a))] := hl
  have hS : va_S (fun q => q = a ∨ q = a + 1) s.heap s.heap [] := va_S.rf
  have lk_7 := hts (.fieldLink RX8 7 "PolicyWorks$Whole" "limbs" "[J") (by decide +kernel)
  have lk_13 := hts (.fieldLink RX8 13 "PolicyWorks$Whole" "size" "I") (by decide +kernel)
  have lk_17 := hts (.fieldLink RX8 17 "PolicyWorks$Whole" "sign" "I") (by decide +kernel)
  have hin8 : ∀ w ∈ wsX80, w ∈ wsX8_measure := by decide +kernel
  have fin : ∀ (k : Nat) (H : Heap) (locs : List Loc) (ls : Array Slot), k ≤ n → (∀ j, k ≤ j → j < n → f j = 0) → (0 < k → f (k - 1) ≠ 0) → OA D a 8 [.ref (a + 1), .int (iI ((k : Int))), .int (iI (sg))] H → LA E (a + 1) n f H → va_S (fun q => q = a ∨ q = a + 1) s.heap H locs → lv_has ls 1 [(0, .ref (a))] → W p l e ({ frames := 0, cells := 0, slots := 0, locals := 0 } : Room) s m args below meth c H locs (0) (0) (MQ below (pw_Q rvV (fun _ H => ∃ k : Nat, k ≤ n ∧ (∀ j, k ≤ j → j < n → f j = 0) ∧ (0 < k → f (k - 1) ≠ 0) ∧ WR D E a n f k (if k = 0 then 0 else if f (k - 1) < 0 then -1 else 1) H) (fun q => q = a ∨ q = a + 1)) args s (0) (0) (fun q => q = a ∨ q = a + 1)) (F0 m 45 ls []) := by
    intro k H locs ls hk h0 h1 hO hL hS hl
    refine lv_aload_n hx hb dX8_measure_45 rfl (lv_at hl 0 rfl) ?_
    refine lv_aload_n hx hb dX8_measure_46 rfl (lv_at hl 0 rfl) ?_
    refine pw_get (C := RX8) (T := TX8) (N := 3) hx hb hts hin8 hown hK hO rfl 1 (by decide) lk_13 rfl rfl dX8_measure_47 ?_
    refine pw_if_ne (tgt := 57) hx hb dX8_measure_50 (by decide) (fun c_50 => ?_) (fun c_50 => ?_)
    · refine lv_aload_n hx hb dX8_measure_57 rfl (lv_at hl 0 rfl) ?_
      refine pw_get (C := RX8) (T := TX8) (N := 3) hx hb hts hin8 hown hK hO rfl 0 (by decide) lk_7 rfl rfl dX8_measure_58 ?_
      refine lv_aload_n hx hb dX8_measure_61 rfl (lv_at hl 0 rfl) ?_
      refine pw_get (C := RX8) (T := TX8) (N := 3) hx hb hts hin8 hown hK hO rfl 1 (by decide) lk_13 rfl rfl dX8_measure_62 ?_
      refine pw_iconst hx hb dX8_measure_65 ?_
      refine pw_isub hx hb dX8_measure_66 ?_
      have hfk := hf (k - 1) (by omega)
      refine pw_lald hx hb hK hL (k - 1) (by omega) (by omega) (by omega) dX8_measure_67 ?_
      refine pw_lconst (z := 0) hx hb dX8_measure_68 ?_
      refine pw_lcmp_ge (tgt := 77) hx hb dX8_measure_69 dX8_measure_70 (by decide) (fun c_69 => ?_) (fun c_69 => ?_)
      · refine pw_iconst hx hb dX8_measure_77 ?_
        refine pw_put (C := RX8) (T := TX8) (N := 3) hx hb hts hin8 tyX8 tyX8_ok nmX8 hown hK hO hS (Or.inl rfl) rfl 2 (by decide) lk_17 rfl rfl rfl rfl (by show _ < 3; decide) dX8_measure_78 (fun H1 locs1 hnew hz1 oq hS => ?_)
        have hL := hL.k (oq _ (by omega))
        have hO : OA D (a) 8 [.ref (a + 1), .int (iI ((k : Int))), .int (iI (1))] H1 := hnew
        clear hnew oq hz1
        exact pw_vret hx hb hr hlocks hS ⟨k, hk, h0, h1, by rw [if_neg (by omega), if_neg (by omega)]; exact hO, hL⟩ dX8_measure_81
      · refine pw_iconst hx hb dX8_measure_73 ?_
        refine lv_goto (tgt := 78) hx hb dX8_measure_74 (by decide) ?_
        refine pw_put (C := RX8) (T := TX8) (N := 3) hx hb hts hin8 tyX8 tyX8_ok nmX8 hown hK hO hS (Or.inl rfl) rfl 2 (by decide) lk_17 rfl rfl rfl rfl (by show _ < 3; decide) dX8_measure_78 (fun H1 locs1 hnew hz1 oq hS => ?_)
        have hL := hL.k (oq _ (by omega))
        have hO : OA D (a) 8 [.ref (a + 1), .int (iI ((k : Int))), .int (iI (-1))] H1 := hnew
        clear hnew oq hz1
        exact pw_vret hx hb hr hlocks hS ⟨k, hk, h0, h1, by rw [if_neg (by omega), if_pos c_69]; exact hO, hL⟩ dX8_measure_81
    · refine pw_iconst hx hb dX8_measure_53 ?_
      refine lv_goto (tgt := 78) hx hb dX8_measure_54 (by decide) ?_
      refine pw_put (C := RX8) (T := TX8) (N := 3) hx hb hts hin8 tyX8 tyX8_ok nmX8 hown hK hO hS (Or.inl rfl) rfl 2 (by decide) lk_17 rfl rfl rfl rfl (by show _ < 3; decide) dX8_measure_78 (fun H1 locs1 hnew hz1 oq hS => ?_)
      have hL := hL.k (oq _ (by omega))
      have hO : OA D (a) 8 [.ref (a + 1), .int (iI ((k : Int))), .int (iI (0))] H1 := hnew
      clear hnew oq hz1
      exact pw_vret hx hb hr hlocks hS ⟨k, hk, h0, h1, by rw [if_pos (by omega)]; exact hO, hL⟩ dX8_measure_81
  have loop : ∀ (k : Nat) (H : Heap) (locs : List Loc) (ls : Array Slot), k ≤ n → (∀ j, k ≤ j → j < n → f j = 0) → OA D a 8 [.ref (a + 1), .int (iI ((k : Int))), .int (iI (sg))] H → LA E (a + 1) n f H → va_S (fun q => q = a ∨ q = a + 1) s.heap H locs → lv_has ls 1 [(0, .ref (a))] → W p l e ({ frames := 0, cells := 0, slots := 0, locals := 0 } : Room) s m args below meth c H locs (0) (0) (MQ below (pw_Q rvV (fun _ H => ∃ k : Nat, k ≤ n ∧ (∀ j, k ≤ j → j < n → f j = 0) ∧ (0 < k → f (k - 1) ≠ 0) ∧ WR D E a n f k (if k = 0 then 0 else if f (k - 1) < 0 then -1 else 1) H) (fun q => q = a ∨ q = a + 1)) args s (0) (0) (fun q => q = a ∨ q = a + 1)) (F0 m 9 ls []) := by
    intro k
    induction k with
    | zero =>
      intro H locs ls hk h0 hO hL hS hl
      refine lv_aload_n hx hb dX8_measure_9 rfl (lv_at hl 0 rfl) ?_
      refine pw_get (C := RX8) (T := TX8) (N := 3) hx hb hts hin8 hown hK hO rfl 1 (by decide) lk_13 rfl rfl dX8_measure_10 ?_
      refine pw_if_le (tgt := 45) hx hb dX8_measure_13 (by decide) (fun c_13 => ?_) (fun c_13 => absurd c_13 (by omega))
      exact fin 0 _ _ _ hk h0 (by omega) hO hL hS hl
    | succ k ih =>
      intro H locs ls hk h0 hO hL hS hl
      have hfk := hf k (by omega)
      refine lv_aload_n hx hb dX8_measure_9 rfl (lv_at hl 0 rfl) ?_
      refine pw_get (C := RX8) (T := TX8) (N := 3) hx hb hts hin8 hown hK hO rfl 1 (by decide) lk_13 rfl rfl dX8_measure_10 ?_
      refine pw_if_le (tgt := 45) hx hb dX8_measure_13 (by decide) (fun c_13 => absurd c_13 (by omega)) (fun c_13 => ?_)
      refine lv_aload_n hx hb dX8_measure_16 rfl (lv_at hl 0 rfl) ?_
      refine pw_get (C := RX8) (T := TX8) (N := 3) hx hb hts hin8 hown hK hO rfl 0 (by decide) lk_7 rfl rfl dX8_measure_17 ?_
      refine lv_aload_n hx hb dX8_measure_20 rfl (lv_at hl 0 rfl) ?_
      refine pw_get (C := RX8) (T := TX8) (N := 3) hx hb hts hin8 hown hK hO rfl 1 (by decide) lk_13 rfl rfl dX8_measure_21 ?_
      refine pw_iconst hx hb dX8_measure_24 ?_
      refine pw_isub hx hb dX8_measure_25 ?_
      refine pw_lald hx hb hK hL (k) (by omega) (by omega) (by omega) dX8_measure_26 ?_
      refine pw_lconst (z := 0) hx hb dX8_measure_27 ?_
      refine pw_lcmp_ne (tgt := 45) hx hb dX8_measure_28 dX8_measure_29 (by decide) (fun c_28 => ?_) (fun c_28 => ?_)
      · exact fin (k + 1) _ _ _ hk h0 (fun _ => c_28) hO hL hS hl
      · refine lv_aload_n hx hb dX8_measure_32 rfl (lv_at hl 0 rfl) ?_
        refine lv_dup hx hb dX8_measure_33 rfl ?_
        refine pw_get (C := RX8) (T := TX8) (N := 3) hx hb hts hin8 hown hK hO rfl 1 (by decide) lk_13 rfl rfl dX8_measure_34 ?_
        refine pw_iconst hx hb dX8_measure_37 ?_
        refine pw_isub hx hb dX8_measure_38 ?_
        refine pw_asi ((k : Int)) (by omega) ?_
        refine pw_put (C := RX8) (T := TX8) (N := 3) hx hb hts hin8 tyX8 tyX8_ok nmX8 hown hK hO hS (Or.inl rfl) rfl 1 (by decide) lk_13 rfl rfl rfl rfl (by show _ < 3; decide) dX8_measure_39 (fun H1 locs1 hnew hz1 oq hS => ?_)
        have hL := hL.k (oq _ (by omega))
        have hO : OA D (a) 8 [.ref (a + 1), .int (iI ((k : Int))), .int (iI (sg))] H1 := hnew
        clear hnew oq hz1
        refine lv_goto (tgt := 9) hx hb dX8_measure_42 (by decide) ?_
        exact ih _ _ _ (by omega) (fun j h1 h2 => by
        by_cases e : j = k
        · rw [e]; exact c_28
        · exact h0 j (by omega) h2) hO hL hS hl
  refine lv_aload_n hx hb dX8_measure_0 rfl (lv_at hl 0 rfl) ?_
  refine lv_aload_n hx hb dX8_measure_1 rfl (lv_at hl 0 rfl) ?_
  refine pw_get (C := RX8) (T := TX8) (N := 3) hx hb hts hin8 hown hK hO rfl 0 (by decide) lk_7 rfl rfl dX8_measure_2 ?_
  refine pw_alen (n := n) (k0 := 1) hx hb hK hL rfl rfl dX8_measure_5 ?_
  refine pw_put (C := RX8) (T := TX8) (N := 3) hx hb hts hin8 tyX8 tyX8_ok nmX8 hown hK hO hS (Or.inl rfl) rfl 1 (by decide) lk_13 rfl rfl rfl rfl (by show _ < 3; decide) dX8_measure_6 (fun H1 locs1 hnew hz1 oq hS => ?_)
  have hL := hL.k (oq _ (by omega))
  have hO : OA D (a) 8 [.ref (a + 1), .int (iI ((n : Int))), .int (iI (sg))] H1 := hnew
  clear hnew oq hz1
  exact loop n _ _ _ (Nat.le_refl n) (fun j h1 h2 => by omega) hO hL hS hl
set_option maxHeartbeats 4000000 in
set_option maxRecDepth 100000 in
/-- limbAt(i): 0 beside the size -/
theorem c_limbAt (l : Launch) (D : va_G) (E : Nat → ClassId) (a n : Nat) (f : Nat → Int) (sz sg i : Int) (hn : n < 1000) (hsz : 0 ≤ sz ∧ sz ≤ n) (hi1 : -2147483648 ≤ i) (hi2 : i ≤ 2147483647) : pw_M rvL l D E yX8_limbAt wsX8_limbAt ({ frames := 0, cells := 0, slots := 0, locals := 0 } : Room) [.ref (a), .int (iI (i))] (fun H => WR D E a n f sz sg H) (fun z H => z = (if 0 ≤ i ∧ i < sz then f i.toNat else 0) ∧ True) (fun _ => False) (0) (0) := by
  refine pw_of (cc := cX8_limbAt) (maxL := 2) (ret := (some .long)) (by decide +kernel) rfl (Nat.le_of_ble_eq_true rfl) ?_
  intro p e s m args below meth c hx hb hr hml hts hown hlocks hini hK ⟨hO, hL⟩ ls hl
  have hown : s.vm.findClass RX8 = some m.cls := hown
  have hl : lv_has ls 2 [(0, .ref (a)), (1, .int (iI (i)))] := hl
  have hS : va_S (fun _ => False) s.heap s.heap [] := va_S.rf
  have lk_7 := hts (.fieldLink RX8 7 "PolicyWorks$Whole" "limbs" "[J") (by decide +kernel)
  have lk_13 := hts (.fieldLink RX8 13 "PolicyWorks$Whole" "size" "I") (by decide +kernel)
  have hin8 : ∀ w ∈ wsX80, w ∈ wsX8_limbAt := by decide +kernel
  refine lv_iload_n hx hb dX8_limbAt_0 rfl (lv_at hl 1 rfl) ?_
  refine pw_if_lt (tgt := 21) hx hb dX8_limbAt_1 (by decide) (fun c_1 => ?_) (fun c_1 => ?_)
  · refine pw_lconst (z := 0) hx hb dX8_limbAt_21 ?_
    exact pw_lret hx hb hr hlocks hS ⟨by rw [if_neg (by omega)], trivial⟩ dX8_limbAt_22
  · refine lv_iload_n hx hb dX8_limbAt_4 rfl (lv_at hl 1 rfl) ?_
    refine lv_aload_n hx hb dX8_limbAt_5 rfl (lv_at hl 0 rfl) ?_
    refine pw_get (C := RX8) (T := TX8) (N := 3) hx hb hts hin8 hown hK hO rfl 1 (by decide) lk_13 rfl rfl dX8_limbAt_6 ?_
    refine pw_icmp_ge (tgt := 21) hx hb dX8_limbAt_9 (by decide) (fun c_9 => ?_) (fun c_9 => ?_)
    · refine pw_lconst (z := 0) hx hb dX8_limbAt_21 ?_
      exact pw_lret hx hb hr hlocks hS ⟨by rw [if_neg (by omega)], trivial⟩ dX8_limbAt_22
    · refine lv_aload_n hx hb dX8_limbAt_12 rfl (lv_at hl 0 rfl) ?_
      refine pw_get (C := RX8) (T := TX8) (N := 3) hx hb hts hin8 hown hK hO rfl 0 (by decide) lk_7 rfl rfl dX8_limbAt_13 ?_
      refine lv_iload_n hx hb dX8_limbAt_16 rfl (lv_at hl 1 rfl) ?_
      refine pw_lald hx hb hK hL (i.toNat) (by omega) (by omega) (by omega) dX8_limbAt_17 ?_
      refine lv_goto (tgt := 22) hx hb dX8_limbAt_18 (by decide) ?_
      exact pw_lret hx hb hr hlocks hS ⟨by rw [if_pos (by omega)], trivial⟩ dX8_limbAt_22
theorem ud_ext {g t : Nat → Int} {i : Nat} {x : Int} (h : ∀ j, j < i → g j = t j) (hx : x = t i) : ∀ j, j < i + 1 → ud g i x j = t j := fun j hj => by
  by_cases e : j = i
  · rw [e, ud_s]; exact hx
  · rw [ud_n _ _ e]; exact h j (by omega)
theorem ext1 {g t : Nat → Int} {i : Nat} (h : ∀ j, j < i → g j = t j) (hx : g i = t i) : ∀ j, j < i + 1 → g j = t j := fun j hj => by
  by_cases e : j = i
  · rw [e]; exact hx
  · exact h j (by omega)
set_option maxHeartbeats 4000000 in
set_option maxRecDepth 100000 in
/-- turnNegative() -/
theorem c_turnNegative (l : Launch) (D : va_G) (E : Nat → ClassId) (a n : Nat) (f : Nat → Int) (sz sg : Int) (hn : n < 1000) (hf : ∀ j, j < n → -9223372036854775808 ≤ f j ∧ f j ≤ 9223372036854775807) : pw_M rvV l D E yX8_turnNegative wsX8_turnNegative ({ frames := 0, cells := 0, slots := 0, locals := 0 } : Room) [.ref (a)] (fun H => WR D E a n f sz sg H) (fun _ H => WR D E a n (tn f) sz sg H) (fun q => q = a ∨ q = a + 1) (0) (0) := by
  refine pw_of (cc := cX8_turnNegative) (maxL := 3) (ret := none) (by decide +kernel) rfl (Nat.le_of_ble_eq_true rfl) ?_
  intro p e s m args below meth c hx hb hr hml hts hown hlocks hini hK ⟨hO, hL⟩ ls hl
  have hown : s.vm.findClass RX8 = some m.cls := hown
  have hl : lv_has ls 3 [(0, .ref (a))] := hl
  have hS : va_S (fun q => q = a ∨ q = a + 1) s.heap s.heap [] := va_S.rf
  have lk_7 := hts (.fieldLink RX8 7 "PolicyWorks$Whole" "limbs" "[J") (by decide +kernel)
  have kc_44 := hts (.constantLong RX8 44 (1000000)) (by decide +kernel)
  have kc_56 := hts (.constantLong RX8 56 (999999)) (by decide +kernel)
  have hin8 : ∀ w ∈ wsX80, w ∈ wsX8_turnNegative := by decide +kernel
  have loop : ∀ (k i : Nat) (g : Nat → Int) (H : Heap) (locs : List Loc) (ls : Array Slot), i + k = n → (∀ j, j < i → g j = tn f j) → (∀ j, i ≤ j → j < n → g j = f j) → OA D a 8 [.ref (a + 1), .int (iI (sz)), .int (iI (sg))] H → LA E (a + 1) n g H → va_S (fun q => q = a ∨ q = a + 1) s.heap H locs → lv_has ls 3 [(0, .ref (a)), (1, .int (iI (tb f i))), (2, .int (iI ((i : Int))))] → W p l e ({ frames := 0, cells := 0, slots := 0, locals := 0 } : Room) s m args below meth c H locs (0) (0) (MQ below (pw_Q rvV (fun _ H => WR D E a n (tn f) sz sg H) (fun q => q = a ∨ q = a + 1)) args s (0) (0) (fun q => q = a ∨ q = a + 1)) (F0 m 4 ls []) := by
    intro k
    induction k with
    | zero =>
      intro i g H locs ls hi h0 h1 hO hL hS hl
      refine lv_iload_n hx hb dX8_turnNegative_4 rfl (lv_at hl 2 rfl) ?_
      refine lv_aload_n hx hb dX8_turnNegative_5 rfl (lv_at hl 0 rfl) ?_
      refine pw_get (C := RX8) (T := TX8) (N := 3) hx hb hts hin8 hown hK hO rfl 0 (by decide) lk_7 rfl rfl dX8_turnNegative_6 ?_
      refine pw_alen (n := n) (k0 := 1) hx hb hK hL rfl rfl dX8_turnNegative_9 ?_
      refine pw_icmp_ge (tgt := 63) hx hb dX8_turnNegative_10 (by decide) (fun c_10 => ?_) (fun c_10 => absurd c_10 (by omega))
      exact pw_vret hx hb hr hlocks hS ⟨hO, hL.up (fun j hj => h0 j (by omega))⟩ dX8_turnNegative_63
    | succ k ih =>
      intro i g H locs ls hi h0 h1 hO hL hS hl
      have hgi := h1 i (Nat.le_refl i) (by omega)
      have hfi := hf i (by omega)
      have htb := tb_b f i
      have etb : tb f (i + 1) = if tb f i = 1 then 1 else if f i ≠ 0 then 1 else 0 := rfl
      have etn : tn f i = if tb f i = 1 then f i - 999999 else if f i ≠ 0 then f i - 1000000 else f i := rfl
      refine lv_iload_n hx hb dX8_turnNegative_4 rfl (lv_at hl 2 rfl) ?_
      refine lv_aload_n hx hb dX8_turnNegative_5 rfl (lv_at hl 0 rfl) ?_
      refine pw_get (C := RX8) (T := TX8) (N := 3) hx hb hts hin8 hown hK hO rfl 0 (by decide) lk_7 rfl rfl dX8_turnNegative_6 ?_
      refine pw_alen (n := n) (k0 := 1) hx hb hK hL rfl rfl dX8_turnNegative_9 ?_
      refine pw_icmp_ge (tgt := 63) hx hb dX8_turnNegative_10 (by decide) (fun c_10 => absurd c_10 (by omega)) (fun c_10 => ?_)
      refine lv_iload_n hx hb dX8_turnNegative_13 rfl (lv_at hl 1 rfl) ?_
      refine pw_if_eq (tgt := 32) hx hb dX8_turnNegative_14 (by decide) (fun c_14 => ?_) (fun c_14 => ?_)
      · refine lv_aload_n hx hb dX8_turnNegative_32 rfl (lv_at hl 0 rfl) ?_
        refine pw_get (C := RX8) (T := TX8) (N := 3) hx hb hts hin8 hown hK hO rfl 0 (by decide) lk_7 rfl rfl dX8_turnNegative_33 ?_
        refine lv_iload_n hx hb dX8_turnNegative_36 rfl (lv_at hl 2 rfl) ?_
        refine pw_lald hx hb hK hL (i) rfl (by omega) (by omega) dX8_turnNegative_37 ?_
        refine pw_lconst (z := 0) hx hb dX8_turnNegative_38 ?_
        refine pw_lcmp_eq (tgt := 57) hx hb dX8_turnNegative_39 dX8_turnNegative_40 (by decide) (fun c_39 => ?_) (fun c_39 => ?_)
        · refine lv_iinc (v := iI (((i + 1 : Nat) : Int))) (lv' := [(2, .int (iI (((i + 1 : Nat) : Int)))), (0, .ref (a)), (1, .int (iI (tb f i)))]) hx hb dX8_turnNegative_57 hl (k := 2) rfl (by show iI _ + iI _ = _; rw [iI_add]; first | rfl | (congr 1; omega)) (by decide) rfl (fun ls hl => ?_)
          refine lv_goto (tgt := 4) hx hb dX8_turnNegative_60 (by decide) ?_
          have etb2 : tb f (i + 1) = tb f i := by rw [etb, if_neg (by omega), if_neg (by omega)]; omega
          have hl := lv_sub (l' := [(0, .ref (a)), (1, .int (iI (tb f i))), (2, .int (iI (((i + 1 : Nat) : Int))))]) hl [1, 2, 0] rfl
          rw [← etb2] at hl
          exact ih (i + 1) _ _ _ _ (by omega) (fun j hj => ext1 h0 (by rw [etn, if_neg (by omega), if_neg (by omega)]; exact hgi) j hj) (fun j h2 h3 => h1 j (by omega) h3) hO hL hS hl
        · refine lv_aload_n hx hb dX8_turnNegative_43 rfl (lv_at hl 0 rfl) ?_
          refine pw_get (C := RX8) (T := TX8) (N := 3) hx hb hts hin8 hown hK hO rfl 0 (by decide) lk_7 rfl rfl dX8_turnNegative_44 ?_
          refine lv_iload_n hx hb dX8_turnNegative_47 rfl (lv_at hl 2 rfl) ?_
          refine lv_dup2_11 hx hb dX8_turnNegative_48 rfl rfl ?_
          refine pw_lald hx hb hK hL (i) rfl (by omega) (by omega) dX8_turnNegative_49 ?_
          refine pw_ldc2 (z := 1000000) hx hb hown kc_44 (by decide +kernel) dX8_turnNegative_50 ?_
          refine pw_lsub hx hb dX8_turnNegative_53 ?_
          refine pw_last hx hb hK hL hS (Or.inr rfl) (i) rfl (by omega) (by omega) dX8_turnNegative_54 (fun H1 locs1 hnew hz1 oq hS => ?_)
          have hO := hO.k (oq _ (by omega))
          have hL := hnew
          clear hnew oq hz1
          refine pw_iconst hx hb dX8_turnNegative_55 ?_
          refine lv_istore_n (lv' := [(1, .int (iI (1))), (0, .ref (a)), (2, .int (iI ((i : Int))))]) hx hb dX8_turnNegative_56 rfl hl (by decide) rfl (fun ls hl => ?_)
          refine lv_iinc (v := iI (((i + 1 : Nat) : Int))) (lv' := [(2, .int (iI (((i + 1 : Nat) : Int)))), (1, .int (iI (1))), (0, .ref (a))]) hx hb dX8_turnNegative_57 hl (k := 2) rfl (by show iI _ + iI _ = _; rw [iI_add]; first | rfl | (congr 1; omega)) (by decide) rfl (fun ls hl => ?_)
          refine lv_goto (tgt := 4) hx hb dX8_turnNegative_60 (by decide) ?_
          have etb2 : tb f (i + 1) = 1 := by rw [etb, if_neg (by omega), if_pos (by omega)]
          have hl := lv_sub (l' := [(0, .ref (a)), (1, .int (iI (1))), (2, .int (iI (((i + 1 : Nat) : Int))))]) hl [2, 1, 0] rfl
          rw [← etb2] at hl
          exact ih (i + 1) _ _ _ _ (by omega) (fun j hj => ud_ext h0 (by rw [etn, if_neg (by omega), if_pos (by omega), hgi]) j hj) (fun j h2 h3 => by rw [ud_n _ _ (by omega)]; exact h1 j (by omega) h3) hO hL hS hl
      · refine lv_aload_n hx hb dX8_turnNegative_17 rfl (lv_at hl 0 rfl) ?_
        refine pw_get (C := RX8) (T := TX8) (N := 3) hx hb hts hin8 hown hK hO rfl 0 (by decide) lk_7 rfl rfl dX8_turnNegative_18 ?_
        refine lv_iload_n hx hb dX8_turnNegative_21 rfl (lv_at hl 2 rfl) ?_
        refine lv_dup2_11 hx hb dX8_turnNegative_22 rfl rfl ?_
        refine pw_lald hx hb hK hL (i) rfl (by omega) (by omega) dX8_turnNegative_23 ?_
        refine pw_ldc2 (z := 999999) hx hb hown kc_56 (by decide +kernel) dX8_turnNegative_24 ?_
        refine pw_lsub hx hb dX8_turnNegative_27 ?_
        refine pw_last hx hb hK hL hS (Or.inr rfl) (i) rfl (by omega) (by omega) dX8_turnNegative_28 (fun H1 locs1 hnew hz1 oq hS => ?_)
        have hO := hO.k (oq _ (by omega))
        have hL := hnew
        clear hnew oq hz1
        refine lv_goto (tgt := 57) hx hb dX8_turnNegative_29 (by decide) ?_
        refine lv_iinc (v := iI (((i + 1 : Nat) : Int))) (lv' := [(2, .int (iI (((i + 1 : Nat) : Int)))), (0, .ref (a)), (1, .int (iI (tb f i)))]) hx hb dX8_turnNegative_57 hl (k := 2) rfl (by show iI _ + iI _ = _; rw [iI_add]; first | rfl | (congr 1; omega)) (by decide) rfl (fun ls hl => ?_)
        refine lv_goto (tgt := 4) hx hb dX8_turnNegative_60 (by decide) ?_
        have etb2 : tb f (i + 1) = tb f i := by rw [etb, if_pos (by omega)]; omega
        have hl := lv_sub (l' := [(0, .ref (a)), (1, .int (iI (tb f i))), (2, .int (iI (((i + 1 : Nat) : Int))))]) hl [1, 2, 0] rfl
        rw [← etb2] at hl
        exact ih (i + 1) _ _ _ _ (by omega) (fun j hj => ud_ext h0 (by rw [etn, if_pos (by omega), hgi]) j hj) (fun j h2 h3 => by rw [ud_n _ _ (by omega)]; exact h1 j (by omega) h3) hO hL hS hl
  refine pw_iconst hx hb dX8_turnNegative_0 ?_
  refine lv_istore_n (lv' := [(1, .int (iI (0))), (0, .ref (a))]) hx hb dX8_turnNegative_1 rfl hl (by decide) rfl (fun ls hl => ?_)
  refine pw_iconst hx hb dX8_turnNegative_2 ?_
  refine lv_istore_n (lv' := [(2, .int (iI (0))), (1, .int (iI (0))), (0, .ref (a))]) hx hb dX8_turnNegative_3 rfl hl (by decide) rfl (fun ls hl => ?_)
  exact loop n 0 f _ _ _ (by omega) (fun j hj => by omega) (fun j _ _ => rfl) hO hL hS (lv_sub hl [2, 1, 0] rfl)
