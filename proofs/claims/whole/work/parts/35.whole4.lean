/-! the class's whole numbers: divideSmall, reaches, guess, takeAway -/
theorem rs_top {v : Int} {n k d : Nat} (h : wk v n k) : rs v d k = 0 := by
  unfold rs
  rw [Nat.div_eq_of_lt h.2.1, Nat.zero_mod]
  split <;> rfl
theorem sc_nn {f : Nat → Int} {n : Nat} (h : 0 ≤ wv f n) : 0 ≤ sc f n := by
  have e := wv_sd f n
  obtain ⟨_, a2, _⟩ := dig_pos (d := sd f) (n := n) (fun j _ => sd_b f j)
  have hp := bp_posI n
  by_cases hc : 0 ≤ sc f n
  · exact hc
  · have : sc f n * 1000000 ^ n ≤ (-1) * 1000000 ^ n := Int.mul_le_mul_of_nonneg_right (by omega) (by omega)
    omega
theorem mul_b2 {x y : Int} (hx : -1000000 ≤ x ∧ x ≤ 1000000) (hy : -1000000 < y ∧ y < 1000000) : -1000000000000 ≤ x * y ∧ x * y ≤ 1000000000000 := by
  have h : (x * y).natAbs ≤ 1000000 * 1000000 := by rw [Int.natAbs_mul]; exact Nat.mul_le_mul (by omega) (by omega)
  omega
theorem guess_int {x y : Int} {k s M O : Nat} (hx0 : 0 ≤ x) (hy : 0 < y) (hx : x < y * 1000000 ^ (s + 1)) (hM1 : M * 1000000 ^ (k + s) ≤ x.natAbs * 1000000 ^ 2) (hM2 : x.natAbs * 1000000 ^ 2 < (M + 1) * 1000000 ^ (k + s)) (hO1 : (O - 1) * 1000000 ^ k ≤ y.natAbs * 1000000 ^ 2) (hO2 : y.natAbs * 1000000 ^ 2 < O * 1000000 ^ k) (hO : 1000000 < O) : (0 : Int) ≤ ((M / O : Nat) : Int) ∧ ((M / O : Nat) : Int) * (y * 1000000 ^ s) ≤ x ∧ x < (((M / O : Nat) : Int) + 3) * (y * 1000000 ^ s) := by
  obtain ⟨xn, rfl⟩ : ∃ xn : Nat, x = (xn : Int) := ⟨x.natAbs, by omega⟩
  obtain ⟨yn, rfl⟩ : ∃ yn : Nat, y = (yn : Int) := ⟨y.natAbs, by omega⟩
  rw [Int.natAbs_natCast] at *
  have h1 : xn < yn * 1000000 ^ (s + 1) := by
    have e : ((yn * 1000000 ^ (s + 1) : Nat) : Int) = (yn : Int) * 1000000 ^ (s + 1) := by rw [Int.natCast_mul, bp_cast]
    omega
  obtain ⟨a1, a2⟩ := guess_ok (by omega) h1 hM1 hM2 hO1 hO2 hO
  have e1 : ((M / O * (yn * 1000000 ^ s) : Nat) : Int) = ((M / O : Nat) : Int) * ((yn : Int) * 1000000 ^ s) := by rw [Int.natCast_mul, Int.natCast_mul, bp_cast]
  have e2 : (((M / O + 3) * (yn * 1000000 ^ s) : Nat) : Int) = (((M / O : Nat) : Int) + 3) * ((yn : Int) * 1000000 ^ s) := by rw [Int.natCast_mul, Int.natCast_mul, bp_cast, Int.natCast_add]; rfl
  refine ⟨Int.natCast_nonneg _, ?_, ?_⟩
  · rw [← e1]; omega
  · rw [← e2]; omega
set_option maxHeartbeats 4000000 in
set_option maxRecDepth 100000 in
/-- divideSmall(d): towards 0 -/
theorem c_divideSmall (l : Launch) (D : va_G) (E : Nat → ClassId) (a n d : Nat) (v : Int) (hn : n < 1000) (hd1 : 1 ≤ d) (hd2 : d ≤ 1000000) : pw_M rvV l D E yX8_divideSmall wsX8_divideSmall ({ frames := 1, cells := 0, slots := 0, locals := 20 } : Room) [.ref (a), .int (iI ((d : Int)))] (fun H => WH D E a n v H) (fun _ H => WH D E a n (v.tdiv d) H) (fun q => q = a ∨ q = a + 1) (0) (0) := by
  refine pw_of (cc := cX8_divideSmall) (maxL := 7) (ret := none) (by decide +kernel) rfl (Nat.le_of_ble_eq_true rfl) ?_
  intro p e s m args below meth c hx hb hr hml hts hown hlocks hini hK ⟨ka, ⟨hO, hL⟩, hka⟩ ls hl
  have hown : s.vm.findClass RX8 = some m.cls := hown
  have hl : lv_has ls 7 [(0, .ref (a)), (1, .int (iI ((d : Int))))] := hl
  have hS : va_S (fun q => q = a ∨ q = a + 1) s.heap s.heap [] := va_S.rf
  have lk_7 := hts (.fieldLink RX8 7 "PolicyWorks$Whole" "limbs" "[J") (by decide +kernel)
  have lk_13 := hts (.fieldLink RX8 13 "PolicyWorks$Whole" "size" "I") (by decide +kernel)
  have kc_44 := hts (.constantLong RX8 44 (1000000)) (by decide +kernel)
  have hin8 : ∀ w ∈ wsX80, w ∈ wsX8_divideSmall := by decide +kernel
  have hka1 := hka.1
  have hqb := int_lt (tdiv_lt (d := d) (wh_bound hka))
  have loop : ∀ (k : Nat) (g : Nat → Int) (H : Heap) (locs : List Loc) (ls : Array Slot), k ≤ ka → (∀ j, j < k → g j = wdig v j) → (∀ j, k ≤ j → j < n → g j = wdig (v.tdiv d) j) → OA D (a) 8 [.ref (a + 1), .int (iI ((ka : Int))), .int (iI (v.sign))] H → LA E (a + 1) n g H → va_S (fun q => q = a ∨ q = a + 1) s.heap H locs → lv_has ls 7 [(0, .ref (a)), (1, .int (iI ((d : Int)))), (2, .long (lI (rs v d k))), (4, .int (iI ((k : Int) - 1)))] → W p l e ({ frames := 1, cells := 0, slots := 0, locals := 20 } : Room) s m args below meth c H locs (0) (0) (MQ below (pw_Q rvV (fun _ H => WH D E a n (v.tdiv d) H) (fun q => q = a ∨ q = a + 1)) args s (0) (0) (fun q => q = a ∨ q = a + 1)) (F0 m 16 ls []) := by
    intro k
    induction k with
    | zero =>
      intro g H locs ls hk h0 h1 hO hL hS hl
      have hL := hL.up (g := wdig (v.tdiv d)) (fun j hj => h1 j (by omega) hj)
      refine lv_iload hx hb dX8_divideSmall_16 (lv_at hl 3 rfl) ?_
      refine pw_if_lt (tgt := 60) hx hb dX8_divideSmall_18 (by decide) (fun c_18 => ?_) (fun c_18 => absurd c_18 (by omega))
      refine lv_aload_n hx hb dX8_divideSmall_60 rfl (lv_at hl 0 rfl) ?_
      refine pw_callVv (As := []) (rest := []) ⟨hx, hb, hml, hown, hts⟩ (c_measure l D E a n (wdig (v.tdiv d)) ka v.sign hn (fun j hj => by have := wdig_b (v.tdiv d) j; omega)) (cwV 0 hts gX8_divideSmall_X8_measure rfl rfl rfl (by decide +kernel) ⟨Nat.le_of_ble_eq_true rfl, Nat.le_of_ble_eq_true rfl⟩) hK hO rfl ⟨hO, hL⟩ rfl hl.1 rfl (Nat.le_of_ble_eq_true rfl) dX8_divideSmall_61 ⟨Nat.zero_le _, Nat.zero_le _⟩ hS (fun q h => h) (fun H1 locs1 ⟨k, hk, h0, h1, hW⟩ hz1 hk1 hS => ?_)
      exact pw_vret hx hb hr hlocks hS (wh_of hqb.1 hqb.2 (fun j _ => rfl) hk h0 h1 hW) dX8_divideSmall_64
    | succ k ih =>
      intro g H locs ls hk h0 h1 hO hL hS hl
      have hgk := h0 k (by omega)
      have b1 := rs_b v (d := d) (by omega) (k + 1)
      have b2 := wdig_b v k
      have st := small_step v (d := d) (by omega) k
      refine lv_iload hx hb dX8_divideSmall_16 (lv_at hl 3 rfl) ?_
      refine pw_if_lt (tgt := 60) hx hb dX8_divideSmall_18 (by decide) (fun c_18 => absurd c_18 (by omega)) (fun c_18 => ?_)
      refine lv_lload_n hx hb dX8_divideSmall_21 rfl (lv_at hl 2 rfl) ?_
      refine pw_ldc2 (z := 1000000) hx hb hown kc_44 (by decide +kernel) dX8_divideSmall_22 ?_
      refine pw_lmul hx hb dX8_divideSmall_25 ?_
      refine lv_aload_n hx hb dX8_divideSmall_26 rfl (lv_at hl 0 rfl) ?_
      refine pw_get (C := RX8) (T := TX8) (N := 3) hx hb hts hin8 hown hK hO rfl 0 (by decide) lk_7 rfl rfl dX8_divideSmall_27 ?_
      refine lv_iload hx hb dX8_divideSmall_30 (lv_at hl 3 rfl) ?_
      refine pw_lald hx hb hK hL (k) (by omega) (by omega) (by omega) dX8_divideSmall_32 ?_
      refine pw_asl (wdig v k) hgk ?_
      refine pw_ladd hx hb dX8_divideSmall_33 ?_
      refine lv_lstore (lv' := [(5, .long (lI (((rs v d (k + 1)) * (1000000)) + (wdig v k)))), (0, .ref (a)), (1, .int (iI ((d : Int)))), (2, .long (lI (rs v d (k + 1)))), (4, .int (iI (((k + 1 : Nat) : Int) - 1)))]) hx hb dX8_divideSmall_34 hl (by decide) rfl (fun ls hl => ?_)
      refine lv_aload_n hx hb dX8_divideSmall_36 rfl (lv_at hl 1 rfl) ?_
      refine pw_get (C := RX8) (T := TX8) (N := 3) hx hb hts hin8 hown hK hO rfl 0 (by decide) lk_7 rfl rfl dX8_divideSmall_37 ?_
      refine lv_iload hx hb dX8_divideSmall_40 (lv_at hl 4 rfl) ?_
      refine lv_lload hx hb dX8_divideSmall_42 (lv_at hl 0 rfl) ?_
      refine lv_iload_n hx hb dX8_divideSmall_44 rfl (lv_at hl 2 rfl) ?_
      refine pw_i2l hx hb dX8_divideSmall_45 ?_
      refine pw_ldiv hx hb dX8_divideSmall_46 (by omega) ?_
      refine pw_asl (wdig (v.tdiv d) k) st.1 ?_
      refine pw_last hx hb hK hL hS (Or.inr rfl) (k) (by omega) (by omega) (by omega) dX8_divideSmall_47 (fun H1 locs1 hnew hz1 oq hS => ?_)
      have hO := hO.k (oq _ (by omega))
      have hL := hnew
      clear hnew oq hz1
      refine lv_lload hx hb dX8_divideSmall_48 (lv_at hl 0 rfl) ?_
      refine lv_iload_n hx hb dX8_divideSmall_50 rfl (lv_at hl 2 rfl) ?_
      refine pw_i2l hx hb dX8_divideSmall_51 ?_
      refine pw_lrem hx hb dX8_divideSmall_52 (by omega) ?_
      refine pw_asl (rs v d k) st.2 ?_
      refine lv_lstore_n (lv' := [(2, .long (lI (rs v d k))), (5, .long (lI (((rs v d (k + 1)) * (1000000)) + (wdig v k)))), (0, .ref (a)), (1, .int (iI ((d : Int)))), (4, .int (iI (((k + 1 : Nat) : Int) - 1)))]) hx hb dX8_divideSmall_53 rfl hl (by decide) rfl (fun ls hl => ?_)
      refine lv_iinc (v := iI ((k : Int) - 1)) (lv' := [(4, .int (iI ((k : Int) - 1))), (2, .long (lI (rs v d k))), (5, .long (lI (((rs v d (k + 1)) * (1000000)) + (wdig v k)))), (0, .ref (a)), (1, .int (iI ((d : Int))))]) hx hb dX8_divideSmall_54 hl (k := 4) rfl (by show iI _ + iI _ = _; rw [iI_add]; first | rfl | (congr 1; omega)) (by decide) rfl (fun ls hl => ?_)
      refine lv_goto (tgt := 16) hx hb dX8_divideSmall_57 (by decide) ?_
      exact ih _ _ _ _ (by omega) (fun j hj => by rw [ud_n _ _ (by omega)]; exact h0 j (by omega)) (fun j h2 h3 => by
        by_cases e : j = k
        · rw [e, ud_s]
        · rw [ud_n _ _ e]; exact h1 j (by omega) h3) hO hL hS (lv_sub hl [3, 4, 1, 0] rfl)
  refine lv_iload_n hx hb dX8_divideSmall_0 rfl (lv_at hl 1 rfl) ?_
  refine pw_iconst hx hb dX8_divideSmall_1 ?_
  refine pw_icmp_ge (tgt := 6) hx hb dX8_divideSmall_2 (by decide) (fun c_2 => ?_) (fun c_2 => absurd c_2 (by omega))
  refine pw_lconst (z := 0) hx hb dX8_divideSmall_6 ?_
  refine lv_lstore_n (lv' := [(2, .long (lI (0))), (0, .ref (a)), (1, .int (iI ((d : Int))))]) hx hb dX8_divideSmall_7 rfl hl (by decide) rfl (fun ls hl => ?_)
  refine lv_aload_n hx hb dX8_divideSmall_8 rfl (lv_at hl 1 rfl) ?_
  refine pw_get (C := RX8) (T := TX8) (N := 3) hx hb hts hin8 hown hK hO rfl 1 (by decide) lk_13 rfl rfl dX8_divideSmall_9 ?_
  refine pw_iconst hx hb dX8_divideSmall_12 ?_
  refine pw_isub hx hb dX8_divideSmall_13 ?_
  refine lv_istore (lv' := [(4, .int (iI (((ka : Int)) - (1)))), (2, .long (lI (0))), (0, .ref (a)), (1, .int (iI ((d : Int))))]) hx hb dX8_divideSmall_14 hl (by decide) rfl (fun ls hl => ?_)
  have hl : lv_has ls 7 [(0, .ref (a)), (1, .int (iI ((d : Int)))), (2, .long (lI (rs v d ka))), (4, .int (iI ((ka : Int) - 1)))] := by rw [rs_top hka]; exact lv_sub hl [2, 3, 1, 0] rfl
  exact loop ka _ _ _ _ (Nat.le_refl ka) (fun j _ => rfl) (fun j h1 h2 => by rw [wdig_hi hka h1, wdig_zero (Nat.lt_of_lt_of_le (tdiv_lt hka.2.1) (bp_mono h1))]) hO hL hS hl
set_option maxHeartbeats 4000000 in
set_option maxRecDepth 100000 in
/-- reaches(by, shift) -/
theorem c_reaches (l : Launch) (D : va_G) (E : Nat → ClassId) (a n b nb sh : Nat) (x y : Int) (hn : n < 1000) (hnb : nb < 1000) (hs : sh < 1000) (hx0 : 0 ≤ x) (hy0 : 0 < y) : pw_M rvI l D E yX8_reaches wsX8_reaches ({ frames := 0, cells := 0, slots := 0, locals := 0 } : Room) [.ref (a), .ref (b), .int (iI ((sh : Int)))] (fun H => WH D E a n x H ∧ WH D E b nb y H) (fun z H => z = (if y * 1000000 ^ sh ≤ x then 1 else 0) ∧ True) (fun _ => False) (0) (0) := by
  refine pw_of (cc := cX8_reaches) (maxL := 4) (ret := (some .boolean)) (by decide +kernel) rfl (Nat.le_of_ble_eq_true rfl) ?_
  intro p e s m args below meth c hx hb hr hml hts hown hlocks hini hK ⟨⟨ka, ⟨hO, hL⟩, hka⟩, kb, ⟨hOb, hLb⟩, hkb⟩ ls hl
  have hown : s.vm.findClass RX8 = some m.cls := hown
  have hl : lv_has ls 4 [(0, .ref (a)), (1, .ref (b)), (2, .int (iI ((sh : Int))))] := hl
  have hS : va_S (fun _ => False) s.heap s.heap [] := va_S.rf
  have lk_7 := hts (.fieldLink RX8 7 "PolicyWorks$Whole" "limbs" "[J") (by decide +kernel)
  have lk_13 := hts (.fieldLink RX8 13 "PolicyWorks$Whole" "size" "I") (by decide +kernel)
  have hin8 : ∀ w ∈ wsX80, w ∈ wsX8_reaches := by decide +kernel
  have hka1 := hka.1
  have hkb1 := hkb.1
  have hri := reach_iff hx0 (show 0 ≤ y by omega) sh
  have loop : ka = kb + sh → ∀ (k : Nat) (H : Heap) (locs : List Loc) (ls : Array Slot), k ≤ kb → (∀ j, k ≤ j → j < kb → wdig x (j + sh) = wdig y j) → OA D (a) 8 [.ref (a + 1), .int (iI ((ka : Int))), .int (iI (x.sign))] H → LA E (a + 1) n (wdig x) H → OA D (b) 8 [.ref (b + 1), .int (iI ((kb : Int))), .int (iI (y.sign))] H → LA E (b + 1) nb (wdig y) H → va_S (fun _ => False) s.heap H locs → lv_has ls 4 [(0, .ref (a)), (1, .ref (b)), (2, .int (iI ((sh : Int)))), (3, .int (iI ((k : Int) - 1)))] → W p l e ({ frames := 0, cells := 0, slots := 0, locals := 0 } : Room) s m args below meth c H locs (0) (0) (MQ below (pw_Q rvI (fun z H => z = (if y * 1000000 ^ sh ≤ x then 1 else 0) ∧ True) (fun _ => False)) args s (0) (0) (fun _ => False)) (F0 m 39 ls []) := by
    intro hkk k
    have hX := reach_sz (x := x) (k2 := kb) (s := sh) (by rw [← hkk]; exact hka.2.1)
    have hw := fun i => wdig_shift hx0 sh i
    induction k with
    | zero =>
      intro H locs ls hk h0 hO hL hOb hLb hS hl
      have e := cmp_eq hX hkb.2.1 (fun j hj => by rw [hw]; exact h0 j (by omega) hj)
      refine lv_iload_n hx hb dX8_reaches_39 rfl (lv_at hl 3 rfl) ?_
      refine pw_if_lt (tgt := 91) hx hb dX8_reaches_40 (by decide) (fun c_40 => ?_) (fun c_40 => absurd c_40 (by omega))
      refine pw_iconst hx hb dX8_reaches_91 ?_
      exact pw_zret hx hb hr hlocks hS (by omega) ⟨by rw [if_pos (hri.mpr (by omega))], trivial⟩ dX8_reaches_92
    | succ k ih =>
      intro H locs ls hk h0 hO hL hOb hLb hS hl
      have b1 := wdig_b x (k + sh)
      have b2 := wdig_b y k
      refine lv_iload_n hx hb dX8_reaches_39 rfl (lv_at hl 3 rfl) ?_
      refine pw_if_lt (tgt := 91) hx hb dX8_reaches_40 (by decide) (fun c_40 => absurd c_40 (by omega)) (fun c_40 => ?_)
      refine lv_aload_n hx hb dX8_reaches_43 rfl (lv_at hl 0 rfl) ?_
      refine pw_get (C := RX8) (T := TX8) (N := 3) hx hb hts hin8 hown hK hO rfl 0 (by decide) lk_7 rfl rfl dX8_reaches_44 ?_
      refine lv_iload_n hx hb dX8_reaches_47 rfl (lv_at hl 3 rfl) ?_
      refine lv_iload_n hx hb dX8_reaches_48 rfl (lv_at hl 2 rfl) ?_
      refine pw_iadd hx hb dX8_reaches_49 ?_
      refine pw_lald hx hb hK hL (k + sh) (by omega) (by omega) (by omega) dX8_reaches_50 ?_
      refine lv_aload_n hx hb dX8_reaches_51 rfl (lv_at hl 1 rfl) ?_
      refine pw_get (C := RX8) (T := TX8) (N := 3) hx hb hts hin8 hown hK hOb rfl 0 (by decide) lk_7 rfl rfl dX8_reaches_52 ?_
      refine lv_iload_n hx hb dX8_reaches_55 rfl (lv_at hl 3 rfl) ?_
      refine pw_lald hx hb hK hLb (k) (by omega) (by omega) (by omega) dX8_reaches_56 ?_
      refine pw_lcmp_eq (tgt := 85) hx hb dX8_reaches_57 dX8_reaches_58 (by decide) (fun c_57 => ?_) (fun c_57 => ?_)
      · refine lv_iinc (v := iI ((k : Int) - 1)) (lv' := [(3, .int (iI ((k : Int) - 1))), (0, .ref (a)), (1, .ref (b)), (2, .int (iI ((sh : Int))))]) hx hb dX8_reaches_85 hl (k := 3) rfl (by show iI _ + iI _ = _; rw [iI_add]; first | rfl | (congr 1; omega)) (by decide) rfl (fun ls hl => ?_)
        refine lv_goto (tgt := 39) hx hb dX8_reaches_88 (by decide) ?_
        exact ih _ _ _ (by omega) (fun j h1 h2 => by
        by_cases e : j = k
        · rw [e]; exact c_57
        · exact h0 j (by omega) h2) hO hL hOb hLb hS (lv_sub hl [1, 2, 3, 0] rfl)
      · refine lv_aload_n hx hb dX8_reaches_61 rfl (lv_at hl 0 rfl) ?_
        refine pw_get (C := RX8) (T := TX8) (N := 3) hx hb hts hin8 hown hK hO rfl 0 (by decide) lk_7 rfl rfl dX8_reaches_62 ?_
        refine lv_iload_n hx hb dX8_reaches_65 rfl (lv_at hl 3 rfl) ?_
        refine lv_iload_n hx hb dX8_reaches_66 rfl (lv_at hl 2 rfl) ?_
        refine pw_iadd hx hb dX8_reaches_67 ?_
        refine pw_lald hx hb hK hL (k + sh) (by omega) (by omega) (by omega) dX8_reaches_68 ?_
        refine lv_aload_n hx hb dX8_reaches_69 rfl (lv_at hl 1 rfl) ?_
        refine pw_get (C := RX8) (T := TX8) (N := 3) hx hb hts hin8 hown hK hOb rfl 0 (by decide) lk_7 rfl rfl dX8_reaches_70 ?_
        refine lv_iload_n hx hb dX8_reaches_73 rfl (lv_at hl 3 rfl) ?_
        refine pw_lald hx hb hK hLb (k) (by omega) (by omega) (by omega) dX8_reaches_74 ?_
        refine pw_lcmp_le (tgt := 83) hx hb dX8_reaches_75 dX8_reaches_76 (by decide) (fun c_75 => ?_) (fun c_75 => ?_)
        · refine pw_iconst hx hb dX8_reaches_83 ?_
          have hlt := cmp_lt hX hkb.2.1 (by omega) (fun j h1 h2 => by rw [hw]; exact h0 j h1 h2) (show _ < wdig y k by rw [hw]; omega)
          exact pw_zret hx hb hr hlocks hS (by omega) ⟨by rw [if_neg (fun h => by have := hri.mp h; omega)], trivial⟩ dX8_reaches_84
        · refine pw_iconst hx hb dX8_reaches_79 ?_
          refine lv_goto (tgt := 84) hx hb dX8_reaches_80 (by decide) ?_
          have hlt := cmp_lt hkb.2.1 hX (by omega) (fun j h1 h2 => by rw [hw]; exact (h0 j h1 h2).symm) (show wdig y k < _ by rw [hw]; exact c_75)
          exact pw_zret hx hb hr hlocks hS (by omega) ⟨by rw [if_pos (hri.mpr (by omega))], trivial⟩ dX8_reaches_84
  refine lv_aload_n hx hb dX8_reaches_0 rfl (lv_at hl 0 rfl) ?_
  refine pw_get (C := RX8) (T := TX8) (N := 3) hx hb hts hin8 hown hK hO rfl 1 (by decide) lk_13 rfl rfl dX8_reaches_1 ?_
  refine lv_aload_n hx hb dX8_reaches_4 rfl (lv_at hl 1 rfl) ?_
  refine pw_get (C := RX8) (T := TX8) (N := 3) hx hb hts hin8 hown hK hOb rfl 1 (by decide) lk_13 rfl rfl dX8_reaches_5 ?_
  refine lv_iload_n hx hb dX8_reaches_8 rfl (lv_at hl 2 rfl) ?_
  refine pw_iadd hx hb dX8_reaches_9 ?_
  refine pw_icmp_eq (tgt := 32) hx hb dX8_reaches_10 (by decide) (fun c_10 => ?_) (fun c_10 => ?_)
  · refine lv_aload_n hx hb dX8_reaches_32 rfl (lv_at hl 1 rfl) ?_
    refine pw_get (C := RX8) (T := TX8) (N := 3) hx hb hts hin8 hown hK hOb rfl 1 (by decide) lk_13 rfl rfl dX8_reaches_33 ?_
    refine pw_iconst hx hb dX8_reaches_36 ?_
    refine pw_isub hx hb dX8_reaches_37 ?_
    refine lv_istore_n (lv' := [(3, .int (iI (((kb : Int)) - (1)))), (0, .ref (a)), (1, .ref (b)), (2, .int (iI ((sh : Int))))]) hx hb dX8_reaches_38 rfl hl (by decide) rfl (fun ls hl => ?_)
    exact loop (by omega) kb _ _ _ (Nat.le_refl kb) (fun j h1 h2 => by omega) hO hL hOb hLb hS (lv_sub hl [1, 2, 3, 0] rfl)
  · refine lv_aload_n hx hb dX8_reaches_13 rfl (lv_at hl 0 rfl) ?_
    refine pw_get (C := RX8) (T := TX8) (N := 3) hx hb hts hin8 hown hK hO rfl 1 (by decide) lk_13 rfl rfl dX8_reaches_14 ?_
    refine lv_aload_n hx hb dX8_reaches_17 rfl (lv_at hl 1 rfl) ?_
    refine pw_get (C := RX8) (T := TX8) (N := 3) hx hb hts hin8 hown hK hOb rfl 1 (by decide) lk_13 rfl rfl dX8_reaches_18 ?_
    refine lv_iload_n hx hb dX8_reaches_21 rfl (lv_at hl 2 rfl) ?_
    refine pw_iadd hx hb dX8_reaches_22 ?_
    refine pw_icmp_le (tgt := 30) hx hb dX8_reaches_23 (by decide) (fun c_23 => ?_) (fun c_23 => ?_)
    · refine pw_iconst hx hb dX8_reaches_30 ?_
      exact pw_zret hx hb hr hlocks hS (by omega) ⟨by rw [if_neg (reach_lt hx0 hy0 hka hkb (by omega))], trivial⟩ dX8_reaches_31
    · refine pw_iconst hx hb dX8_reaches_26 ?_
      refine lv_goto (tgt := 31) hx hb dX8_reaches_27 (by decide) ?_
      exact pw_zret hx hb hr hlocks hS (by omega) ⟨by rw [if_pos (reach_gt hx0 (by omega) hka hkb (by omega))], trivial⟩ dX8_reaches_31
set_option maxHeartbeats 4000000 in
set_option maxRecDepth 100000 in
/-- guess(by, shift) -/
theorem c_guess (l : Launch) (D : va_G) (E : Nat → ClassId) (a n b nb sh : Nat) (x y : Int) (hn : n < 1000) (hnb : nb < 1000) (hs : sh < 1000) (hx0 : 0 ≤ x) (hy0 : 0 < y) (hxy : x < y * 1000000 ^ (sh + 1)) : pw_M rvL l D E yX8_guess wsX8_guess ({ frames := 1, cells := 0, slots := 0, locals := 21 } : Room) [.ref (a), .ref (b), .int (iI ((sh : Int)))] (fun H => WH D E a n x H ∧ WH D E b nb y H) (fun z H => 0 ≤ z ∧ z * (y * 1000000 ^ sh) ≤ x ∧ x < (z + 3) * (y * 1000000 ^ sh)) (fun _ => False) (0) (0) := by
  refine pw_of (cc := cX8_guess) (maxL := 8) (ret := (some .long)) (by decide +kernel) rfl (Nat.le_of_ble_eq_true rfl) ?_
  intro p e s m args below meth c hx hb hr hml hts hown hlocks hini hK ⟨⟨ka, ⟨hO, hL⟩, hka⟩, kb, ⟨hOb, hLb⟩, hkb⟩ ls hl
  have hown : s.vm.findClass RX8 = some m.cls := hown
  have hl : lv_has ls 8 [(0, .ref (a)), (1, .ref (b)), (2, .int (iI ((sh : Int))))] := hl
  have hS : va_S (fun _ => False) s.heap s.heap [] := va_S.rf
  have lk_13 := hts (.fieldLink RX8 13 "PolicyWorks$Whole" "size" "I") (by decide +kernel)
  have kc_44 := hts (.constantLong RX8 44 (1000000)) (by decide +kernel)
  have hin8 : ∀ w ∈ wsX80, w ∈ wsX8_guess := by decide +kernel
  have hka1 := hka.1
  have hkb1 := hkb.1
  have hkb0 : 0 < kb := Nat.pos_of_ne_zero (fun e => by have := (wk_z hkb).mp e; omega)
  have hxs : x.natAbs < 1000000 ^ (kb + sh + 1) := by
    have h1 := hkb.2.1
    have e : ((y.natAbs * 1000000 ^ (sh + 1) : Nat) : Int) = y * 1000000 ^ (sh + 1) := by rw [Int.natCast_mul, bp_cast, abs_pos (by omega)]
    have h2 : x.natAbs < y.natAbs * 1000000 ^ (sh + 1) := by omega
    have h3 : y.natAbs * 1000000 ^ (sh + 1) ≤ 1000000 ^ kb * 1000000 ^ (sh + 1) := Nat.mul_le_mul_right _ (by omega)
    rw [← Nat.pow_add] at h3
    exact Nat.lt_of_lt_of_le h2 h3
  obtain ⟨Mn, hM, hMb, hM1, hM2⟩ := mine_ok hx0 (show 0 < kb + sh by omega) hxs
  obtain ⟨On, hO1, hOb1, hOb2, hO3, hO4⟩ := others_ok hy0 hkb
  have r1 := lb_b x ((kb + sh : Nat) : Int)
  have r2 := lb_b x (((kb + sh : Nat) : Int) - 1)
  refine lv_aload_n hx hb dX8_guess_0 rfl (lv_at hl 1 rfl) ?_
  refine pw_get (C := RX8) (T := TX8) (N := 3) hx hb hts hin8 hown hK hOb rfl 1 (by decide) lk_13 rfl rfl dX8_guess_1 ?_
  refine lv_iload_n hx hb dX8_guess_4 rfl (lv_at hl 2 rfl) ?_
  refine pw_iadd hx hb dX8_guess_5 ?_
  refine pw_asi (((kb + sh : Nat) : Int)) (by omega) ?_
  refine lv_istore_n (lv' := [(3, .int (iI (((kb + sh : Nat) : Int)))), (0, .ref (a)), (1, .ref (b)), (2, .int (iI ((sh : Int))))]) hx hb dX8_guess_6 rfl hl (by decide) rfl (fun ls hl => ?_)
  refine lv_aload_n hx hb dX8_guess_7 rfl (lv_at hl 1 rfl) ?_
  refine lv_iload_n hx hb dX8_guess_8 rfl (lv_at hl 0 rfl) ?_
  refine pw_callVl (As := [.int (iI (((kb + sh : Nat) : Int)))]) (rest := []) ⟨hx, hb, hml, hown, hts⟩ (c_limbAt l D E a n (wdig x) ka x.sign (((kb + sh : Nat) : Int)) hn (by omega) (by omega) (by omega)) (cwV 1 hts gX8_guess_X8_limbAt rfl rfl rfl (by decide +kernel) ⟨Nat.le_of_ble_eq_true rfl, Nat.le_of_ble_eq_true rfl⟩) hK hO rfl ⟨hO, hL⟩ rfl hl.1 rfl (Nat.le_of_ble_eq_true rfl) dX8_guess_9 ⟨Nat.zero_le _, Nat.zero_le _⟩ hS (fun q h => h.elim) (fun z H1 locs1 hz hz1 hk1 hS => ?_)
  have hO := hO.k (hk1 _ hO.lt (fun h => h))
  have hL := hL.k (hk1 _ hL.lt (fun h => h))
  have hOb := hOb.k (hk1 _ hOb.lt (fun h => h))
  have hLb := hLb.k (hk1 _ hLb.lt (fun h => h))
  have hz : z = lb x (((kb + sh : Nat) : Int)) := by rw [hz.1]; exact lb_at hka _
  subst hz
  refine pw_ldc2 (z := 1000000) hx hb hown kc_44 (by decide +kernel) dX8_guess_12 ?_
  refine pw_lmul hx hb dX8_guess_15 ?_
  refine lv_aload_n hx hb dX8_guess_16 rfl (lv_at hl 1 rfl) ?_
  refine lv_iload_n hx hb dX8_guess_17 rfl (lv_at hl 0 rfl) ?_
  refine pw_iconst hx hb dX8_guess_18 ?_
  refine pw_isub hx hb dX8_guess_19 ?_
  refine pw_callVl (As := [.int (iI ((((kb + sh : Nat) : Int)) - (1)))]) (rest := [.long (lI ((lb x (((kb + sh : Nat) : Int))) * (1000000)))]) ⟨hx, hb, hml, hown, hts⟩ (c_limbAt l D E a n (wdig x) ka x.sign (((kb + sh : Nat) : Int) - 1) hn (by omega) (by omega) (by omega)) (cwV 1 hts gX8_guess_X8_limbAt rfl rfl rfl (by decide +kernel) ⟨Nat.le_of_ble_eq_true rfl, Nat.le_of_ble_eq_true rfl⟩) hK hO rfl ⟨hO, hL⟩ rfl hl.1 rfl (Nat.le_of_ble_eq_true rfl) dX8_guess_20 ⟨Nat.zero_le _, Nat.zero_le _⟩ hS (fun q h => h.elim) (fun z H1 locs1 hz hz1 hk1 hS => ?_)
  have hO := hO.k (hk1 _ hO.lt (fun h => h))
  have hL := hL.k (hk1 _ hL.lt (fun h => h))
  have hOb := hOb.k (hk1 _ hOb.lt (fun h => h))
  have hLb := hLb.k (hk1 _ hLb.lt (fun h => h))
  have hz : z = lb x (((kb + sh : Nat) : Int) - 1) := by rw [hz.1]; exact lb_at hka _
  subst hz
  refine pw_ladd hx hb dX8_guess_23 ?_
  refine pw_ldc2 (z := 1000000) hx hb hown kc_44 (by decide +kernel) dX8_guess_24 ?_
  refine pw_lmul hx hb dX8_guess_27 ?_
  refine lv_aload_n hx hb dX8_guess_28 rfl (lv_at hl 1 rfl) ?_
  refine lv_iload_n hx hb dX8_guess_29 rfl (lv_at hl 0 rfl) ?_
  refine pw_iconst hx hb dX8_guess_30 ?_
  refine pw_isub hx hb dX8_guess_31 ?_
  refine pw_callVl (As := [.int (iI ((((kb + sh : Nat) : Int)) - (2)))]) (rest := [.long (lI ((((lb x (((kb + sh : Nat) : Int))) * (1000000)) + (lb x (((kb + sh : Nat) : Int) - 1))) * (1000000)))]) ⟨hx, hb, hml, hown, hts⟩ (c_limbAt l D E a n (wdig x) ka x.sign (((kb + sh : Nat) : Int) - 2) hn (by omega) (by omega) (by omega)) (cwV 1 hts gX8_guess_X8_limbAt rfl rfl rfl (by decide +kernel) ⟨Nat.le_of_ble_eq_true rfl, Nat.le_of_ble_eq_true rfl⟩) hK hO rfl ⟨hO, hL⟩ rfl hl.1 rfl (Nat.le_of_ble_eq_true rfl) dX8_guess_32 ⟨Nat.zero_le _, Nat.zero_le _⟩ hS (fun q h => h.elim) (fun z H1 locs1 hz hz1 hk1 hS => ?_)
  have hO := hO.k (hk1 _ hO.lt (fun h => h))
  have hL := hL.k (hk1 _ hL.lt (fun h => h))
  have hOb := hOb.k (hk1 _ hOb.lt (fun h => h))
  have hLb := hLb.k (hk1 _ hLb.lt (fun h => h))
  have hz : z = lb x (((kb + sh : Nat) : Int) - 2) := by rw [hz.1]; exact lb_at hka _
  subst hz
  refine pw_ladd hx hb dX8_guess_35 ?_
  refine pw_asl ((Mn : Int)) hM ?_
  refine lv_lstore (lv' := [(4, .long (lI ((Mn : Int)))), (3, .int (iI (((kb + sh : Nat) : Int)))), (0, .ref (a)), (1, .ref (b)), (2, .int (iI ((sh : Int))))]) hx hb dX8_guess_36 hl (by decide) rfl (fun ls hl => ?_)
  refine lv_aload_n hx hb dX8_guess_38 rfl (lv_at hl 3 rfl) ?_
  refine lv_aload_n hx hb dX8_guess_39 rfl (lv_at hl 3 rfl) ?_
  refine pw_get (C := RX8) (T := TX8) (N := 3) hx hb hts hin8 hown hK hOb rfl 1 (by decide) lk_13 rfl rfl dX8_guess_40 ?_
  refine pw_iconst hx hb dX8_guess_43 ?_
  refine pw_isub hx hb dX8_guess_44 ?_
  refine pw_callVl (As := [.int (iI (((kb : Int)) - (1)))]) (rest := []) ⟨hx, hb, hml, hown, hts⟩ (c_limbAt l D E b nb (wdig y) kb y.sign ((kb : Int) - 1) hnb (by omega) (by omega) (by omega)) (cwV 1 hts gX8_guess_X8_limbAt rfl rfl rfl (by decide +kernel) ⟨Nat.le_of_ble_eq_true rfl, Nat.le_of_ble_eq_true rfl⟩) hK hOb rfl ⟨hOb, hLb⟩ rfl hl.1 rfl (Nat.le_of_ble_eq_true rfl) dX8_guess_45 ⟨Nat.zero_le _, Nat.zero_le _⟩ hS (fun q h => h.elim) (fun z H1 locs1 hz hz1 hk1 hS => ?_)
  have hO := hO.k (hk1 _ hO.lt (fun h => h))
  have hL := hL.k (hk1 _ hL.lt (fun h => h))
  have hOb := hOb.k (hk1 _ hOb.lt (fun h => h))
  have hLb := hLb.k (hk1 _ hLb.lt (fun h => h))
  have hz : z = lb y ((kb : Int) - 1) := by rw [hz.1]; exact lb_at hkb _
  subst hz
  refine pw_ldc2 (z := 1000000) hx hb hown kc_44 (by decide +kernel) dX8_guess_48 ?_
  refine pw_lmul hx hb dX8_guess_51 ?_
  refine lv_aload_n hx hb dX8_guess_52 rfl (lv_at hl 3 rfl) ?_
  refine lv_aload_n hx hb dX8_guess_53 rfl (lv_at hl 3 rfl) ?_
  refine pw_get (C := RX8) (T := TX8) (N := 3) hx hb hts hin8 hown hK hOb rfl 1 (by decide) lk_13 rfl rfl dX8_guess_54 ?_
  refine pw_iconst hx hb dX8_guess_57 ?_
  refine pw_isub hx hb dX8_guess_58 ?_
  refine pw_callVl (As := [.int (iI (((kb : Int)) - (2)))]) (rest := [.long (lI ((lb y ((kb : Int) - 1)) * (1000000)))]) ⟨hx, hb, hml, hown, hts⟩ (c_limbAt l D E b nb (wdig y) kb y.sign ((kb : Int) - 2) hnb (by omega) (by omega) (by omega)) (cwV 1 hts gX8_guess_X8_limbAt rfl rfl rfl (by decide +kernel) ⟨Nat.le_of_ble_eq_true rfl, Nat.le_of_ble_eq_true rfl⟩) hK hOb rfl ⟨hOb, hLb⟩ rfl hl.1 rfl (Nat.le_of_ble_eq_true rfl) dX8_guess_59 ⟨Nat.zero_le _, Nat.zero_le _⟩ hS (fun q h => h.elim) (fun z H1 locs1 hz hz1 hk1 hS => ?_)
  have hO := hO.k (hk1 _ hO.lt (fun h => h))
  have hL := hL.k (hk1 _ hL.lt (fun h => h))
  have hOb := hOb.k (hk1 _ hOb.lt (fun h => h))
  have hLb := hLb.k (hk1 _ hLb.lt (fun h => h))
  have hz : z = lb y ((kb : Int) - 2) := by rw [hz.1]; exact lb_at hkb _
  subst hz
  refine pw_ladd hx hb dX8_guess_62 ?_
  refine pw_lconst (z := 1) hx hb dX8_guess_63 ?_
  refine pw_ladd hx hb dX8_guess_64 ?_
  refine pw_asl ((On : Int)) hO1 ?_
  refine lv_lstore (lv' := [(6, .long (lI ((On : Int)))), (4, .long (lI ((Mn : Int)))), (3, .int (iI (((kb + sh : Nat) : Int)))), (0, .ref (a)), (1, .ref (b)), (2, .int (iI ((sh : Int))))]) hx hb dX8_guess_65 hl (by decide) rfl (fun ls hl => ?_)
  refine lv_lload hx hb dX8_guess_67 (lv_at hl 0 rfl) ?_
  refine pw_lconst (z := 0) hx hb dX8_guess_69 ?_
  refine pw_lcmp_le (tgt := 82) hx hb dX8_guess_70 dX8_guess_71 (by decide) (fun c_70 => absurd c_70 (by omega)) (fun c_70 => ?_)
  refine lv_lload hx hb dX8_guess_74 (lv_at hl 1 rfl) ?_
  refine lv_lload hx hb dX8_guess_76 (lv_at hl 0 rfl) ?_
  refine pw_ldiv hx hb dX8_guess_78 (by omega) ?_
  refine pw_asl (((Mn / On : Nat) : Int)) (nat_td Mn On) ?_
  refine lv_goto (tgt := 83) hx hb dX8_guess_79 (by decide) ?_
  exact pw_lret hx hb hr hlocks hS (guess_int hx0 hy0 hxy hM1 hM2 hO3 hO4 hOb1) dX8_guess_83
set_option maxHeartbeats 4000000 in
set_option maxRecDepth 100000 in
/-- takeAway(by, shift, times) -/
theorem c_takeAway (l : Launch) (D : va_G) (E : Nat → ClassId) (a n b nb sh : Nat) (x y t : Int) (hn : n < 1000) (hnb : nb < 1000) (hs : sh < 1000) (hx0 : 0 ≤ x) (hy0 : 0 < y) (ht1 : 1 ≤ t) (ht2 : t ≤ 1000000) (hle : t * (y * 1000000 ^ sh) ≤ x) (hab : a + 1 < b ∨ b + 1 < a) : pw_M rvV l D E yX8_takeAway wsX8_takeAway ({ frames := 1, cells := 0, slots := 0, locals := 25 } : Room) [.ref (a), .ref (b), .int (iI ((sh : Int))), .long (lI (t))] (fun H => WH D E a n x H ∧ WH D E b nb y H) (fun _ H => WH D E a n (x - t * (y * 1000000 ^ sh)) H) (fun q => q = a ∨ q = a + 1) (0) (0) := by
  refine pw_of (cc := cX8_takeAway) (maxL := 10) (ret := none) (by decide +kernel) rfl (Nat.le_of_ble_eq_true rfl) ?_
  intro p e s m args below meth c hx hb hr hml hts hown hlocks hini hK ⟨⟨ka, ⟨hO, hL⟩, hka⟩, kb, ⟨hOb, hLb⟩, hkb⟩ ls hl
  have hown : s.vm.findClass RX8 = some m.cls := hown
  have hl : lv_has ls 10 [(0, .ref (a)), (1, .ref (b)), (2, .int (iI ((sh : Int)))), (3, .long (lI (t)))] := hl
  have hS : va_S (fun q => q = a ∨ q = a + 1) s.heap s.heap [] := va_S.rf
  have lk_7 := hts (.fieldLink RX8 7 "PolicyWorks$Whole" "limbs" "[J") (by decide +kernel)
  have lk_13 := hts (.fieldLink RX8 13 "PolicyWorks$Whole" "size" "I") (by decide +kernel)
  have kc_44 := hts (.constantLong RX8 44 (1000000)) (by decide +kernel)
  have hin8 : ∀ w ∈ wsX80, w ∈ wsX8_takeAway := by decide +kernel
  have hka1 := hka.1
  have hkb1 := hkb.1
  have hpos : 0 ≤ y * 1000000 ^ sh := Int.mul_nonneg (by omega) (Int.le_of_lt (bp_posI sh))
  have hyx : y * 1000000 ^ sh ≤ x := by
    have : 1 * (y * 1000000 ^ sh) ≤ t * (y * 1000000 ^ sh) := Int.mul_le_mul_of_nonneg_right ht1 hpos
    omega
  have hkk : kb + sh ≤ ka := by
    rcases Nat.lt_or_ge ka (kb + sh) with h | h
    · exact absurd hyx (reach_lt hx0 hy0 hka hkb h)
    · exact h
  have hwv := wv_ta (x := x) (y := y) (t := t) (s := sh) hkb hkk hka.2.1
  have hxl := int_lt hka.2.1
  have hnn : 0 ≤ x - t * (y * 1000000 ^ sh) := by omega
  have htp : 0 ≤ t * (y * 1000000 ^ sh) := Int.mul_nonneg (by omega) hpos
  have hc0 := sc_nn (f := ta x y t sh) (n := ka) (by rw [hwv]; exact hnn)
  have hdig := settle_pos (f := ta x y t sh) (n := ka) (by rw [hwv]; omega) (by rw [hwv]; omega) hc0
  rw [hwv] at hdig
  have hres : (x - t * (y * 1000000 ^ sh)).natAbs < 1000000 ^ ka := nat_lt (by omega) (by omega)
  have hfb : ∀ j, -9000000000000000000 ≤ ta x y t sh j ∧ ta x y t sh j ≤ 9000000000000000000 := fun j => by
    have h1 := wdig_b x j
    have h2 := mul_b2 (x := t) (by omega) (lb_b y ((j : Int) - (sh : Int)))
    unfold ta
    split <;> omega
  have hvb := int_lt (Nat.lt_of_lt_of_le hres (bp_mono hka1))
  have loop : ∀ (k i : Nat) (g : Nat → Int) (H : Heap) (locs : List Loc) (ls : Array Slot), i + k = ka → sh ≤ i → (∀ j, j < i → g j = sd (ta x y t sh) j) → (∀ j, i ≤ j → j < n → g j = wdig x j) → OA D (a) 8 [.ref (a + 1), .int (iI ((ka : Int))), .int (iI (x.sign))] H → LA E (a + 1) n g H → OA D (b) 8 [.ref (b + 1), .int (iI ((kb : Int))), .int (iI (y.sign))] H → LA E (b + 1) nb (wdig y) H → va_S (fun q => q = a ∨ q = a + 1) s.heap H locs → lv_has ls 10 [(0, .ref (a)), (1, .ref (b)), (2, .int (iI ((sh : Int)))), (3, .long (lI (t))), (5, .long (lI (sc (ta x y t sh) i))), (7, .int (iI ((i : Int))))] → W p l e ({ frames := 1, cells := 0, slots := 0, locals := 25 } : Room) s m args below meth c H locs (0) (0) (MQ below (pw_Q rvV (fun _ H => WH D E a n (x - t * (y * 1000000 ^ sh)) H) (fun q => q = a ∨ q = a + 1)) args s (0) (0) (fun q => q = a ∨ q = a + 1)) (F0 m 6 ls []) := by
    intro k
    induction k with
    | zero =>
      intro i g H locs ls hi hsi h0 h1 hO hL hOb hLb hS hl
      have hL := hL.up (g := wdig (x - t * (y * 1000000 ^ sh))) (fun j hj => by
        by_cases e : j < i
        · rw [h0 j e]; exact hdig j (by omega)
        · rw [h1 j (by omega) hj, wdig_hi hka (by omega), wdig_zero (Nat.lt_of_lt_of_le hres (bp_mono (by omega)))])
      refine lv_iload hx hb dX8_takeAway_6 (lv_at hl 5 rfl) ?_
      refine lv_aload_n hx hb dX8_takeAway_8 rfl (lv_at hl 0 rfl) ?_
      refine pw_get (C := RX8) (T := TX8) (N := 3) hx hb hts hin8 hown hK hO rfl 1 (by decide) lk_13 rfl rfl dX8_takeAway_9 ?_
      refine pw_icmp_ge (tgt := 70) hx hb dX8_takeAway_12 (by decide) (fun c_12 => ?_) (fun c_12 => absurd c_12 (by omega))
      refine lv_aload_n hx hb dX8_takeAway_70 rfl (lv_at hl 0 rfl) ?_
      refine pw_callVv (As := []) (rest := []) ⟨hx, hb, hml, hown, hts⟩ (c_measure l D E a n (wdig (x - t * (y * 1000000 ^ sh))) ka x.sign hn (fun j hj => by have := wdig_b (x - t * (y * 1000000 ^ sh)) j; omega)) (cwV 0 hts gX8_takeAway_X8_measure rfl rfl rfl (by decide +kernel) ⟨Nat.le_of_ble_eq_true rfl, Nat.le_of_ble_eq_true rfl⟩) hK hO rfl ⟨hO, hL⟩ rfl hl.1 rfl (Nat.le_of_ble_eq_true rfl) dX8_takeAway_71 ⟨Nat.zero_le _, Nat.zero_le _⟩ hS (fun q h => h) (fun H1 locs1 ⟨k, hk, h0, h1, hW⟩ hz1 hk1 hS => ?_)
      have hOb := hOb.k (hk1 _ hOb.lt (by (try dsimp only); omega))
      have hLb := hLb.k (hk1 _ hLb.lt (by (try dsimp only); omega))
      exact pw_vret hx hb hr hlocks hS (wh_of hvb.1 hvb.2 (fun j _ => rfl) hk h0 h1 hW) dX8_takeAway_74
    | succ k ih =>
      intro i g H locs ls hi hsi h0 h1 hO hL hOb hLb hS hl
      have hgi := h1 i (Nat.le_refl i) (by omega)
      have hf1 := hfb i
      have hcb := sc_b (f := ta x y t sh) (n := ka) (fun j _ => hfb j) i (by omega)
      have eta : ta x y t sh i = wdig x i - t * lb y ((i : Int) - (sh : Int)) := by unfold ta; rw [if_neg (by omega)]
      refine lv_iload hx hb dX8_takeAway_6 (lv_at hl 5 rfl) ?_
      refine lv_aload_n hx hb dX8_takeAway_8 rfl (lv_at hl 0 rfl) ?_
      refine pw_get (C := RX8) (T := TX8) (N := 3) hx hb hts hin8 hown hK hO rfl 1 (by decide) lk_13 rfl rfl dX8_takeAway_9 ?_
      refine pw_icmp_ge (tgt := 70) hx hb dX8_takeAway_12 (by decide) (fun c_12 => absurd c_12 (by omega)) (fun c_12 => ?_)
      refine lv_aload_n hx hb dX8_takeAway_15 rfl (lv_at hl 0 rfl) ?_
      refine pw_get (C := RX8) (T := TX8) (N := 3) hx hb hts hin8 hown hK hO rfl 0 (by decide) lk_7 rfl rfl dX8_takeAway_16 ?_
      refine lv_iload hx hb dX8_takeAway_19 (lv_at hl 5 rfl) ?_
      refine pw_lald hx hb hK hL (i) rfl (by omega) (by omega) dX8_takeAway_21 ?_
      refine pw_asl (wdig x i) hgi ?_
      refine lv_lload hx hb dX8_takeAway_22 (lv_at hl 4 rfl) ?_
      refine pw_ladd hx hb dX8_takeAway_24 ?_
      refine lv_lload_n hx hb dX8_takeAway_25 rfl (lv_at hl 3 rfl) ?_
      refine lv_aload_n hx hb dX8_takeAway_26 rfl (lv_at hl 1 rfl) ?_
      refine lv_iload hx hb dX8_takeAway_27 (lv_at hl 5 rfl) ?_
      refine lv_iload_n hx hb dX8_takeAway_29 rfl (lv_at hl 2 rfl) ?_
      refine pw_isub hx hb dX8_takeAway_30 ?_
      refine pw_callVl (As := [.int (iI (((i : Int)) - ((sh : Int))))]) (rest := [.long (lI (t)), .long (lI ((wdig x i) + (sc (ta x y t sh) i)))]) ⟨hx, hb, hml, hown, hts⟩ (c_limbAt l D E b nb (wdig y) kb y.sign ((i : Int) - (sh : Int)) hnb (by omega) (by omega) (by omega)) (cwV 1 hts gX8_takeAway_X8_limbAt rfl rfl rfl (by decide +kernel) ⟨Nat.le_of_ble_eq_true rfl, Nat.le_of_ble_eq_true rfl⟩) hK hOb rfl ⟨hOb, hLb⟩ rfl hl.1 rfl (Nat.le_of_ble_eq_true rfl) dX8_takeAway_31 ⟨Nat.zero_le _, Nat.zero_le _⟩ hS (fun q h => h.elim) (fun z H1 locs1 hz hz1 hk1 hS => ?_)
      have hO := hO.k (hk1 _ hO.lt (fun h => h))
      have hL := hL.k (hk1 _ hL.lt (fun h => h))
      have hOb := hOb.k (hk1 _ hOb.lt (fun h => h))
      have hLb := hLb.k (hk1 _ hLb.lt (fun h => h))
      have hz : z = lb y ((i : Int) - (sh : Int)) := by rw [hz.1]; exact lb_at hkb _
      subst hz
      refine pw_lmul hx hb dX8_takeAway_34 ?_
      refine pw_lsub hx hb dX8_takeAway_35 ?_
      refine pw_asl (ta x y t sh i + sc (ta x y t sh) i) (by rw [eta]; omega) ?_
      refine lv_lstore (lv' := [(8, .long (lI (ta x y t sh i + sc (ta x y t sh) i))), (0, .ref (a)), (1, .ref (b)), (2, .int (iI ((sh : Int)))), (3, .long (lI (t))), (5, .long (lI (sc (ta x y t sh) i))), (7, .int (iI ((i : Int))))]) hx hb dX8_takeAway_36 hl (by decide) rfl (fun ls hl => ?_)
      refine lv_lload hx hb dX8_takeAway_38 (lv_at hl 0 rfl) ?_
      refine pw_ldc2 (z := 1000000) hx hb hown kc_44 (by decide +kernel) dX8_takeAway_40 ?_
      refine pw_callSl (As := [.long (lI (ta x y t sh i + sc (ta x y t sh) i)), .long (lI (1000000))]) (rest := []) ⟨hx, hb, hml, hown, hts⟩ (c_floorDiv l D E (ta x y t sh i + sc (ta x y t sh) i) 1000000 (by omega) (by omega) (by omega) (by omega)) (va_cwS 2 hts gX8_takeAway_J9_floorDiv_f86c9 rfl rfl rfl (by decide +kernel) ⟨Nat.le_of_ble_eq_true rfl, Nat.le_of_ble_eq_true rfl⟩) hK trivial rfl hl.1 rfl (Nat.le_of_ble_eq_true rfl) dX8_takeAway_43 ⟨Nat.zero_le _, Nat.zero_le _⟩ hS (fun q h => h.elim) (fun z H1 locs1 hz hz1 hk1 hS => ?_)
      have hO := hO.k (hk1 _ hO.lt (fun h => h))
      have hL := hL.k (hk1 _ hL.lt (fun h => h))
      have hOb := hOb.k (hk1 _ hOb.lt (fun h => h))
      have hLb := hLb.k (hk1 _ hLb.lt (fun h => h))
      have hz : z = sc (ta x y t sh) (i + 1) := hz.1
      subst hz
      refine lv_lstore (lv' := [(5, .long (lI (sc (ta x y t sh) (i + 1)))), (8, .long (lI (ta x y t sh i + sc (ta x y t sh) i))), (0, .ref (a)), (1, .ref (b)), (2, .int (iI ((sh : Int)))), (3, .long (lI (t))), (7, .int (iI ((i : Int))))]) hx hb dX8_takeAway_46 hl (by decide) rfl (fun ls hl => ?_)
      refine lv_aload_n hx hb dX8_takeAway_48 rfl (lv_at hl 2 rfl) ?_
      refine pw_get (C := RX8) (T := TX8) (N := 3) hx hb hts hin8 hown hK hO rfl 0 (by decide) lk_7 rfl rfl dX8_takeAway_49 ?_
      refine lv_iload hx hb dX8_takeAway_52 (lv_at hl 6 rfl) ?_
      refine lv_lload hx hb dX8_takeAway_54 (lv_at hl 1 rfl) ?_
      refine lv_lload hx hb dX8_takeAway_56 (lv_at hl 0 rfl) ?_
      refine pw_ldc2 (z := 1000000) hx hb hown kc_44 (by decide +kernel) dX8_takeAway_58 ?_
      refine pw_lmul hx hb dX8_takeAway_61 ?_
      refine pw_lsub hx hb dX8_takeAway_62 ?_
      refine pw_last hx hb hK hL hS (Or.inr rfl) (i) rfl (by omega) (by omega) dX8_takeAway_63 (fun H1 locs1 hnew hz1 oq hS => ?_)
      have hO := hO.k (oq _ (by omega))
      have hOb := hOb.k (oq _ (by omega))
      have hLb := hLb.k (oq _ (by omega))
      have hL := hnew
      clear hnew oq hz1
      refine lv_iinc (v := iI (((i + 1 : Nat) : Int))) (lv' := [(7, .int (iI (((i + 1 : Nat) : Int)))), (5, .long (lI (sc (ta x y t sh) (i + 1)))), (8, .long (lI (ta x y t sh i + sc (ta x y t sh) i))), (0, .ref (a)), (1, .ref (b)), (2, .int (iI ((sh : Int)))), (3, .long (lI (t)))]) hx hb dX8_takeAway_64 hl (k := 6) rfl (by show iI _ + iI _ = _; rw [iI_add]; first | rfl | (congr 1; omega)) (by decide) rfl (fun ls hl => ?_)
      refine lv_goto (tgt := 6) hx hb dX8_takeAway_67 (by decide) ?_
      exact ih (i + 1) _ _ _ _ (by omega) (by omega) (fun j hj => ud_ext h0 rfl j hj) (fun j h2 h3 => by rw [ud_n _ _ (by omega)]; exact h1 j (by omega) h3) hO hL hOb hLb hS (lv_sub hl [3, 4, 5, 6, 1, 0] rfl)
  refine pw_lconst (z := 0) hx hb dX8_takeAway_0 ?_
  refine lv_lstore (lv' := [(5, .long (lI (0))), (0, .ref (a)), (1, .ref (b)), (2, .int (iI ((sh : Int)))), (3, .long (lI (t)))]) hx hb dX8_takeAway_1 hl (by decide) rfl (fun ls hl => ?_)
  refine lv_iload_n hx hb dX8_takeAway_3 rfl (lv_at hl 3 rfl) ?_
  refine lv_istore (lv' := [(7, .int (iI ((sh : Int)))), (5, .long (lI (0))), (0, .ref (a)), (1, .ref (b)), (2, .int (iI ((sh : Int)))), (3, .long (lI (t)))]) hx hb dX8_takeAway_4 hl (by decide) rfl (fun ls hl => ?_)
  have hl : lv_has ls 10 [(0, .ref (a)), (1, .ref (b)), (2, .int (iI ((sh : Int)))), (3, .long (lI (t))), (5, .long (lI (sc (ta x y t sh) sh))), (7, .int (iI ((sh : Int))))] := by rw [ta_lo hx0 sh (Nat.le_refl sh)]; exact lv_sub hl [2, 3, 4, 5, 1, 0] rfl
  exact loop (ka - sh) sh _ _ _ _ (by omega) (Nat.le_refl sh) (fun j hj => (ta_sd hx0 hj).symm) (fun j _ _ => rfl) hO hL hOb hLb hS hl
