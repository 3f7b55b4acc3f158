/-! the class's whole numbers: eighteen digits, the constructor -/
set_option maxHeartbeats 4000000 in
set_option maxRecDepth 100000 in
/-- eighteen(i): the i-th eighteen digits -/
theorem c_eighteen (l : Launch) (D : va_G) (E : Nat → ClassId) (a n i : Nat) (v : Int) (hn : n < 1000) (hv : 0 ≤ v) (hi : i < 2147483648) : pw_M rvL l D E yX8_eighteen wsX8_eighteen ({ frames := 1, cells := 0, slots := 0, locals := 21 } : Room) [.ref (a), .int (iI ((i : Int)))] (fun H => WH D E a n v H) (fun z H => z = ((e18 v.natAbs i : Nat) : Int)) (fun _ => False) (0) (0) := by
  refine pw_of (cc := cX8_eighteen) (maxL := 5) (ret := (some .long)) (by decide +kernel) rfl (Nat.le_of_ble_eq_true rfl) ?_
  intro p e s m args below meth c hx hb hr hml hts hown hlocks hini hK ⟨ka, ⟨hO, hL⟩, hka⟩ ls hl
  have hown : s.vm.findClass RX8 = some m.cls := hown
  have hl : lv_has ls 5 [(0, .ref (a)), (1, .int (iI ((i : Int))))] := hl
  have hS : va_S (fun _ => False) s.heap s.heap [] := va_S.rf
  have lk_7 := hts (.fieldLink RX8 7 "PolicyWorks$Whole" "limbs" "[J") (by decide +kernel)
  have kc_44 := hts (.constantLong RX8 44 (1000000)) (by decide +kernel)
  have hin8 : ∀ w ∈ wsX80, w ∈ wsX8_eighteen := by decide +kernel
  have hka1 := hka.1
  have e3 : (n : Int).tdiv 3 = ((n / 3 : Nat) : Int) := rfl
  have r0 := lb_b v ((i : Int) * 3 + 0)
  have r1 := lb_b v ((i : Int) * 3 + 1)
  have r2 := lb_b v ((i : Int) * 3 + 2)
  refine lv_iload_n hx hb dX8_eighteen_0 rfl (lv_at hl 1 rfl) ?_
  refine pw_if_lt (tgt := 15) hx hb dX8_eighteen_1 (by decide) (fun c_1 => absurd c_1 (by omega)) (fun c_1 => ?_)
  refine lv_iload_n hx hb dX8_eighteen_4 rfl (lv_at hl 1 rfl) ?_
  refine lv_aload_n hx hb dX8_eighteen_5 rfl (lv_at hl 0 rfl) ?_
  refine pw_get (C := RX8) (T := TX8) (N := 3) hx hb hts hin8 hown hK hO rfl 0 (by decide) lk_7 rfl rfl dX8_eighteen_6 ?_
  refine pw_alen (n := n) (k0 := 1) hx hb hK hL rfl rfl dX8_eighteen_9 ?_
  refine pw_iconst hx hb dX8_eighteen_10 ?_
  refine pw_idiv hx hb dX8_eighteen_11 (by omega) ?_
  refine pw_asi (((n / 3 : Nat) : Int)) e3 ?_
  refine pw_icmp_le (tgt := 17) hx hb dX8_eighteen_12 (by decide) (fun c_12 => ?_) (fun c_12 => ?_)
  · refine pw_lconst (z := 0) hx hb dX8_eighteen_17 ?_
    refine lv_lstore_n (lv' := [(2, .long (lI (0))), (0, .ref (a)), (1, .int (iI ((i : Int))))]) hx hb dX8_eighteen_18 rfl hl (by decide) rfl (fun ls hl => ?_)
    refine pw_iconst hx hb dX8_eighteen_19 ?_
    refine lv_istore (lv' := [(4, .int (iI (2))), (2, .long (lI (0))), (0, .ref (a)), (1, .int (iI ((i : Int))))]) hx hb dX8_eighteen_20 hl (by decide) rfl (fun ls hl => ?_)
    refine lv_iload hx hb dX8_eighteen_22 (lv_at hl 0 rfl) ?_
    refine pw_if_lt (tgt := 50) hx hb dX8_eighteen_24 (by decide) (fun c_24 => absurd c_24 (by omega)) (fun c_24 => ?_)
    refine lv_lload_n hx hb dX8_eighteen_27 rfl (lv_at hl 1 rfl) ?_
    refine pw_ldc2 (z := 1000000) hx hb hown kc_44 (by decide +kernel) dX8_eighteen_28 ?_
    refine pw_lmul hx hb dX8_eighteen_31 ?_
    refine lv_aload_n hx hb dX8_eighteen_32 rfl (lv_at hl 2 rfl) ?_
    refine lv_iload_n hx hb dX8_eighteen_33 rfl (lv_at hl 3 rfl) ?_
    refine pw_iconst hx hb dX8_eighteen_34 ?_
    refine pw_imul hx hb dX8_eighteen_35 ?_
    refine lv_iload hx hb dX8_eighteen_36 (lv_at hl 0 rfl) ?_
    refine pw_iadd hx hb dX8_eighteen_38 ?_
    refine pw_asi ((i : Int) * 3 + 2) (by omega) ?_
    refine pw_callVl (As := [.int (iI ((i : Int) * 3 + 2))]) (rest := [.long (lI ((0) * (1000000)))]) ⟨hx, hb, hml, hown, hts⟩ (c_limbAt l D E a n (wdig v) ka v.sign ((i : Int) * 3 + 2) hn (by omega) (by omega) (by omega)) (cwV 1 hts gX8_eighteen_X8_limbAt rfl rfl rfl (by decide +kernel) ⟨Nat.le_of_ble_eq_true rfl, Nat.le_of_ble_eq_true rfl⟩) hK hO rfl ⟨hO, hL⟩ rfl hl.1 rfl (Nat.le_of_ble_eq_true rfl) dX8_eighteen_39 ⟨Nat.zero_le _, Nat.zero_le _⟩ hS (fun q h => h.elim) (fun z H1 locs1 hz hz1 hk1 hS => ?_)
    have hO := hO.k (hk1 _ hO.lt (fun h => h))
    have hL := hL.k (hk1 _ hL.lt (fun h => h))
    have hz : z = lb v ((i : Int) * 3 + 2) := by rw [hz.1]; exact lb_at hka _
    subst hz
    refine pw_ladd hx hb dX8_eighteen_42 ?_
    refine lv_lstore_n (lv' := [(2, .long (lI (((0) * (1000000)) + (lb v ((i : Int) * 3 + 2))))), (4, .int (iI (2))), (0, .ref (a)), (1, .int (iI ((i : Int))))]) hx hb dX8_eighteen_43 rfl hl (by decide) rfl (fun ls hl => ?_)
    refine lv_iinc (v := iI (1)) (lv' := [(4, .int (iI (1))), (2, .long (lI (((0) * (1000000)) + (lb v ((i : Int) * 3 + 2))))), (0, .ref (a)), (1, .int (iI ((i : Int))))]) hx hb dX8_eighteen_44 hl (k := 1) rfl (by show iI _ + iI _ = _; rw [iI_add]; first | rfl | (congr 1; omega)) (by decide) rfl (fun ls hl => ?_)
    refine lv_goto (tgt := 22) hx hb dX8_eighteen_47 (by decide) ?_
    refine lv_iload hx hb dX8_eighteen_22 (lv_at hl 0 rfl) ?_
    refine pw_if_lt (tgt := 50) hx hb dX8_eighteen_24 (by decide) (fun c_24 => absurd c_24 (by omega)) (fun c_24 => ?_)
    refine lv_lload_n hx hb dX8_eighteen_27 rfl (lv_at hl 1 rfl) ?_
    refine pw_ldc2 (z := 1000000) hx hb hown kc_44 (by decide +kernel) dX8_eighteen_28 ?_
    refine pw_lmul hx hb dX8_eighteen_31 ?_
    refine lv_aload_n hx hb dX8_eighteen_32 rfl (lv_at hl 2 rfl) ?_
    refine lv_iload_n hx hb dX8_eighteen_33 rfl (lv_at hl 3 rfl) ?_
    refine pw_iconst hx hb dX8_eighteen_34 ?_
    refine pw_imul hx hb dX8_eighteen_35 ?_
    refine lv_iload hx hb dX8_eighteen_36 (lv_at hl 0 rfl) ?_
    refine pw_iadd hx hb dX8_eighteen_38 ?_
    refine pw_asi ((i : Int) * 3 + 1) (by omega) ?_
    refine pw_callVl (As := [.int (iI ((i : Int) * 3 + 1))]) (rest := [.long (lI ((((0) * (1000000)) + (lb v ((i : Int) * 3 + 2))) * (1000000)))]) ⟨hx, hb, hml, hown, hts⟩ (c_limbAt l D E a n (wdig v) ka v.sign ((i : Int) * 3 + 1) hn (by omega) (by omega) (by omega)) (cwV 1 hts gX8_eighteen_X8_limbAt rfl rfl rfl (by decide +kernel) ⟨Nat.le_of_ble_eq_true rfl, Nat.le_of_ble_eq_true rfl⟩) hK hO rfl ⟨hO, hL⟩ rfl hl.1 rfl (Nat.le_of_ble_eq_true rfl) dX8_eighteen_39 ⟨Nat.zero_le _, Nat.zero_le _⟩ hS (fun q h => h.elim) (fun z H1 locs1 hz hz1 hk1 hS => ?_)
    have hO := hO.k (hk1 _ hO.lt (fun h => h))
    have hL := hL.k (hk1 _ hL.lt (fun h => h))
    have hz : z = lb v ((i : Int) * 3 + 1) := by rw [hz.1]; exact lb_at hka _
    subst hz
    refine pw_ladd hx hb dX8_eighteen_42 ?_
    refine lv_lstore_n (lv' := [(2, .long (lI (((((0) * (1000000)) + (lb v ((i : Int) * 3 + 2))) * (1000000)) + (lb v ((i : Int) * 3 + 1))))), (4, .int (iI (1))), (0, .ref (a)), (1, .int (iI ((i : Int))))]) hx hb dX8_eighteen_43 rfl hl (by decide) rfl (fun ls hl => ?_)
    refine lv_iinc (v := iI (0)) (lv' := [(4, .int (iI (0))), (2, .long (lI (((((0) * (1000000)) + (lb v ((i : Int) * 3 + 2))) * (1000000)) + (lb v ((i : Int) * 3 + 1))))), (0, .ref (a)), (1, .int (iI ((i : Int))))]) hx hb dX8_eighteen_44 hl (k := 1) rfl (by show iI _ + iI _ = _; rw [iI_add]; first | rfl | (congr 1; omega)) (by decide) rfl (fun ls hl => ?_)
    refine lv_goto (tgt := 22) hx hb dX8_eighteen_47 (by decide) ?_
    refine lv_iload hx hb dX8_eighteen_22 (lv_at hl 0 rfl) ?_
    refine pw_if_lt (tgt := 50) hx hb dX8_eighteen_24 (by decide) (fun c_24 => absurd c_24 (by omega)) (fun c_24 => ?_)
    refine lv_lload_n hx hb dX8_eighteen_27 rfl (lv_at hl 1 rfl) ?_
    refine pw_ldc2 (z := 1000000) hx hb hown kc_44 (by decide +kernel) dX8_eighteen_28 ?_
    refine pw_lmul hx hb dX8_eighteen_31 ?_
    refine lv_aload_n hx hb dX8_eighteen_32 rfl (lv_at hl 2 rfl) ?_
    refine lv_iload_n hx hb dX8_eighteen_33 rfl (lv_at hl 3 rfl) ?_
    refine pw_iconst hx hb dX8_eighteen_34 ?_
    refine pw_imul hx hb dX8_eighteen_35 ?_
    refine lv_iload hx hb dX8_eighteen_36 (lv_at hl 0 rfl) ?_
    refine pw_iadd hx hb dX8_eighteen_38 ?_
    refine pw_asi ((i : Int) * 3 + 0) (by omega) ?_
    refine pw_callVl (As := [.int (iI ((i : Int) * 3 + 0))]) (rest := [.long (lI ((((((0) * (1000000)) + (lb v ((i : Int) * 3 + 2))) * (1000000)) + (lb v ((i : Int) * 3 + 1))) * (1000000)))]) ⟨hx, hb, hml, hown, hts⟩ (c_limbAt l D E a n (wdig v) ka v.sign ((i : Int) * 3 + 0) hn (by omega) (by omega) (by omega)) (cwV 1 hts gX8_eighteen_X8_limbAt rfl rfl rfl (by decide +kernel) ⟨Nat.le_of_ble_eq_true rfl, Nat.le_of_ble_eq_true rfl⟩) hK hO rfl ⟨hO, hL⟩ rfl hl.1 rfl (Nat.le_of_ble_eq_true rfl) dX8_eighteen_39 ⟨Nat.zero_le _, Nat.zero_le _⟩ hS (fun q h => h.elim) (fun z H1 locs1 hz hz1 hk1 hS => ?_)
    have hO := hO.k (hk1 _ hO.lt (fun h => h))
    have hL := hL.k (hk1 _ hL.lt (fun h => h))
    have hz : z = lb v ((i : Int) * 3 + 0) := by rw [hz.1]; exact lb_at hka _
    subst hz
    refine pw_ladd hx hb dX8_eighteen_42 ?_
    refine lv_lstore_n (lv' := [(2, .long (lI (((((((0) * (1000000)) + (lb v ((i : Int) * 3 + 2))) * (1000000)) + (lb v ((i : Int) * 3 + 1))) * (1000000)) + (lb v ((i : Int) * 3 + 0))))), (4, .int (iI (0))), (0, .ref (a)), (1, .int (iI ((i : Int))))]) hx hb dX8_eighteen_43 rfl hl (by decide) rfl (fun ls hl => ?_)
    refine lv_iinc (v := iI (-1)) (lv' := [(4, .int (iI (-1))), (2, .long (lI (((((((0) * (1000000)) + (lb v ((i : Int) * 3 + 2))) * (1000000)) + (lb v ((i : Int) * 3 + 1))) * (1000000)) + (lb v ((i : Int) * 3 + 0))))), (0, .ref (a)), (1, .int (iI ((i : Int))))]) hx hb dX8_eighteen_44 hl (k := 1) rfl (by show iI _ + iI _ = _; rw [iI_add]; first | rfl | (congr 1; omega)) (by decide) rfl (fun ls hl => ?_)
    refine lv_goto (tgt := 22) hx hb dX8_eighteen_47 (by decide) ?_
    refine lv_iload hx hb dX8_eighteen_22 (lv_at hl 0 rfl) ?_
    refine pw_if_lt (tgt := 50) hx hb dX8_eighteen_24 (by decide) (fun c_24 => ?_) (fun c_24 => absurd c_24 (by omega))
    refine lv_lload_n hx hb dX8_eighteen_50 rfl (lv_at hl 1 rfl) ?_
    exact pw_lret hx hb hr hlocks hS (e18_lb hv i) dX8_eighteen_51
  · refine pw_lconst (z := 0) hx hb dX8_eighteen_15 ?_
    exact pw_lret (z := 0) hx hb hr hlocks hS (by rw [e18_big (wh_bound hka) (by omega)]; rfl) dX8_eighteen_16
