/-! the reference: plus -/
set_option maxHeartbeats 4000000 in
set_option maxRecDepth 100000 in
/-- plus(a, b, how) -/
theorem r_plus (l : Launch) (D : va_G) (E : Nat → ClassId) (r0 : Nat) (o f g h : Nat → Int) (a b : Nat) (u v how : Int) (ha : a < 80) (hb0 : b < 80) (hab : b ≠ a) (hhow : how = 1 ∨ how = -1) (hA : Num f g h a u) (hB : Num f g h b v) (hu63 : u.natAbs < 268435456 ^ 63) (hv63 : v.natAbs < 268435456 ^ 63) : pw_M rvV l D E yX10_plus wsX10_plus ({ frames := 1, cells := 0, slots := 0, locals := 23 } : Room) [.ref (r0), .int (iI ((a : Int))), .int (iI ((b : Int))), .int (iI (how))] (fun H => RO D r0 o H ∧ NA E r0 f g h H) (fun _ H => NP E r0 a (u + how * v) f g h H) (fun q => q = r0 + 8 ∨ q = r0 + 9 ∨ q = r0 + 10) (0) (0) := by
  refine pw_of (cc := cX10_plus) (maxL := 10) (ret := none) (by decide +kernel) rfl (Nat.le_of_ble_eq_true rfl) ?_
  intro p e s m args below meth c hx hb hr hml hts hown hlocks hini hK ⟨hO, hf, hg, hh⟩ ls hl
  have hown : s.vm.findClass RX10 = some m.cls := hown
  have hl : lv_has ls 10 [(0, .ref (r0)), (1, .int (iI ((a : Int)))), (2, .int (iI ((b : Int)))), (3, .int (iI (how)))] := hl
  have hS : va_S (fun q => q = r0 + 8 ∨ q = r0 + 9 ∨ q = r0 + 10) s.heap s.heap [] := va_S.rf
  have lk_38 := hts (.fieldLink RX10 38 "PolicyWorksModel" "limbs" "[I") (by decide +kernel)
  have lk_41 := hts (.fieldLink RX10 41 "PolicyWorksModel" "lengths" "[I") (by decide +kernel)
  have lk_44 := hts (.fieldLink RX10 44 "PolicyWorksModel" "signs" "[I") (by decide +kernel)
  have kc_68 := hts (.constant RX10 68 (268435455)) (by decide +kernel)
  have kc_73 := hts (.constant RX10 73 (268435456)) (by decide +kernel)
  have hin10 : ∀ w ∈ wsX100, w ∈ wsX10_plus := by decide +kernel
  have hA0 := hA
  have hB0 := hB
  obtain ⟨n, hrk, hga, hDa, hsa⟩ := hA
  obtain ⟨m0, hrk2, hgb, hDb, hsb⟩ := hB
  obtain ⟨w, hw, hwn, hws⟩ := how_v how v hhow
  rw [← hw]
  rw [hwn] at hrk2 hDb hv63
  have hn := rk_le hrk hu63
  have hm0 := rk_le hrk2 hv63
  have hsu := sgn_b u
  have hsw := sgn_b w
  have hxN : u.natAbs < 268435456 ^ (max n m0) := Nat.lt_of_lt_of_le hrk.2.1 (rb_mono (by omega))
  have hyN : w.natAbs < 268435456 ^ (max n m0) := Nat.lt_of_lt_of_le hrk2.2.1 (rb_mono (by omega))
  have loopA := r_plusA l D E r0 o f g h a b u how ha hb0 hab hrk hrk2 hgb hDb hsa hn hm0 hsu hsw hxN hyN hx hb hr hml hts hown hlocks hK (below := below) (e := e)
  have loopS := r_plusS l D E r0 o f g h a b u how ha hb0 hab hrk hrk2 hgb hDb hsa hn hm0 hsu hsw hxN hyN hx hb hr hml hts hown hlocks hK (below := below) (e := e)
  have k48 : ∀ (H : Heap) (locs : List Loc) (ls : Array Slot), w.sign ≠ 0 → RO D r0 o H → IA E (r0 + 8) 5120 f H → IA E (r0 + 9) 80 g H → IA E (r0 + 10) 80 h H → va_S (fun q => q = r0 + 8 ∨ q = r0 + 9 ∨ q = r0 + 10) s.heap H locs → lv_has ls 10 [(0, .ref (r0)), (1, .int (iI ((a : Int)))), (2, .int (iI ((b : Int)))), (3, .int (iI (how))), (4, .int (iI (w.sign))), (5, .int (iI (((max n m0 : Nat) : Int))))] → W p l e ({ frames := 1, cells := 0, slots := 0, locals := 23 } : Room) s m args below meth c H locs (0) (0) (MQ below (pw_Q rvV (fun _ H => NP E r0 a (u + w) f g h H) (fun q => q = r0 + 8 ∨ q = r0 + 9 ∨ q = r0 + 10)) args s (0) (0) (fun q => q = r0 + 8 ∨ q = r0 + 9 ∨ q = r0 + 10)) (F0 m 48 ls []) := by
    intro H locs ls hw0 hO hf hg hh hS hl
    refine lv_aload_n hx hb dX10_plus_48 rfl (lv_at hl 0 rfl) ?_
    refine pw_get (C := RX10) (T := TX10) (N := 20) hx hb hts hin10 hown hK hO rfl 15 (by decide) lk_44 rfl rfl dX10_plus_49 ?_
    refine lv_iload_n hx hb dX10_plus_52 rfl (lv_at hl 1 rfl) ?_
    refine pw_iald hx hb hK hh (a) rfl (by omega) (by omega) dX10_plus_53 ?_
    refine pw_asi (u.sign) hsa ?_
    refine pw_if_eq (tgt := 68) hx hb dX10_plus_54 (by decide) (fun c_54 => ?_) (fun c_54 => ?_)
    · refine pw_iconst hx hb dX10_plus_68 ?_
      refine pw_asi (((ca u.natAbs w.natAbs 0 : Nat) : Int)) (by rw [ca_0]; rfl) ?_
      refine lv_istore (lv' := [(6, .int (iI (((ca u.natAbs w.natAbs 0 : Nat) : Int)))), (0, .ref (r0)), (1, .int (iI ((a : Int)))), (2, .int (iI ((b : Int)))), (3, .int (iI (how))), (4, .int (iI (w.sign))), (5, .int (iI (((max n m0 : Nat) : Int))))]) hx hb dX10_plus_69 hl (by decide) rfl (fun ls hl => ?_)
      refine pw_iconst hx hb dX10_plus_71 ?_
      refine lv_istore (lv' := [(7, .int (iI (0))), (6, .int (iI (((ca u.natAbs w.natAbs 0 : Nat) : Int)))), (0, .ref (r0)), (1, .int (iI ((a : Int)))), (2, .int (iI ((b : Int)))), (3, .int (iI (how))), (4, .int (iI (w.sign))), (5, .int (iI (((max n m0 : Nat) : Int))))]) hx hb dX10_plus_72 hl (by decide) rfl (fun ls hl => ?_)
      exact loopA (by omega) hw0 (max n m0 : Nat) 0 f g _ _ _ (by omega) (fun k hk => by omega) (fun j _ hj => hDa j hj) (fun _ _ => rfl) (by rw [hga]; omega) (fun _ _ => rfl) hO hf hg hh hS (lv_sub hl [2, 3, 4, 5, 6, 7, 1, 0] rfl)
    · refine lv_aload_n hx hb dX10_plus_57 rfl (lv_at hl 0 rfl) ?_
      refine pw_get (C := RX10) (T := TX10) (N := 20) hx hb hts hin10 hown hK hO rfl 15 (by decide) lk_44 rfl rfl dX10_plus_58 ?_
      refine lv_iload_n hx hb dX10_plus_61 rfl (lv_at hl 1 rfl) ?_
      refine pw_iald hx hb hK hh (a) rfl (by omega) (by omega) dX10_plus_62 ?_
      refine pw_asi (u.sign) hsa ?_
      refine lv_iload hx hb dX10_plus_63 (lv_at hl 4 rfl) ?_
      refine pw_icmp_ne (tgt := 193) hx hb dX10_plus_65 (by decide) (fun c_65 => ?_) (fun c_65 => ?_)
      · refine lv_aload_n hx hb dX10_plus_193 rfl (lv_at hl 0 rfl) ?_
        refine lv_iload_n hx hb dX10_plus_194 rfl (lv_at hl 1 rfl) ?_
        refine lv_iload_n hx hb dX10_plus_195 rfl (lv_at hl 2 rfl) ?_
        refine pw_callVi (As := [.int (iI ((a : Int))), .int (iI ((b : Int)))]) (rest := []) ⟨hx, hb, hml, hown, hts⟩ (r_compareSizes l D E r0 o f g h a b u v ha hb0 hA0 hB0) (cwV 2 hts gX10_plus_X10_compareSizes rfl rfl rfl (by decide +kernel) ⟨Nat.le_of_ble_eq_true rfl, Nat.le_of_ble_eq_true rfl⟩) hK hO rfl ⟨hO, hf, hg, hh⟩ rfl hl.1 rfl (Nat.le_of_ble_eq_true rfl) dX10_plus_196 ⟨Nat.zero_le _, Nat.zero_le _⟩ hS (fun q h => h.elim) (fun z H1 locs1 hz hz1 hk1 hS => ?_)
        have hO := hO.k (hk1 _ hO.lt (fun h => h))
        have hf := hf.k (hk1 _ hf.lt (fun h => h))
        have hg := hg.k (hk1 _ hg.lt (fun h => h))
        have hh := hh.k (hk1 _ hh.lt (fun h => h))
        rw [hwn] at hz
        subst hz
        refine lv_istore (lv' := [(6, .int (iI (cz u.natAbs w.natAbs))), (0, .ref (r0)), (1, .int (iI ((a : Int)))), (2, .int (iI ((b : Int)))), (3, .int (iI (how))), (4, .int (iI (w.sign))), (5, .int (iI (((max n m0 : Nat) : Int))))]) hx hb dX10_plus_199 hl (by decide) rfl (fun ls hl => ?_)
        refine pw_iconst hx hb dX10_plus_201 ?_
        refine pw_asi (((0 : Nat) : Int)) rfl ?_
        refine lv_istore (lv' := [(7, .int (iI (((0 : Nat) : Int)))), (6, .int (iI (cz u.natAbs w.natAbs))), (0, .ref (r0)), (1, .int (iI ((a : Int)))), (2, .int (iI ((b : Int)))), (3, .int (iI (how))), (4, .int (iI (w.sign))), (5, .int (iI (((max n m0 : Nat) : Int))))]) hx hb dX10_plus_202 hl (by decide) rfl (fun ls hl => ?_)
        refine pw_iconst hx hb dX10_plus_204 ?_
        refine lv_istore (lv' := [(8, .int (iI (0))), (7, .int (iI (((0 : Nat) : Int)))), (6, .int (iI (cz u.natAbs w.natAbs))), (0, .ref (r0)), (1, .int (iI ((a : Int)))), (2, .int (iI ((b : Int)))), (3, .int (iI (how))), (4, .int (iI (w.sign))), (5, .int (iI (((max n m0 : Nat) : Int))))]) hx hb dX10_plus_205 hl (by decide) rfl (fun ls hl => ?_)
        obtain ⟨Z, hZ1, hZ2⟩ := cz_Z u.natAbs w.natAbs
        exact loopS (by omega) hw0 Z hZ1 hZ2 (max n m0 : Nat) 0 0 f g _ _ _ (by omega) (by rw [ca_0, ca_0]; split <;> rfl) (fun k hk => by omega) (fun j _ hj => hDa j hj) (fun _ _ => rfl) (by rw [hga]; omega) (fun _ _ => rfl) hO hf hg hh hS (lv_sub hl [3, 4, 5, 6, 7, 8, 2, 1, 0] rfl)
      · refine pw_iconst hx hb dX10_plus_68 ?_
        refine pw_asi (((ca u.natAbs w.natAbs 0 : Nat) : Int)) (by rw [ca_0]; rfl) ?_
        refine lv_istore (lv' := [(6, .int (iI (((ca u.natAbs w.natAbs 0 : Nat) : Int)))), (0, .ref (r0)), (1, .int (iI ((a : Int)))), (2, .int (iI ((b : Int)))), (3, .int (iI (how))), (4, .int (iI (w.sign))), (5, .int (iI (((max n m0 : Nat) : Int))))]) hx hb dX10_plus_69 hl (by decide) rfl (fun ls hl => ?_)
        refine pw_iconst hx hb dX10_plus_71 ?_
        refine lv_istore (lv' := [(7, .int (iI (0))), (6, .int (iI (((ca u.natAbs w.natAbs 0 : Nat) : Int)))), (0, .ref (r0)), (1, .int (iI ((a : Int)))), (2, .int (iI ((b : Int)))), (3, .int (iI (how))), (4, .int (iI (w.sign))), (5, .int (iI (((max n m0 : Nat) : Int))))]) hx hb dX10_plus_72 hl (by decide) rfl (fun ls hl => ?_)
        exact loopA (by omega) hw0 (max n m0 : Nat) 0 f g _ _ _ (by omega) (fun k hk => by omega) (fun j _ hj => hDa j hj) (fun _ _ => rfl) (by rw [hga]; omega) (fun _ _ => rfl) hO hf hg hh hS (lv_sub hl [2, 3, 4, 5, 6, 7, 1, 0] rfl)
  refine lv_iload_n hx hb dX10_plus_0 rfl (lv_at hl 3 rfl) ?_
  refine lv_aload_n hx hb dX10_plus_1 rfl (lv_at hl 0 rfl) ?_
  refine pw_get (C := RX10) (T := TX10) (N := 20) hx hb hts hin10 hown hK hO rfl 15 (by decide) lk_44 rfl rfl dX10_plus_2 ?_
  refine lv_iload_n hx hb dX10_plus_5 rfl (lv_at hl 2 rfl) ?_
  refine pw_iald hx hb hK hh (b) rfl (by omega) (by omega) dX10_plus_6 ?_
  refine pw_asi (v.sign) hsb ?_
  refine pw_imul hx hb dX10_plus_7 ?_
  refine pw_asi (w.sign) hws ?_
  refine lv_istore (lv' := [(4, .int (iI (w.sign))), (0, .ref (r0)), (1, .int (iI ((a : Int)))), (2, .int (iI ((b : Int)))), (3, .int (iI (how)))]) hx hb dX10_plus_8 hl (by decide) rfl (fun ls hl => ?_)
  refine lv_iload hx hb dX10_plus_10 (lv_at hl 0 rfl) ?_
  refine pw_if_ne (tgt := 16) hx hb dX10_plus_12 (by decide) (fun c_12 => ?_) (fun c_12 => ?_)
  · refine lv_aload_n hx hb dX10_plus_16 rfl (lv_at hl 1 rfl) ?_
    refine pw_get (C := RX10) (T := TX10) (N := 20) hx hb hts hin10 hown hK hO rfl 14 (by decide) lk_41 rfl rfl dX10_plus_17 ?_
    refine lv_iload_n hx hb dX10_plus_20 rfl (lv_at hl 2 rfl) ?_
    refine pw_iald hx hb hK hg (a) rfl (by omega) (by omega) dX10_plus_21 ?_
    refine pw_asi ((n : Int)) hga ?_
    refine lv_aload_n hx hb dX10_plus_22 rfl (lv_at hl 1 rfl) ?_
    refine pw_get (C := RX10) (T := TX10) (N := 20) hx hb hts hin10 hown hK hO rfl 14 (by decide) lk_41 rfl rfl dX10_plus_23 ?_
    refine lv_iload_n hx hb dX10_plus_26 rfl (lv_at hl 3 rfl) ?_
    refine pw_iald hx hb hK hg (b) rfl (by omega) (by omega) dX10_plus_27 ?_
    refine pw_asi ((m0 : Int)) hgb ?_
    refine pw_icmp_le (tgt := 40) hx hb dX10_plus_28 (by decide) (fun c_28 => ?_) (fun c_28 => ?_)
    · refine lv_aload_n hx hb dX10_plus_40 rfl (lv_at hl 1 rfl) ?_
      refine pw_get (C := RX10) (T := TX10) (N := 20) hx hb hts hin10 hown hK hO rfl 14 (by decide) lk_41 rfl rfl dX10_plus_41 ?_
      refine lv_iload_n hx hb dX10_plus_44 rfl (lv_at hl 3 rfl) ?_
      refine pw_iald hx hb hK hg (b) rfl (by omega) (by omega) dX10_plus_45 ?_
      refine pw_asi (((max n m0 : Nat) : Int)) (by rw [hgb]; omega) ?_
      refine lv_istore (lv' := [(5, .int (iI (((max n m0 : Nat) : Int)))), (4, .int (iI (w.sign))), (0, .ref (r0)), (1, .int (iI ((a : Int)))), (2, .int (iI ((b : Int)))), (3, .int (iI (how)))]) hx hb dX10_plus_46 hl (by decide) rfl (fun ls hl => ?_)
      exact k48 _ _ _ (by omega) hO hf hg hh hS (lv_sub hl [2, 3, 4, 5, 1, 0] rfl)
    · refine lv_aload_n hx hb dX10_plus_31 rfl (lv_at hl 1 rfl) ?_
      refine pw_get (C := RX10) (T := TX10) (N := 20) hx hb hts hin10 hown hK hO rfl 14 (by decide) lk_41 rfl rfl dX10_plus_32 ?_
      refine lv_iload_n hx hb dX10_plus_35 rfl (lv_at hl 2 rfl) ?_
      refine pw_iald hx hb hK hg (a) rfl (by omega) (by omega) dX10_plus_36 ?_
      refine pw_asi (((max n m0 : Nat) : Int)) (by rw [hga]; omega) ?_
      refine lv_goto (tgt := 46) hx hb dX10_plus_37 (by decide) ?_
      refine lv_istore (lv' := [(5, .int (iI (((max n m0 : Nat) : Int)))), (4, .int (iI (w.sign))), (0, .ref (r0)), (1, .int (iI ((a : Int)))), (2, .int (iI ((b : Int)))), (3, .int (iI (how)))]) hx hb dX10_plus_46 hl (by decide) rfl (fun ls hl => ?_)
      exact k48 _ _ _ (by omega) hO hf hg hh hS (lv_sub hl [2, 3, 4, 5, 1, 0] rfl)
  · have hw0 : w = 0 := by rcases sgn_c w with h | h | h <;> omega
    exact pw_vret hx hb hr hlocks hS ⟨f, g, h, ⟨hf, hg, hh⟩, by rw [hw0, Int.add_zero]; exact hA0, Oth.rf⟩ dX10_plus_15
