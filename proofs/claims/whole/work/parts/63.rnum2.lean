/-! the reference: times, plus -/
theorem j_ishr28 {x : Nat} (hx : x < 2147483648) : (iI (x : Int) >>> (iI 28 &&& 31)) = iI ((x / 268435456 : Nat) : Int) := j_ishr (r := 28) hx (by omega)
theorem sgn_mulp {u t : Int} (h0 : u.natAbs * t.natAbs ≠ 0) (ht : 0 ≤ t) : u.sign = (u * t).sign := by
  have ht0 : t ≠ 0 := fun e => h0 (by rw [e]; rfl)
  rw [Int.sign_mul, Int.sign_eq_one_of_pos (show 0 < t by omega), Int.mul_one]
theorem sgn_muln {u t : Int} (ht : t < 0) : -u.sign = (u * t).sign := by
  rw [Int.sign_mul, Int.sign_eq_neg_one_of_neg ht]
  omega
theorem add_same {u w : Int} (h : u.sign = 0 ∨ u.sign = w.sign) (hw : w.sign ≠ 0) : (u + w).natAbs = u.natAbs + w.natAbs ∧ (u + w).sign = w.sign := by
  rcases sgn_c u with h1 | h1 | h1 <;> rcases sgn_c w with h2 | h2 | h2 <;> (try omega) <;> refine ⟨by omega, ?_⟩
  · rw [h2.1]; exact Int.sign_eq_one_of_pos (by omega)
  · rw [h2.1]; exact Int.sign_eq_one_of_pos (by omega)
  · rw [h2.1]; exact Int.sign_eq_neg_one_of_neg (by omega)
  · rw [h2.1]; exact Int.sign_eq_neg_one_of_neg (by omega)
theorem add_opp {u w : Int} {Z : Nat} (h : ¬ (u.sign = 0 ∨ u.sign = w.sign)) (hw : w.sign ≠ 0) : (u.natAbs = w.natAbs + Z → (u + w).natAbs = Z ∧ (Z ≠ 0 → u.sign = (u + w).sign)) ∧ (w.natAbs = u.natAbs + Z → (u + w).natAbs = Z ∧ (Z ≠ 0 → w.sign = (u + w).sign)) := by
  rcases sgn_c u with h1 | h1 | h1 <;> rcases sgn_c w with h2 | h2 | h2 <;> (try omega) <;> refine ⟨fun he => ⟨by omega, fun hz => ?_⟩, fun he => ⟨by omega, fun hz => ?_⟩⟩
  · rw [h1.1]; exact (Int.sign_eq_one_of_pos (by omega)).symm
  · rw [h2.1]; exact (Int.sign_eq_neg_one_of_neg (by omega)).symm
  · rw [h1.1]; exact (Int.sign_eq_neg_one_of_neg (by omega)).symm
  · rw [h2.1]; exact (Int.sign_eq_one_of_pos (by omega)).symm
theorem how_v (how v : Int) (h : how = 1 ∨ how = -1) : ∃ w : Int, w = how * v ∧ v.natAbs = w.natAbs ∧ how * v.sign = w.sign := by
  rcases h with h | h <;> subst h
  · exact ⟨v, by omega, rfl, by omega⟩
  · exact ⟨-v, by omega, by omega, by rw [Int.sign_neg]; omega⟩
theorem cz_pos {x y : Nat} : 0 ≤ cz x y ↔ y ≤ x := by unfold cz; split; omega; split <;> omega
theorem cz_Z (x y : Nat) : ∃ Z : Nat, (0 ≤ cz x y → x = y + Z) ∧ (cz x y < 0 → y = x + Z) := by
  rcases Nat.lt_or_ge x y with h | h
  · exact ⟨y - x, fun h0 => by have := cz_pos.mp h0; omega, fun _ => by omega⟩
  · exact ⟨x - y, fun _ => by omega, fun h0 => by have := cz_pos.mpr h; omega⟩
set_option maxHeartbeats 4000000 in
set_option maxRecDepth 100000 in
/-- times(a, t) -/
theorem r_times (l : Launch) (D : va_G) (E : Nat → ClassId) (r0 : Nat) (o f g h : Nat → Int) (a : Nat) (u t : Int) (ha : a < 80) (t1 : -2147483648 ≤ t) (t2 : t ≤ 2147483647) (hN : Num f g h a u) (hb64 : (u * t).natAbs < 268435456 ^ 64) : pw_M rvV l D E yX10_times wsX10_times ({ frames := 1, cells := 0, slots := 0, locals := 23 } : Room) [.ref (r0), .int (iI ((a : Int))), .int (iI (t))] (fun H => RO D r0 o H ∧ NA E r0 f g h H) (fun _ H => NP E r0 a (u * t) f g h H) (fun q => q = r0 + 8 ∨ q = r0 + 9 ∨ q = r0 + 10) (0) (0) := by
  refine pw_of (cc := cX10_times) (maxL := 11) (ret := none) (by decide +kernel) rfl (Nat.le_of_ble_eq_true rfl) ?_
  intro p e s m args below meth c hx hb hr hml hts hown hlocks hini hK ⟨hO, hf, hg, hh⟩ ls hl
  have hown : s.vm.findClass RX10 = some m.cls := hown
  have hl : lv_has ls 11 [(0, .ref (r0)), (1, .int (iI ((a : Int)))), (2, .int (iI (t)))] := hl
  have hS : va_S (fun q => q = r0 + 8 ∨ q = r0 + 9 ∨ q = r0 + 10) s.heap s.heap [] := va_S.rf
  have lk_38 := hts (.fieldLink RX10 38 "PolicyWorksModel" "limbs" "[I") (by decide +kernel)
  have lk_41 := hts (.fieldLink RX10 41 "PolicyWorksModel" "lengths" "[I") (by decide +kernel)
  have lk_44 := hts (.fieldLink RX10 44 "PolicyWorksModel" "signs" "[I") (by decide +kernel)
  have kc_59 := hts (.constantLong RX10 59 (268435455)) (by decide +kernel)
  have hin10 : ∀ w ∈ wsX100, w ∈ wsX10_times := by decide +kernel
  obtain ⟨n, hrk, hga, hDa, hsa⟩ := hN
  have hn := hrk.1
  have hxn := hrk.2.1
  have hut : (u * t).natAbs = u.natAbs * t.natAbs := Int.natAbs_mul _ _
  rw [hut] at hb64
  have hT : t.natAbs ≤ 2147483648 := by omega
  have loop2 : ∀ (kk N : Nat) (f1 : Nat → Int) (H : Heap) (locs : List Loc) (ls : Array Slot), N + kk = 64 → DG f1 a (u.natAbs * t.natAbs) N → (∀ q, q < 64 * a ∨ 64 * a + 64 ≤ q → f1 q = f q) → dv (u.natAbs * t.natAbs) N ≤ 2147483648 → RO D r0 o H → IA E (r0 + 8) 5120 f1 H → IA E (r0 + 9) 80 g H → IA E (r0 + 10) 80 h H → va_S (fun q => q = r0 + 8 ∨ q = r0 + 9 ∨ q = r0 + 10) s.heap H locs → lv_has ls 11 [(0, .ref (r0)), (1, .int (iI ((a : Int)))), (2, .int (iI (t))), (3, .long (lI ((t.natAbs : Int)))), (5, .long (lI (((dv (u.natAbs * t.natAbs) N : Nat) : Int)))), (7, .int (iI ((N : Int))))] → W p l e ({ frames := 1, cells := 0, slots := 0, locals := 23 } : Room) s m args below meth c H locs (0) (0) (MQ below (pw_Q rvV (fun _ H => NP E r0 a (u * t) f g h H) (fun q => q = r0 + 8 ∨ q = r0 + 9 ∨ q = r0 + 10)) args s (0) (0) (fun q => q = r0 + 8 ∨ q = r0 + 9 ∨ q = r0 + 10)) (F0 m 86 ls []) := by
    intro kk
    induction kk with
    | zero =>
      intro N f1 H locs ls hN hD hof hcb hO hf hg hh hS hl
      have hN64 : N = 64 := by omega
      have hz0 : dv (u.natAbs * t.natAbs) N = 0 := by rw [hN64]; exact dv_z.mpr hb64
      refine lv_lload hx hb dX10_times_86 (lv_at hl 4 rfl) ?_
      refine pw_lconst (z := 0) hx hb dX10_times_88 ?_
      refine pw_lcmp_le (tgt := 125) hx hb dX10_times_89 dX10_times_90 (by decide) (fun c_89 => ?_) (fun c_89 => absurd c_89 (by omega))
      have hxN : u.natAbs * t.natAbs < 268435456 ^ N := dv_z.mp hz0
      refine lv_aload_n hx hb dX10_times_125 rfl (lv_at hl 0 rfl) ?_
      refine pw_get (C := RX10) (T := TX10) (N := 20) hx hb hts hin10 hown hK hO rfl 15 (by decide) lk_44 rfl rfl dX10_times_126 ?_
      refine lv_iload_n hx hb dX10_times_129 rfl (lv_at hl 1 rfl) ?_
      refine lv_iload_n hx hb dX10_times_130 rfl (lv_at hl 2 rfl) ?_
      refine pw_if_ge (tgt := 144) hx hb dX10_times_131 (by decide) (fun c_131 => ?_) (fun c_131 => ?_)
      · refine lv_aload_n hx hb dX10_times_144 rfl (lv_at hl 0 rfl) ?_
        refine pw_get (C := RX10) (T := TX10) (N := 20) hx hb hts hin10 hown hK hO rfl 15 (by decide) lk_44 rfl rfl dX10_times_145 ?_
        refine lv_iload_n hx hb dX10_times_148 rfl (lv_at hl 1 rfl) ?_
        refine pw_iald hx hb hK hh (a) rfl (by omega) (by omega) dX10_times_149 ?_
        refine pw_asi (u.sign) hsa ?_
        refine pw_iast hx hb hK hh hS (Or.inr (Or.inr rfl)) (a) rfl (by omega) (by omega) dX10_times_150 (fun H1 locs1 hnew hz1 oq hS => ?_)
        have hO := hO.k (oq _ (by omega))
        have hf := hf.k (oq _ (by omega))
        have hg := hg.k (oq _ (by omega))
        have hh := hnew
        clear hnew oq hz1
        refine lv_aload_n hx hb dX10_times_151 rfl (lv_at hl 0 rfl) ?_
        refine lv_iload_n hx hb dX10_times_152 rfl (lv_at hl 1 rfl) ?_
        refine lv_iload hx hb dX10_times_153 (lv_at hl 5 rfl) ?_
        refine pw_callVv (As := [.int (iI ((a : Int))), .int (iI ((N : Int)))]) (rest := []) ⟨hx, hb, hml, hown, hts⟩ (r_trim l D E r0 o f1 g (ud h a u.sign) a (N) (u.natAbs * t.natAbs) (u * t) ha (by omega) hxN hD hut (fun h0 => by rw [ud_s]; exact sgn_mulp h0 (by omega))) (cwV 2 hts gX10_times_X10_trim rfl rfl rfl (by decide +kernel) ⟨Nat.le_of_ble_eq_true rfl, Nat.le_of_ble_eq_true rfl⟩) hK hO rfl ⟨hO, hf, hg, hh⟩ rfl hl.1 rfl (Nat.le_of_ble_eq_true rfl) dX10_times_155 ⟨Nat.zero_le _, Nat.zero_le _⟩ hS (fun q h => h) (fun H1 locs1 hNP hz1 hk1 hS => ?_)
        have hO := hO.k (hk1 _ hO.lt (by (try dsimp only); omega))
        exact pw_vret hx hb hr hlocks hS (hNP.tr ⟨hof, fun b hb => ⟨rfl, ud_n _ _ hb⟩⟩) dX10_times_158
      · refine lv_aload_n hx hb dX10_times_134 rfl (lv_at hl 0 rfl) ?_
        refine pw_get (C := RX10) (T := TX10) (N := 20) hx hb hts hin10 hown hK hO rfl 15 (by decide) lk_44 rfl rfl dX10_times_135 ?_
        refine lv_iload_n hx hb dX10_times_138 rfl (lv_at hl 1 rfl) ?_
        refine pw_iald hx hb hK hh (a) rfl (by omega) (by omega) dX10_times_139 ?_
        refine pw_asi (u.sign) hsa ?_
        refine pw_ineg hx hb dX10_times_140 ?_
        refine lv_goto (tgt := 150) hx hb dX10_times_141 (by decide) ?_
        refine pw_iast hx hb hK hh hS (Or.inr (Or.inr rfl)) (a) rfl (by omega) (by omega) dX10_times_150 (fun H1 locs1 hnew hz1 oq hS => ?_)
        have hO := hO.k (oq _ (by omega))
        have hf := hf.k (oq _ (by omega))
        have hg := hg.k (oq _ (by omega))
        have hh := hnew
        clear hnew oq hz1
        refine lv_aload_n hx hb dX10_times_151 rfl (lv_at hl 0 rfl) ?_
        refine lv_iload_n hx hb dX10_times_152 rfl (lv_at hl 1 rfl) ?_
        refine lv_iload hx hb dX10_times_153 (lv_at hl 5 rfl) ?_
        refine pw_callVv (As := [.int (iI ((a : Int))), .int (iI ((N : Int)))]) (rest := []) ⟨hx, hb, hml, hown, hts⟩ (r_trim l D E r0 o f1 g (ud h a (-u.sign)) a (N) (u.natAbs * t.natAbs) (u * t) ha (by omega) hxN hD hut (fun h0 => by rw [ud_s]; exact sgn_muln (by omega))) (cwV 2 hts gX10_times_X10_trim rfl rfl rfl (by decide +kernel) ⟨Nat.le_of_ble_eq_true rfl, Nat.le_of_ble_eq_true rfl⟩) hK hO rfl ⟨hO, hf, hg, hh⟩ rfl hl.1 rfl (Nat.le_of_ble_eq_true rfl) dX10_times_155 ⟨Nat.zero_le _, Nat.zero_le _⟩ hS (fun q h => h) (fun H1 locs1 hNP hz1 hk1 hS => ?_)
        have hO := hO.k (hk1 _ hO.lt (by (try dsimp only); omega))
        exact pw_vret hx hb hr hlocks hS (hNP.tr ⟨hof, fun b hb => ⟨rfl, ud_n _ _ hb⟩⟩) dX10_times_158
    | succ kk ih =>
      intro N f1 H locs ls hN hD hof hcb hO hf hg hh hS hl
      refine lv_lload hx hb dX10_times_86 (lv_at hl 4 rfl) ?_
      refine pw_lconst (z := 0) hx hb dX10_times_88 ?_
      refine pw_lcmp_le (tgt := 125) hx hb dX10_times_89 dX10_times_90 (by decide) (fun c_89 => ?_) (fun c_89 => ?_)
      · have hz0 : dv (u.natAbs * t.natAbs) N = 0 := by omega
        have hxN : u.natAbs * t.natAbs < 268435456 ^ N := dv_z.mp hz0
        refine lv_aload_n hx hb dX10_times_125 rfl (lv_at hl 0 rfl) ?_
        refine pw_get (C := RX10) (T := TX10) (N := 20) hx hb hts hin10 hown hK hO rfl 15 (by decide) lk_44 rfl rfl dX10_times_126 ?_
        refine lv_iload_n hx hb dX10_times_129 rfl (lv_at hl 1 rfl) ?_
        refine lv_iload_n hx hb dX10_times_130 rfl (lv_at hl 2 rfl) ?_
        refine pw_if_ge (tgt := 144) hx hb dX10_times_131 (by decide) (fun c_131 => ?_) (fun c_131 => ?_)
        · refine lv_aload_n hx hb dX10_times_144 rfl (lv_at hl 0 rfl) ?_
          refine pw_get (C := RX10) (T := TX10) (N := 20) hx hb hts hin10 hown hK hO rfl 15 (by decide) lk_44 rfl rfl dX10_times_145 ?_
          refine lv_iload_n hx hb dX10_times_148 rfl (lv_at hl 1 rfl) ?_
          refine pw_iald hx hb hK hh (a) rfl (by omega) (by omega) dX10_times_149 ?_
          refine pw_asi (u.sign) hsa ?_
          refine pw_iast hx hb hK hh hS (Or.inr (Or.inr rfl)) (a) rfl (by omega) (by omega) dX10_times_150 (fun H1 locs1 hnew hz1 oq hS => ?_)
          have hO := hO.k (oq _ (by omega))
          have hf := hf.k (oq _ (by omega))
          have hg := hg.k (oq _ (by omega))
          have hh := hnew
          clear hnew oq hz1
          refine lv_aload_n hx hb dX10_times_151 rfl (lv_at hl 0 rfl) ?_
          refine lv_iload_n hx hb dX10_times_152 rfl (lv_at hl 1 rfl) ?_
          refine lv_iload hx hb dX10_times_153 (lv_at hl 5 rfl) ?_
          refine pw_callVv (As := [.int (iI ((a : Int))), .int (iI ((N : Int)))]) (rest := []) ⟨hx, hb, hml, hown, hts⟩ (r_trim l D E r0 o f1 g (ud h a u.sign) a (N) (u.natAbs * t.natAbs) (u * t) ha (by omega) hxN hD hut (fun h0 => by rw [ud_s]; exact sgn_mulp h0 (by omega))) (cwV 2 hts gX10_times_X10_trim rfl rfl rfl (by decide +kernel) ⟨Nat.le_of_ble_eq_true rfl, Nat.le_of_ble_eq_true rfl⟩) hK hO rfl ⟨hO, hf, hg, hh⟩ rfl hl.1 rfl (Nat.le_of_ble_eq_true rfl) dX10_times_155 ⟨Nat.zero_le _, Nat.zero_le _⟩ hS (fun q h => h) (fun H1 locs1 hNP hz1 hk1 hS => ?_)
          have hO := hO.k (hk1 _ hO.lt (by (try dsimp only); omega))
          exact pw_vret hx hb hr hlocks hS (hNP.tr ⟨hof, fun b hb => ⟨rfl, ud_n _ _ hb⟩⟩) dX10_times_158
        · refine lv_aload_n hx hb dX10_times_134 rfl (lv_at hl 0 rfl) ?_
          refine pw_get (C := RX10) (T := TX10) (N := 20) hx hb hts hin10 hown hK hO rfl 15 (by decide) lk_44 rfl rfl dX10_times_135 ?_
          refine lv_iload_n hx hb dX10_times_138 rfl (lv_at hl 1 rfl) ?_
          refine pw_iald hx hb hK hh (a) rfl (by omega) (by omega) dX10_times_139 ?_
          refine pw_asi (u.sign) hsa ?_
          refine pw_ineg hx hb dX10_times_140 ?_
          refine lv_goto (tgt := 150) hx hb dX10_times_141 (by decide) ?_
          refine pw_iast hx hb hK hh hS (Or.inr (Or.inr rfl)) (a) rfl (by omega) (by omega) dX10_times_150 (fun H1 locs1 hnew hz1 oq hS => ?_)
          have hO := hO.k (oq _ (by omega))
          have hf := hf.k (oq _ (by omega))
          have hg := hg.k (oq _ (by omega))
          have hh := hnew
          clear hnew oq hz1
          refine lv_aload_n hx hb dX10_times_151 rfl (lv_at hl 0 rfl) ?_
          refine lv_iload_n hx hb dX10_times_152 rfl (lv_at hl 1 rfl) ?_
          refine lv_iload hx hb dX10_times_153 (lv_at hl 5 rfl) ?_
          refine pw_callVv (As := [.int (iI ((a : Int))), .int (iI ((N : Int)))]) (rest := []) ⟨hx, hb, hml, hown, hts⟩ (r_trim l D E r0 o f1 g (ud h a (-u.sign)) a (N) (u.natAbs * t.natAbs) (u * t) ha (by omega) hxN hD hut (fun h0 => by rw [ud_s]; exact sgn_muln (by omega))) (cwV 2 hts gX10_times_X10_trim rfl rfl rfl (by decide +kernel) ⟨Nat.le_of_ble_eq_true rfl, Nat.le_of_ble_eq_true rfl⟩) hK hO rfl ⟨hO, hf, hg, hh⟩ rfl hl.1 rfl (Nat.le_of_ble_eq_true rfl) dX10_times_155 ⟨Nat.zero_le _, Nat.zero_le _⟩ hS (fun q h => h) (fun H1 locs1 hNP hz1 hk1 hS => ?_)
          have hO := hO.k (hk1 _ hO.lt (by (try dsimp only); omega))
          exact pw_vret hx hb hr hlocks hS (hNP.tr ⟨hof, fun b hb => ⟨rfl, ud_n _ _ hb⟩⟩) dX10_times_158
      · refine lv_aload_n hx hb dX10_times_93 rfl (lv_at hl 0 rfl) ?_
        refine pw_get (C := RX10) (T := TX10) (N := 20) hx hb hts hin10 hown hK hO rfl 13 (by decide) lk_38 rfl rfl dX10_times_94 ?_
        refine pw_bipush hx hb dX10_times_97 ?_
        refine lv_iload_n hx hb dX10_times_99 rfl (lv_at hl 1 rfl) ?_
        refine pw_imul hx hb dX10_times_100 ?_
        refine lv_iload hx hb dX10_times_101 (lv_at hl 5 rfl) ?_
        refine pw_iadd hx hb dX10_times_103 ?_
        refine lv_lload hx hb dX10_times_104 (lv_at hl 4 rfl) ?_
        refine pw_ldc2 (z := 268435455) hx hb hown kc_59 (by decide +kernel) dX10_times_106 ?_
        refine lv_land hx hb dX10_times_109 ?_
        refine pw_eql (((dv (u.natAbs * t.natAbs) N % 268435456 : Nat) : Int)) (j_land _) ?_
        refine pw_l2i hx hb dX10_times_110 ?_
        refine pw_iast hx hb hK hf hS (Or.inl rfl) (((64) * ((a))) + ((N))) (by omega) (by omega) (by omega) dX10_times_111 (fun H1 locs1 hnew hz1 oq hS => ?_)
        have hO := hO.k (oq _ (by omega))
        have hg := hg.k (oq _ (by omega))
        have hh := hh.k (oq _ (by omega))
        have hf := hnew
        clear hnew oq hz1
        refine lv_lload hx hb dX10_times_112 (lv_at hl 4 rfl) ?_
        refine pw_bipush hx hb dX10_times_114 ?_
        refine lv_lshr hx hb dX10_times_116 rfl ?_
        refine pw_eql (((dv (u.natAbs * t.natAbs) N / 268435456 : Nat) : Int)) (j_lshr (by omega)) ?_
        refine pw_asl (((dv (u.natAbs * t.natAbs) (N + 1) : Nat) : Int)) (by rw [dv_next]) ?_
        refine lv_lstore (lv' := [(5, .long (lI (((dv (u.natAbs * t.natAbs) (N + 1) : Nat) : Int)))), (0, .ref (r0)), (1, .int (iI ((a : Int)))), (2, .int (iI (t))), (3, .long (lI ((t.natAbs : Int)))), (7, .int (iI ((N : Int))))]) hx hb dX10_times_117 hl (by decide) rfl (fun ls hl => ?_)
        refine lv_iinc (v := iI (((N + 1 : Nat) : Int))) (lv' := [(7, .int (iI (((N + 1 : Nat) : Int)))), (5, .long (lI (((dv (u.natAbs * t.natAbs) (N + 1) : Nat) : Int)))), (0, .ref (r0)), (1, .int (iI ((a : Int)))), (2, .int (iI (t))), (3, .long (lI ((t.natAbs : Int))))]) hx hb dX10_times_119 hl (k := 5) rfl (by show iI _ + iI _ = _; exact (iI_add _ _).trans (by first | rfl | (congr 1; omega))) (by decide) rfl (fun ls hl => ?_)
        refine lv_goto (tgt := 86) hx hb dX10_times_122 (by decide) ?_
        have hle := dv_next (u.natAbs * t.natAbs) N
        exact ih (N + 1) _ _ _ _ (by omega) (hD.up rfl) (ud_o (by omega) hof) (by omega) hO hf hg hh hS (lv_sub hl [2, 3, 4, 5, 1, 0] rfl)
  have loop1 : ∀ (kk k : Nat) (f1 : Nat → Int) (H : Heap) (locs : List Loc) (ls : Array Slot), k + kk = n → DG f1 a (u.natAbs * t.natAbs) k → (∀ j, k ≤ j → j < n → f1 (64 * a + j) = (bd u.natAbs j : Int)) → (∀ q, q < 64 * a ∨ 64 * a + 64 ≤ q → f1 q = f q) → RO D r0 o H → IA E (r0 + 8) 5120 f1 H → IA E (r0 + 9) 80 g H → IA E (r0 + 10) 80 h H → va_S (fun q => q = r0 + 8 ∨ q = r0 + 9 ∨ q = r0 + 10) s.heap H locs → lv_has ls 11 [(0, .ref (r0)), (1, .int (iI ((a : Int)))), (2, .int (iI (t))), (3, .long (lI ((t.natAbs : Int)))), (5, .long (lI (((ct u.natAbs t.natAbs k : Nat) : Int)))), (7, .int (iI ((n : Int)))), (8, .int (iI ((k : Int))))] → W p l e ({ frames := 1, cells := 0, slots := 0, locals := 23 } : Room) s m args below meth c H locs (0) (0) (MQ below (pw_Q rvV (fun _ H => NP E r0 a (u * t) f g h H) (fun q => q = r0 + 8 ∨ q = r0 + 9 ∨ q = r0 + 10)) args s (0) (0) (fun q => q = r0 + 8 ∨ q = r0 + 9 ∨ q = r0 + 10)) (F0 m 27 ls []) := by
    intro kk
    induction kk with
    | zero =>
      intro k f1 H locs ls hk hD hup hof hO hf hg hh hS hl
      have ek : k = n := by omega
      subst ek
      have hct := ct_le u.natAbs t.natAbs k
      refine lv_iload hx hb dX10_times_27 (lv_at hl 6 rfl) ?_
      refine lv_iload hx hb dX10_times_29 (lv_at hl 5 rfl) ?_
      refine pw_icmp_ge (tgt := 86) hx hb dX10_times_31 (by decide) (fun c_31 => ?_) (fun c_31 => absurd c_31 (by omega))
      rw [show ct u.natAbs t.natAbs k = dv (u.natAbs * t.natAbs) k from ct_top hxn] at hl hct
      exact loop2 (64 - k) k f1 _ _ _ (by omega) hD hof (by omega) hO hf hg hh hS (lv_sub hl [0, 1, 2, 3, 4, 5] rfl)
    | succ kk ih =>
      intro k f1 H locs ls hk hD hup hof hO hf hg hh hS hl
      have hbk := bd_lt u.natAbs k
      have hct := ct_le u.natAbs t.natAbs k
      have hpr : bd u.natAbs k * t.natAbs ≤ 268435456 * 2147483648 := Nat.mul_le_mul (by omega) hT
      refine lv_iload hx hb dX10_times_27 (lv_at hl 6 rfl) ?_
      refine lv_iload hx hb dX10_times_29 (lv_at hl 5 rfl) ?_
      refine pw_icmp_ge (tgt := 86) hx hb dX10_times_31 (by decide) (fun c_31 => absurd c_31 (by omega)) (fun c_31 => ?_)
      refine lv_aload_n hx hb dX10_times_34 rfl (lv_at hl 0 rfl) ?_
      refine pw_get (C := RX10) (T := TX10) (N := 20) hx hb hts hin10 hown hK hO rfl 13 (by decide) lk_38 rfl rfl dX10_times_35 ?_
      refine pw_bipush hx hb dX10_times_38 ?_
      refine lv_iload_n hx hb dX10_times_40 rfl (lv_at hl 1 rfl) ?_
      refine pw_imul hx hb dX10_times_41 ?_
      refine lv_iload hx hb dX10_times_42 (lv_at hl 6 rfl) ?_
      refine pw_iadd hx hb dX10_times_44 ?_
      refine pw_iald hx hb hK hf (((64) * ((a))) + ((k))) (by omega) (by omega) (by omega) dX10_times_45 ?_
      refine pw_asi ((bd u.natAbs k : Int)) (hup k (Nat.le_refl k) (by omega)) ?_
      refine pw_i2l hx hb dX10_times_46 ?_
      refine lv_lload_n hx hb dX10_times_47 rfl (lv_at hl 3 rfl) ?_
      refine pw_lmul hx hb dX10_times_48 ?_
      refine lv_lload hx hb dX10_times_49 (lv_at hl 4 rfl) ?_
      refine pw_ladd hx hb dX10_times_51 ?_
      refine pw_asl (((bd u.natAbs k * t.natAbs + ct u.natAbs t.natAbs k : Nat) : Int)) (by rw [Int.natCast_add, Int.natCast_mul]) ?_
      refine lv_lstore (lv' := [(9, .long (lI (((bd u.natAbs k * t.natAbs + ct u.natAbs t.natAbs k : Nat) : Int)))), (0, .ref (r0)), (1, .int (iI ((a : Int)))), (2, .int (iI (t))), (3, .long (lI ((t.natAbs : Int)))), (5, .long (lI (((ct u.natAbs t.natAbs k : Nat) : Int)))), (7, .int (iI ((n : Int)))), (8, .int (iI ((k : Int))))]) hx hb dX10_times_52 hl (by decide) rfl (fun ls hl => ?_)
      refine lv_aload_n hx hb dX10_times_54 rfl (lv_at hl 1 rfl) ?_
      refine pw_get (C := RX10) (T := TX10) (N := 20) hx hb hts hin10 hown hK hO rfl 13 (by decide) lk_38 rfl rfl dX10_times_55 ?_
      refine pw_bipush hx hb dX10_times_58 ?_
      refine lv_iload_n hx hb dX10_times_60 rfl (lv_at hl 2 rfl) ?_
      refine pw_imul hx hb dX10_times_61 ?_
      refine lv_iload hx hb dX10_times_62 (lv_at hl 7 rfl) ?_
      refine pw_iadd hx hb dX10_times_64 ?_
      refine lv_lload hx hb dX10_times_65 (lv_at hl 0 rfl) ?_
      refine pw_ldc2 (z := 268435455) hx hb hown kc_59 (by decide +kernel) dX10_times_67 ?_
      refine lv_land hx hb dX10_times_70 ?_
      refine pw_eql ((((bd u.natAbs k * t.natAbs + ct u.natAbs t.natAbs k) % 268435456 : Nat) : Int)) (j_land _) ?_
      refine pw_asl ((bd (u.natAbs * t.natAbs) k : Int)) (by rw [ct_dig]) ?_
      refine pw_l2i hx hb dX10_times_71 ?_
      refine pw_iast hx hb hK hf hS (Or.inl rfl) (((64) * ((a))) + ((k))) (by omega) (by omega) (by omega) dX10_times_72 (fun H1 locs1 hnew hz1 oq hS => ?_)
      have hO := hO.k (oq _ (by omega))
      have hg := hg.k (oq _ (by omega))
      have hh := hh.k (oq _ (by omega))
      have hf := hnew
      clear hnew oq hz1
      refine lv_lload hx hb dX10_times_73 (lv_at hl 0 rfl) ?_
      refine pw_bipush hx hb dX10_times_75 ?_
      refine lv_lshr hx hb dX10_times_77 rfl ?_
      refine pw_eql ((((bd u.natAbs k * t.natAbs + ct u.natAbs t.natAbs k) / 268435456 : Nat) : Int)) (j_lshr (by omega)) ?_
      refine pw_asl (((ct u.natAbs t.natAbs (k + 1) : Nat) : Int)) (by rw [ct_next]) ?_
      refine lv_lstore (lv' := [(5, .long (lI (((ct u.natAbs t.natAbs (k + 1) : Nat) : Int)))), (9, .long (lI (((bd u.natAbs k * t.natAbs + ct u.natAbs t.natAbs k : Nat) : Int)))), (0, .ref (r0)), (1, .int (iI ((a : Int)))), (2, .int (iI (t))), (3, .long (lI ((t.natAbs : Int)))), (7, .int (iI ((n : Int)))), (8, .int (iI ((k : Int))))]) hx hb dX10_times_78 hl (by decide) rfl (fun ls hl => ?_)
      refine lv_iinc (v := iI (((k + 1 : Nat) : Int))) (lv' := [(8, .int (iI (((k + 1 : Nat) : Int)))), (5, .long (lI (((ct u.natAbs t.natAbs (k + 1) : Nat) : Int)))), (9, .long (lI (((bd u.natAbs k * t.natAbs + ct u.natAbs t.natAbs k : Nat) : Int)))), (0, .ref (r0)), (1, .int (iI ((a : Int)))), (2, .int (iI (t))), (3, .long (lI ((t.natAbs : Int)))), (7, .int (iI ((n : Int))))]) hx hb dX10_times_80 hl (k := 7) rfl (by show iI _ + iI _ = _; exact (iI_add _ _).trans (by first | rfl | (congr 1; omega))) (by decide) rfl (fun ls hl => ?_)
      refine lv_goto (tgt := 27) hx hb dX10_times_83 (by decide) ?_
      exact ih (k + 1) _ _ _ _ (by omega) (hD.up rfl) (fun j h1 h2 => by rw [ud_n _ _ (by omega)]; exact hup j (by omega) h2) (ud_o (by omega) hof) hO hf hg hh hS (lv_sub hl [3, 4, 5, 6, 1, 7, 0] rfl)
  refine lv_iload_n hx hb dX10_times_0 rfl (lv_at hl 2 rfl) ?_
  refine pw_if_ge (tgt := 10) hx hb dX10_times_1 (by decide) (fun c_1 => ?_) (fun c_1 => ?_)
  · refine lv_iload_n hx hb dX10_times_10 rfl (lv_at hl 2 rfl) ?_
    refine pw_i2l hx hb dX10_times_11 ?_
    refine pw_asl ((t.natAbs : Int)) (by omega) ?_
    refine lv_lstore_n (lv' := [(3, .long (lI ((t.natAbs : Int)))), (0, .ref (r0)), (1, .int (iI ((a : Int)))), (2, .int (iI (t)))]) hx hb dX10_times_12 rfl hl (by decide) rfl (fun ls hl => ?_)
    refine pw_lconst (z := 0) hx hb dX10_times_13 ?_
    refine pw_asl (((ct u.natAbs t.natAbs 0 : Nat) : Int)) (by rw [ct_0]; rfl) ?_
    refine lv_lstore (lv' := [(5, .long (lI (((ct u.natAbs t.natAbs 0 : Nat) : Int)))), (3, .long (lI ((t.natAbs : Int)))), (0, .ref (r0)), (1, .int (iI ((a : Int)))), (2, .int (iI (t)))]) hx hb dX10_times_14 hl (by decide) rfl (fun ls hl => ?_)
    refine lv_aload_n hx hb dX10_times_16 rfl (lv_at hl 2 rfl) ?_
    refine pw_get (C := RX10) (T := TX10) (N := 20) hx hb hts hin10 hown hK hO rfl 14 (by decide) lk_41 rfl rfl dX10_times_17 ?_
    refine lv_iload_n hx hb dX10_times_20 rfl (lv_at hl 3 rfl) ?_
    refine pw_iald hx hb hK hg (a) rfl (by omega) (by omega) dX10_times_21 ?_
    refine pw_asi ((n : Int)) hga ?_
    refine lv_istore (lv' := [(7, .int (iI ((n : Int)))), (5, .long (lI (((ct u.natAbs t.natAbs 0 : Nat) : Int)))), (3, .long (lI ((t.natAbs : Int)))), (0, .ref (r0)), (1, .int (iI ((a : Int)))), (2, .int (iI (t)))]) hx hb dX10_times_22 hl (by decide) rfl (fun ls hl => ?_)
    refine pw_iconst hx hb dX10_times_24 ?_
    refine lv_istore (lv' := [(8, .int (iI (0))), (7, .int (iI ((n : Int)))), (5, .long (lI (((ct u.natAbs t.natAbs 0 : Nat) : Int)))), (3, .long (lI ((t.natAbs : Int)))), (0, .ref (r0)), (1, .int (iI ((a : Int)))), (2, .int (iI (t)))]) hx hb dX10_times_25 hl (by decide) rfl (fun ls hl => ?_)
    exact loop1 n 0 f _ _ _ (by omega) (fun k hk => by omega) (fun j _ hj => hDa j hj) (fun _ _ => rfl) hO hf hg hh hS (lv_sub hl [4, 5, 6, 3, 2, 1, 0] rfl)
  · refine lv_iload_n hx hb dX10_times_4 rfl (lv_at hl 2 rfl) ?_
    refine pw_i2l hx hb dX10_times_5 ?_
    refine pw_lneg hx hb dX10_times_6 ?_
    refine pw_asl ((t.natAbs : Int)) (by omega) ?_
    refine lv_goto (tgt := 12) hx hb dX10_times_7 (by decide) ?_
    refine lv_lstore_n (lv' := [(3, .long (lI ((t.natAbs : Int)))), (0, .ref (r0)), (1, .int (iI ((a : Int)))), (2, .int (iI (t)))]) hx hb dX10_times_12 rfl hl (by decide) rfl (fun ls hl => ?_)
    refine pw_lconst (z := 0) hx hb dX10_times_13 ?_
    refine pw_asl (((ct u.natAbs t.natAbs 0 : Nat) : Int)) (by rw [ct_0]; rfl) ?_
    refine lv_lstore (lv' := [(5, .long (lI (((ct u.natAbs t.natAbs 0 : Nat) : Int)))), (3, .long (lI ((t.natAbs : Int)))), (0, .ref (r0)), (1, .int (iI ((a : Int)))), (2, .int (iI (t)))]) hx hb dX10_times_14 hl (by decide) rfl (fun ls hl => ?_)
    refine lv_aload_n hx hb dX10_times_16 rfl (lv_at hl 2 rfl) ?_
    refine pw_get (C := RX10) (T := TX10) (N := 20) hx hb hts hin10 hown hK hO rfl 14 (by decide) lk_41 rfl rfl dX10_times_17 ?_
    refine lv_iload_n hx hb dX10_times_20 rfl (lv_at hl 3 rfl) ?_
    refine pw_iald hx hb hK hg (a) rfl (by omega) (by omega) dX10_times_21 ?_
    refine pw_asi ((n : Int)) hga ?_
    refine lv_istore (lv' := [(7, .int (iI ((n : Int)))), (5, .long (lI (((ct u.natAbs t.natAbs 0 : Nat) : Int)))), (3, .long (lI ((t.natAbs : Int)))), (0, .ref (r0)), (1, .int (iI ((a : Int)))), (2, .int (iI (t)))]) hx hb dX10_times_22 hl (by decide) rfl (fun ls hl => ?_)
    refine pw_iconst hx hb dX10_times_24 ?_
    refine lv_istore (lv' := [(8, .int (iI (0))), (7, .int (iI ((n : Int)))), (5, .long (lI (((ct u.natAbs t.natAbs 0 : Nat) : Int)))), (3, .long (lI ((t.natAbs : Int)))), (0, .ref (r0)), (1, .int (iI ((a : Int)))), (2, .int (iI (t)))]) hx hb dX10_times_25 hl (by decide) rfl (fun ls hl => ?_)
    exact loop1 n 0 f _ _ _ (by omega) (fun k hk => by omega) (fun j _ hj => hDa j hj) (fun _ _ => rfl) hO hf hg hh hS (lv_sub hl [4, 5, 6, 3, 2, 1, 0] rfl)
