/-! the reference: multiply, overSmall -/
def dm (x k d : Nat) : Nat := x / 268435456 ^ k % d
theorem sgn_div {x d : Nat} (h0 : x / d ≠ 0) : ((x : Int)).sign = (((x / d : Nat)) : Int).sign := by
  have h1 : 0 < x := Nat.pos_of_ne_zero (fun e => h0 (by rw [e, Nat.zero_div]))
  rw [Int.sign_eq_one_of_pos (show (0 : Int) < (x : Int) by omega), Int.sign_eq_one_of_pos (Int.ofNat_lt.mpr (Nat.pos_of_ne_zero h0))]
theorem bd_z (k : Nat) : bd 0 k = 0 := by unfold bd; rw [Nat.zero_div, Nat.zero_mod]
theorem mul_row (x y i : Nat) : x % 268435456 ^ (i + 1) * y = x % 268435456 ^ i * y + bd x i * (268435456 ^ i * y) := by rw [bd_split, Nat.add_mul, Nat.mul_comm (268435456 ^ i), Nat.mul_assoc]
theorem bd_low {P d i y k : Nat} (hk : k < i) : bd (P + d * (268435456 ^ i * y)) k = bd P k := by
  obtain ⟨q, rfl⟩ : ∃ q, i = k + 1 + q := ⟨i - k - 1, by omega⟩
  refine bd_congr ?_
  have e : d * (268435456 ^ (k + 1 + q) * y) = 268435456 ^ (k + 1) * (268435456 ^ q * (d * y)) := by
    rw [Nat.pow_add, Nat.mul_assoc (268435456 ^ (k + 1)), Nat.mul_left_comm d (268435456 ^ (k + 1)), Nat.mul_left_comm d (268435456 ^ q)]
  rw [e, Nat.add_mul_mod_self_left]
theorem rb_mul {x y n m : Nat} (hx : x < 268435456 ^ n) (hy : y < 268435456 ^ m) : x * y < 268435456 ^ (n + m) := by
  rw [Nat.pow_add]
  exact Nat.mul_lt_mul'' hx hy
set_option maxHeartbeats 4000000 in
set_option maxRecDepth 100000 in
/-- multiply(a, b, c) -/
theorem r_multiply (l : Launch) (D : va_G) (E : Nat → ClassId) (r0 : Nat) (o f g h : Nat → Int) (a b c0 p1 p2 : Nat) (u v : Int) (ha0 : a < 80) (hb0 : b < 80) (ha : c0 < 80) (hac : a ≠ c0) (hbc : b ≠ c0) (hA : Num f g h a u) (hB : Num f g h b v) (hu : u.natAbs < 268435456 ^ p1) (hv : v.natAbs < 268435456 ^ p2) (hp : p1 + p2 ≤ 64) : pw_M rvV l D E yX10_multiply wsX10_multiply ({ frames := 1, cells := 0, slots := 0, locals := 23 } : Room) [.ref (r0), .int (iI ((a : Int))), .int (iI ((b : Int))), .int (iI ((c0 : Int)))] (fun H => RO D r0 o H ∧ NA E r0 f g h H) (fun _ H => NP E r0 c0 (u * v) f g h H) (fun q => q = r0 + 8 ∨ q = r0 + 9 ∨ q = r0 + 10) (0) (0) := by
  refine pw_of (cc := cX10_multiply) (maxL := 13) (ret := none) (by decide +kernel) rfl (Nat.le_of_ble_eq_true rfl) ?_
  intro p e s m args below meth c hx hb hr hml hts hown hlocks hini hK ⟨hO, hf, hg, hh⟩ ls hl
  have hown : s.vm.findClass RX10 = some m.cls := hown
  have hl : lv_has ls 13 [(0, .ref (r0)), (1, .int (iI ((a : Int)))), (2, .int (iI ((b : Int)))), (3, .int (iI ((c0 : Int))))] := hl
  have hS : va_S (fun q => q = r0 + 8 ∨ q = r0 + 9 ∨ q = r0 + 10) s.heap s.heap [] := va_S.rf
  have lk_38 := hts (.fieldLink RX10 38 "PolicyWorksModel" "limbs" "[I") (by decide +kernel)
  have lk_41 := hts (.fieldLink RX10 41 "PolicyWorksModel" "lengths" "[I") (by decide +kernel)
  have lk_44 := hts (.fieldLink RX10 44 "PolicyWorksModel" "signs" "[I") (by decide +kernel)
  have kc_59 := hts (.constantLong RX10 59 (268435455)) (by decide +kernel)
  have hin10 : ∀ w ∈ wsX100, w ∈ wsX10_multiply := by decide +kernel
  obtain ⟨n, hrk, hga, hDa, hsa⟩ := hA
  obtain ⟨m0, hrk2, hgb, hDb, hsb⟩ := hB
  have hn := rk_le hrk hu
  have hm0 := rk_le hrk2 hv
  have hxn : u.natAbs < 268435456 ^ n := hrk.2.1
  have hym : v.natAbs < 268435456 ^ m0 := hrk2.2.1
  have hxy := rb_mul hxn hym
  have hsu := sgn_b u
  have hsv := sgn_b v
  have loopI : ∀ (kk i : Nat) (f1 : Nat → Int) (H : Heap) (locs : List Loc) (ls : Array Slot), i + kk = n → DG f1 c0 (u.natAbs % 268435456 ^ i * v.natAbs) (n + m0) → (∀ q, q < 64 * c0 ∨ 64 * c0 + 64 ≤ q → f1 q = f q) → RO D r0 o H → IA E (r0 + 8) 5120 f1 H → IA E (r0 + 9) 80 g H → IA E (r0 + 10) 80 h H → va_S (fun q => q = r0 + 8 ∨ q = r0 + 9 ∨ q = r0 + 10) s.heap H locs → lv_has ls 13 [(0, .ref (r0)), (1, .int (iI ((a : Int)))), (2, .int (iI ((b : Int)))), (3, .int (iI ((c0 : Int)))), (4, .int (iI (((n + m0 : Nat) : Int)))), (5, .int (iI ((i : Int))))] → W p l e ({ frames := 1, cells := 0, slots := 0, locals := 23 } : Room) s m args below meth c H locs (0) (0) (MQ below (pw_Q rvV (fun _ H => NP E r0 c0 (u * v) f g h H) (fun q => q = r0 + 8 ∨ q = r0 + 9 ∨ q = r0 + 10)) args s (0) (0) (fun q => q = r0 + 8 ∨ q = r0 + 9 ∨ q = r0 + 10)) (F0 m 47 ls []) := by
    intro kk
    induction kk with
    | zero =>
      intro i f1 H locs ls hi hD hof hO hf hg hh hS hl
      have ei : i = n := by omega
      subst ei
      rw [Nat.mod_eq_of_lt hxn] at hD
      refine lv_iload hx hb dX10_multiply_47 (lv_at hl 5 rfl) ?_
      refine lv_aload_n hx hb dX10_multiply_49 rfl (lv_at hl 0 rfl) ?_
      refine pw_get (C := RX10) (T := TX10) (N := 20) hx hb hts hin10 hown hK hO rfl 14 (by decide) lk_41 rfl rfl dX10_multiply_50 ?_
      refine lv_iload_n hx hb dX10_multiply_53 rfl (lv_at hl 1 rfl) ?_
      refine pw_iald hx hb hK hg (a) rfl (by omega) (by omega) dX10_multiply_54 ?_
      refine pw_asi ((i : Int)) hga ?_
      refine pw_icmp_ge (tgt := 191) hx hb dX10_multiply_55 (by decide) (fun c_55 => ?_) (fun c_55 => absurd c_55 (by omega))
      refine lv_aload_n hx hb dX10_multiply_191 rfl (lv_at hl 0 rfl) ?_
      refine pw_get (C := RX10) (T := TX10) (N := 20) hx hb hts hin10 hown hK hO rfl 15 (by decide) lk_44 rfl rfl dX10_multiply_192 ?_
      refine lv_iload_n hx hb dX10_multiply_195 rfl (lv_at hl 3 rfl) ?_
      refine lv_aload_n hx hb dX10_multiply_196 rfl (lv_at hl 0 rfl) ?_
      refine pw_get (C := RX10) (T := TX10) (N := 20) hx hb hts hin10 hown hK hO rfl 15 (by decide) lk_44 rfl rfl dX10_multiply_197 ?_
      refine lv_iload_n hx hb dX10_multiply_200 rfl (lv_at hl 1 rfl) ?_
      refine pw_iald hx hb hK hh (a) rfl (by omega) (by omega) dX10_multiply_201 ?_
      refine pw_asi (u.sign) hsa ?_
      refine lv_aload_n hx hb dX10_multiply_202 rfl (lv_at hl 0 rfl) ?_
      refine pw_get (C := RX10) (T := TX10) (N := 20) hx hb hts hin10 hown hK hO rfl 15 (by decide) lk_44 rfl rfl dX10_multiply_203 ?_
      refine lv_iload_n hx hb dX10_multiply_206 rfl (lv_at hl 2 rfl) ?_
      refine pw_iald hx hb hK hh (b) rfl (by omega) (by omega) dX10_multiply_207 ?_
      refine pw_asi (v.sign) hsb ?_
      refine pw_imul hx hb dX10_multiply_208 ?_
      refine pw_iast hx hb hK hh hS (Or.inr (Or.inr rfl)) (c0) rfl (by omega) (by omega) dX10_multiply_209 (fun H1 locs1 hnew hz1 oq hS => ?_)
      have hO := hO.k (oq _ (by omega))
      have hf := hf.k (oq _ (by omega))
      have hg := hg.k (oq _ (by omega))
      have hh := hnew
      clear hnew oq hz1
      refine lv_aload_n hx hb dX10_multiply_210 rfl (lv_at hl 0 rfl) ?_
      refine lv_iload_n hx hb dX10_multiply_211 rfl (lv_at hl 3 rfl) ?_
      refine lv_iload hx hb dX10_multiply_212 (lv_at hl 4 rfl) ?_
      refine pw_callVv (As := [.int (iI ((c0 : Int))), .int (iI (((i + m0 : Nat) : Int)))]) (rest := []) ⟨hx, hb, hml, hown, hts⟩ (r_trim l D E r0 o f1 g (ud h c0 (u.sign * v.sign)) c0 (i + m0) (u.natAbs * v.natAbs) (u * v) ha (by omega) hxy hD (Int.natAbs_mul _ _) (fun _ => by rw [ud_s, Int.sign_mul])) (cwV 2 hts gX10_multiply_X10_trim rfl rfl rfl (by decide +kernel) ⟨Nat.le_of_ble_eq_true rfl, Nat.le_of_ble_eq_true rfl⟩) hK hO rfl ⟨hO, hf, hg, hh⟩ rfl hl.1 rfl (Nat.le_of_ble_eq_true rfl) dX10_multiply_214 ⟨Nat.zero_le _, Nat.zero_le _⟩ hS (fun q h => h) (fun H1 locs1 hNP hz1 hk1 hS => ?_)
      have hO := hO.k (hk1 _ hO.lt (by (try dsimp only); omega))
      exact pw_vret hx hb hr hlocks hS (hNP.tr ⟨hof, fun b hb => ⟨rfl, ud_n _ _ hb⟩⟩) dX10_multiply_217
    | succ kk ih =>
      intro i f1 H locs ls hi hD hof hO hf hg hh hS hl
      have hbx := bd_lt u.natAbs i
      have hQe := mul_row u.natAbs v.natAbs i
      have hQ : ((u.natAbs % 268435456 ^ i * v.natAbs) + bd u.natAbs i * (268435456 ^ i * v.natAbs)) < 268435456 ^ (n + m0) := by rw [← hQe]; exact Nat.lt_of_le_of_lt (Nat.mul_le_mul_right _ (Nat.mod_le _ _)) hxy
      have loopJ : ∀ (qq j : Nat) (f1 : Nat → Int) (H : Heap) (locs : List Loc) (ls : Array Slot), i + j + qq = n + m0 → DG f1 c0 ((u.natAbs % 268435456 ^ i * v.natAbs) + bd u.natAbs i * (268435456 ^ i * v.natAbs)) (i + j) → (∀ k, i + j ≤ k → k < n + m0 → f1 (64 * c0 + k) = (bd (u.natAbs % 268435456 ^ i * v.natAbs) k : Int)) → (∀ q, q < 64 * c0 ∨ 64 * c0 + 64 ≤ q → f1 q = f q) → RO D r0 o H → IA E (r0 + 8) 5120 f1 H → IA E (r0 + 9) 80 g H → IA E (r0 + 10) 80 h H → va_S (fun q => q = r0 + 8 ∨ q = r0 + 9 ∨ q = r0 + 10) s.heap H locs → lv_has ls 13 [(0, .ref (r0)), (1, .int (iI ((a : Int)))), (2, .int (iI ((b : Int)))), (3, .int (iI ((c0 : Int)))), (4, .int (iI (((n + m0 : Nat) : Int)))), (5, .int (iI ((i : Int)))), (6, .long (lI (((cm (u.natAbs % 268435456 ^ i * v.natAbs) (bd u.natAbs i) i v.natAbs j : Nat) : Int)))), (8, .long (lI ((bd u.natAbs i : Int)))), (10, .int (iI ((j : Int))))] → W p l e ({ frames := 1, cells := 0, slots := 0, locals := 23 } : Room) s m args below meth c H locs (0) (0) (MQ below (pw_Q rvV (fun _ H => NP E r0 c0 (u * v) f g h H) (fun q => q = r0 + 8 ∨ q = r0 + 9 ∨ q = r0 + 10)) args s (0) (0) (fun q => q = r0 + 8 ∨ q = r0 + 9 ∨ q = r0 + 10)) (F0 m 79 ls []) := by
        intro qq
        induction qq with
        | zero =>
          intro j f1 H locs ls hj hD hup hof hO hf hg hh hS hl
          have hc0 : cm (u.natAbs % 268435456 ^ i * v.natAbs) (bd u.natAbs i) i v.natAbs j = 0 := by
            rcases Nat.eq_zero_or_pos (cm (u.natAbs % 268435456 ^ i * v.natAbs) (bd u.natAbs i) i v.natAbs j) with h0 | h0
            · exact h0
            · have := cm_more hQ h0; omega
          refine lv_iload hx hb dX10_multiply_79 (lv_at hl 8 rfl) ?_
          refine lv_aload_n hx hb dX10_multiply_81 rfl (lv_at hl 0 rfl) ?_
          refine pw_get (C := RX10) (T := TX10) (N := 20) hx hb hts hin10 hown hK hO rfl 14 (by decide) lk_41 rfl rfl dX10_multiply_82 ?_
          refine lv_iload_n hx hb dX10_multiply_85 rfl (lv_at hl 2 rfl) ?_
          refine pw_iald hx hb hK hg (b) rfl (by omega) (by omega) dX10_multiply_86 ?_
          refine pw_asi ((m0 : Int)) hgb ?_
          refine pw_icmp_lt (tgt := 97) hx hb dX10_multiply_87 (by decide) (fun c_87 => absurd c_87 (by omega)) (fun c_87 => ?_)
          refine lv_lload hx hb dX10_multiply_90 (lv_at hl 6 rfl) ?_
          refine pw_lconst (z := 0) hx hb dX10_multiply_92 ?_
          refine pw_lcmp_le (tgt := 185) hx hb dX10_multiply_93 dX10_multiply_94 (by decide) (fun c_93 => ?_) (fun c_93 => absurd c_93 (by rw [hc0]; omega))
          refine lv_iinc (v := iI (((i + 1 : Nat) : Int))) (lv' := [(5, .int (iI (((i + 1 : Nat) : Int)))), (0, .ref (r0)), (1, .int (iI ((a : Int)))), (2, .int (iI ((b : Int)))), (3, .int (iI ((c0 : Int)))), (4, .int (iI (((n + m0 : Nat) : Int)))), (6, .long (lI (((cm (u.natAbs % 268435456 ^ i * v.natAbs) (bd u.natAbs i) i v.natAbs j : Nat) : Int)))), (8, .long (lI ((bd u.natAbs i : Int)))), (10, .int (iI ((j : Int))))]) hx hb dX10_multiply_185 hl (k := 5) rfl (by show iI _ + iI _ = _; exact (iI_add _ _).trans (by first | rfl | (congr 1; omega))) (by decide) rfl (fun ls hl => ?_)
          refine lv_goto (tgt := 47) hx hb dX10_multiply_188 (by decide) ?_
          have hD2 : DG f1 c0 (u.natAbs % 268435456 ^ (i + 1) * v.natAbs) (n + m0) := fun k hk => by
            rw [hQe]
            by_cases e : k < i + j
            · exact hD k e
            · rw [hup k (by omega) hk, cm_end (Nat.lt_of_lt_of_le hym (rb_mono (by omega))) hc0 k (by omega)]
          exact ih (i + 1) f1 _ _ _ (by omega) hD2 hof hO hf hg hh hS (lv_sub hl [1, 2, 3, 4, 5, 0] rfl)
        | succ qq ih2 =>
          intro j f1 H locs ls hj hD hup hof hO hf hg hh hS hl
          have hcm := cm_le (u.natAbs % 268435456 ^ i * v.natAbs) (bd u.natAbs i) i v.natAbs j
          have hbP := bd_lt (u.natAbs % 268435456 ^ i * v.natAbs) (i + j)
          have hby := bd_lt v.natAbs j
          have hpr : bd u.natAbs i * bd v.natAbs j ≤ 268435456 * 268435456 := Nat.mul_le_mul (by omega) (by omega)
          refine lv_iload hx hb dX10_multiply_79 (lv_at hl 8 rfl) ?_
          refine lv_aload_n hx hb dX10_multiply_81 rfl (lv_at hl 0 rfl) ?_
          refine pw_get (C := RX10) (T := TX10) (N := 20) hx hb hts hin10 hown hK hO rfl 14 (by decide) lk_41 rfl rfl dX10_multiply_82 ?_
          refine lv_iload_n hx hb dX10_multiply_85 rfl (lv_at hl 2 rfl) ?_
          refine pw_iald hx hb hK hg (b) rfl (by omega) (by omega) dX10_multiply_86 ?_
          refine pw_asi ((m0 : Int)) hgb ?_
          refine pw_icmp_lt (tgt := 97) hx hb dX10_multiply_87 (by decide) (fun c_87 => ?_) (fun c_87 => ?_)
          · have hij : i + j < n + m0 := by omega
            refine lv_aload_n hx hb dX10_multiply_97 rfl (lv_at hl 0 rfl) ?_
            refine pw_get (C := RX10) (T := TX10) (N := 20) hx hb hts hin10 hown hK hO rfl 13 (by decide) lk_38 rfl rfl dX10_multiply_98 ?_
            refine pw_bipush hx hb dX10_multiply_101 ?_
            refine lv_iload_n hx hb dX10_multiply_103 rfl (lv_at hl 3 rfl) ?_
            refine pw_imul hx hb dX10_multiply_104 ?_
            refine lv_iload hx hb dX10_multiply_105 (lv_at hl 5 rfl) ?_
            refine pw_iadd hx hb dX10_multiply_107 ?_
            refine lv_iload hx hb dX10_multiply_108 (lv_at hl 8 rfl) ?_
            refine pw_iadd hx hb dX10_multiply_110 ?_
            refine pw_iald hx hb hK hf (64 * c0 + (i + j)) (by omega) (by omega) (by omega) dX10_multiply_111 ?_
            refine pw_asi ((bd (u.natAbs % 268435456 ^ i * v.natAbs) (i + j) : Int)) (hup _ (Nat.le_refl _) hij) ?_
            refine pw_i2l hx hb dX10_multiply_112 ?_
            refine lv_lload hx hb dX10_multiply_113 (lv_at hl 6 rfl) ?_
            refine pw_ladd hx hb dX10_multiply_115 ?_
            refine lv_iload hx hb dX10_multiply_116 (lv_at hl 8 rfl) ?_
            refine lv_aload_n hx hb dX10_multiply_118 rfl (lv_at hl 0 rfl) ?_
            refine pw_get (C := RX10) (T := TX10) (N := 20) hx hb hts hin10 hown hK hO rfl 14 (by decide) lk_41 rfl rfl dX10_multiply_119 ?_
            refine lv_iload_n hx hb dX10_multiply_122 rfl (lv_at hl 2 rfl) ?_
            refine pw_iald hx hb hK hg (b) rfl (by omega) (by omega) dX10_multiply_123 ?_
            refine pw_asi ((m0 : Int)) hgb ?_
            refine pw_icmp_ge (tgt := 146) hx hb dX10_multiply_124 (by decide) (fun c_124 => ?_) (fun c_124 => ?_)
            · refine pw_lconst (z := 0) hx hb dX10_multiply_146 ?_
              refine pw_asl (((bd u.natAbs i * bd v.natAbs j : Nat) : Int)) (by rw [bd_0 (Nat.lt_of_lt_of_le hym (rb_mono (by omega))), Nat.mul_zero]; rfl) ?_
              refine pw_ladd hx hb dX10_multiply_147 ?_
              refine pw_asl (((bd (u.natAbs % 268435456 ^ i * v.natAbs) (i + j) + cm (u.natAbs % 268435456 ^ i * v.natAbs) (bd u.natAbs i) i v.natAbs j + bd u.natAbs i * bd v.natAbs j : Nat) : Int)) (by rw [Int.natCast_add, Int.natCast_add]) ?_
              refine lv_lstore (lv' := [(11, .long (lI (((bd (u.natAbs % 268435456 ^ i * v.natAbs) (i + j) + cm (u.natAbs % 268435456 ^ i * v.natAbs) (bd u.natAbs i) i v.natAbs j + bd u.natAbs i * bd v.natAbs j : Nat) : Int)))), (0, .ref (r0)), (1, .int (iI ((a : Int)))), (2, .int (iI ((b : Int)))), (3, .int (iI ((c0 : Int)))), (4, .int (iI (((n + m0 : Nat) : Int)))), (5, .int (iI ((i : Int)))), (6, .long (lI (((cm (u.natAbs % 268435456 ^ i * v.natAbs) (bd u.natAbs i) i v.natAbs j : Nat) : Int)))), (8, .long (lI ((bd u.natAbs i : Int)))), (10, .int (iI ((j : Int))))]) hx hb dX10_multiply_148 hl (by decide) rfl (fun ls hl => ?_)
              refine lv_aload_n hx hb dX10_multiply_150 rfl (lv_at hl 1 rfl) ?_
              refine pw_get (C := RX10) (T := TX10) (N := 20) hx hb hts hin10 hown hK hO rfl 13 (by decide) lk_38 rfl rfl dX10_multiply_151 ?_
              refine pw_bipush hx hb dX10_multiply_154 ?_
              refine lv_iload_n hx hb dX10_multiply_156 rfl (lv_at hl 4 rfl) ?_
              refine pw_imul hx hb dX10_multiply_157 ?_
              refine lv_iload hx hb dX10_multiply_158 (lv_at hl 6 rfl) ?_
              refine pw_iadd hx hb dX10_multiply_160 ?_
              refine lv_iload hx hb dX10_multiply_161 (lv_at hl 9 rfl) ?_
              refine pw_iadd hx hb dX10_multiply_163 ?_
              refine lv_lload hx hb dX10_multiply_164 (lv_at hl 0 rfl) ?_
              refine pw_ldc2 (z := 268435455) hx hb hown kc_59 (by decide +kernel) dX10_multiply_166 ?_
              refine lv_land hx hb dX10_multiply_169 ?_
              refine pw_eql ((((bd (u.natAbs % 268435456 ^ i * v.natAbs) (i + j) + cm (u.natAbs % 268435456 ^ i * v.natAbs) (bd u.natAbs i) i v.natAbs j + bd u.natAbs i * bd v.natAbs j) % 268435456 : Nat) : Int)) (j_land _) ?_
              refine pw_asl ((bd ((u.natAbs % 268435456 ^ i * v.natAbs) + bd u.natAbs i * (268435456 ^ i * v.natAbs)) (i + j) : Int)) (by rw [cm_dig]) ?_
              refine pw_l2i hx hb dX10_multiply_170 ?_
              refine pw_iast hx hb hK hf hS (Or.inl rfl) (64 * c0 + (i + j)) (by omega) (by omega) (by omega) dX10_multiply_171 (fun H1 locs1 hnew hz1 oq hS => ?_)
              have hO := hO.k (oq _ (by omega))
              have hg := hg.k (oq _ (by omega))
              have hh := hh.k (oq _ (by omega))
              have hf := hnew
              clear hnew oq hz1
              refine lv_lload hx hb dX10_multiply_172 (lv_at hl 0 rfl) ?_
              refine pw_bipush hx hb dX10_multiply_174 ?_
              refine lv_lshr hx hb dX10_multiply_176 rfl ?_
              refine pw_eql ((((bd (u.natAbs % 268435456 ^ i * v.natAbs) (i + j) + cm (u.natAbs % 268435456 ^ i * v.natAbs) (bd u.natAbs i) i v.natAbs j + bd u.natAbs i * bd v.natAbs j) / 268435456 : Nat) : Int)) (j_lshr (by omega)) ?_
              refine pw_asl (((cm (u.natAbs % 268435456 ^ i * v.natAbs) (bd u.natAbs i) i v.natAbs (j + 1) : Nat) : Int)) (by rw [cm_next]) ?_
              refine lv_lstore (lv' := [(6, .long (lI (((cm (u.natAbs % 268435456 ^ i * v.natAbs) (bd u.natAbs i) i v.natAbs (j + 1) : Nat) : Int)))), (11, .long (lI (((bd (u.natAbs % 268435456 ^ i * v.natAbs) (i + j) + cm (u.natAbs % 268435456 ^ i * v.natAbs) (bd u.natAbs i) i v.natAbs j + bd u.natAbs i * bd v.natAbs j : Nat) : Int)))), (0, .ref (r0)), (1, .int (iI ((a : Int)))), (2, .int (iI ((b : Int)))), (3, .int (iI ((c0 : Int)))), (4, .int (iI (((n + m0 : Nat) : Int)))), (5, .int (iI ((i : Int)))), (8, .long (lI ((bd u.natAbs i : Int)))), (10, .int (iI ((j : Int))))]) hx hb dX10_multiply_177 hl (by decide) rfl (fun ls hl => ?_)
              refine lv_iinc (v := iI (((j + 1 : Nat) : Int))) (lv' := [(10, .int (iI (((j + 1 : Nat) : Int)))), (6, .long (lI (((cm (u.natAbs % 268435456 ^ i * v.natAbs) (bd u.natAbs i) i v.natAbs (j + 1) : Nat) : Int)))), (11, .long (lI (((bd (u.natAbs % 268435456 ^ i * v.natAbs) (i + j) + cm (u.natAbs % 268435456 ^ i * v.natAbs) (bd u.natAbs i) i v.natAbs j + bd u.natAbs i * bd v.natAbs j : Nat) : Int)))), (0, .ref (r0)), (1, .int (iI ((a : Int)))), (2, .int (iI ((b : Int)))), (3, .int (iI ((c0 : Int)))), (4, .int (iI (((n + m0 : Nat) : Int)))), (5, .int (iI ((i : Int)))), (8, .long (lI ((bd u.natAbs i : Int))))]) hx hb dX10_multiply_179 hl (k := 9) rfl (by show iI _ + iI _ = _; exact (iI_add _ _).trans (by first | rfl | (congr 1; omega))) (by decide) rfl (fun ls hl => ?_)
              refine lv_goto (tgt := 79) hx hb dX10_multiply_182 (by decide) ?_
              exact ih2 (j + 1) _ _ _ _ (by omega) (hD.up rfl) (fun k h1 h2 => by rw [ud_n _ _ (by omega)]; exact hup k (by omega) h2) (ud_o (by omega) hof) hO hf hg hh hS (lv_sub hl [3, 4, 5, 6, 7, 8, 1, 9, 0] rfl)
            · refine lv_lload hx hb dX10_multiply_127 (lv_at hl 7 rfl) ?_
              refine lv_aload_n hx hb dX10_multiply_129 rfl (lv_at hl 0 rfl) ?_
              refine pw_get (C := RX10) (T := TX10) (N := 20) hx hb hts hin10 hown hK hO rfl 13 (by decide) lk_38 rfl rfl dX10_multiply_130 ?_
              refine pw_bipush hx hb dX10_multiply_133 ?_
              refine lv_iload_n hx hb dX10_multiply_135 rfl (lv_at hl 2 rfl) ?_
              refine pw_imul hx hb dX10_multiply_136 ?_
              refine lv_iload hx hb dX10_multiply_137 (lv_at hl 8 rfl) ?_
              refine pw_iadd hx hb dX10_multiply_139 ?_
              refine pw_iald hx hb hK hf (((64) * ((b))) + ((j))) (by omega) (by omega) (by omega) dX10_multiply_140 ?_
              refine pw_asi ((bd v.natAbs j : Int)) ((hof _ (by omega)).trans (hDb j (by omega))) ?_
              refine pw_i2l hx hb dX10_multiply_141 ?_
              refine pw_lmul hx hb dX10_multiply_142 ?_
              refine pw_asl (((bd u.natAbs i * bd v.natAbs j : Nat) : Int)) (by rw [Int.natCast_mul]) ?_
              refine lv_goto (tgt := 147) hx hb dX10_multiply_143 (by decide) ?_
              refine pw_ladd hx hb dX10_multiply_147 ?_
              refine pw_asl (((bd (u.natAbs % 268435456 ^ i * v.natAbs) (i + j) + cm (u.natAbs % 268435456 ^ i * v.natAbs) (bd u.natAbs i) i v.natAbs j + bd u.natAbs i * bd v.natAbs j : Nat) : Int)) (by rw [Int.natCast_add, Int.natCast_add]) ?_
              refine lv_lstore (lv' := [(11, .long (lI (((bd (u.natAbs % 268435456 ^ i * v.natAbs) (i + j) + cm (u.natAbs % 268435456 ^ i * v.natAbs) (bd u.natAbs i) i v.natAbs j + bd u.natAbs i * bd v.natAbs j : Nat) : Int)))), (0, .ref (r0)), (1, .int (iI ((a : Int)))), (2, .int (iI ((b : Int)))), (3, .int (iI ((c0 : Int)))), (4, .int (iI (((n + m0 : Nat) : Int)))), (5, .int (iI ((i : Int)))), (6, .long (lI (((cm (u.natAbs % 268435456 ^ i * v.natAbs) (bd u.natAbs i) i v.natAbs j : Nat) : Int)))), (8, .long (lI ((bd u.natAbs i : Int)))), (10, .int (iI ((j : Int))))]) hx hb dX10_multiply_148 hl (by decide) rfl (fun ls hl => ?_)
              refine lv_aload_n hx hb dX10_multiply_150 rfl (lv_at hl 1 rfl) ?_
              refine pw_get (C := RX10) (T := TX10) (N := 20) hx hb hts hin10 hown hK hO rfl 13 (by decide) lk_38 rfl rfl dX10_multiply_151 ?_
              refine pw_bipush hx hb dX10_multiply_154 ?_
              refine lv_iload_n hx hb dX10_multiply_156 rfl (lv_at hl 4 rfl) ?_
              refine pw_imul hx hb dX10_multiply_157 ?_
              refine lv_iload hx hb dX10_multiply_158 (lv_at hl 6 rfl) ?_
              refine pw_iadd hx hb dX10_multiply_160 ?_
              refine lv_iload hx hb dX10_multiply_161 (lv_at hl 9 rfl) ?_
              refine pw_iadd hx hb dX10_multiply_163 ?_
              refine lv_lload hx hb dX10_multiply_164 (lv_at hl 0 rfl) ?_
              refine pw_ldc2 (z := 268435455) hx hb hown kc_59 (by decide +kernel) dX10_multiply_166 ?_
              refine lv_land hx hb dX10_multiply_169 ?_
              refine pw_eql ((((bd (u.natAbs % 268435456 ^ i * v.natAbs) (i + j) + cm (u.natAbs % 268435456 ^ i * v.natAbs) (bd u.natAbs i) i v.natAbs j + bd u.natAbs i * bd v.natAbs j) % 268435456 : Nat) : Int)) (j_land _) ?_
              refine pw_asl ((bd ((u.natAbs % 268435456 ^ i * v.natAbs) + bd u.natAbs i * (268435456 ^ i * v.natAbs)) (i + j) : Int)) (by rw [cm_dig]) ?_
              refine pw_l2i hx hb dX10_multiply_170 ?_
              refine pw_iast hx hb hK hf hS (Or.inl rfl) (64 * c0 + (i + j)) (by omega) (by omega) (by omega) dX10_multiply_171 (fun H1 locs1 hnew hz1 oq hS => ?_)
              have hO := hO.k (oq _ (by omega))
              have hg := hg.k (oq _ (by omega))
              have hh := hh.k (oq _ (by omega))
              have hf := hnew
              clear hnew oq hz1
              refine lv_lload hx hb dX10_multiply_172 (lv_at hl 0 rfl) ?_
              refine pw_bipush hx hb dX10_multiply_174 ?_
              refine lv_lshr hx hb dX10_multiply_176 rfl ?_
              refine pw_eql ((((bd (u.natAbs % 268435456 ^ i * v.natAbs) (i + j) + cm (u.natAbs % 268435456 ^ i * v.natAbs) (bd u.natAbs i) i v.natAbs j + bd u.natAbs i * bd v.natAbs j) / 268435456 : Nat) : Int)) (j_lshr (by omega)) ?_
              refine pw_asl (((cm (u.natAbs % 268435456 ^ i * v.natAbs) (bd u.natAbs i) i v.natAbs (j + 1) : Nat) : Int)) (by rw [cm_next]) ?_
              refine lv_lstore (lv' := [(6, .long (lI (((cm (u.natAbs % 268435456 ^ i * v.natAbs) (bd u.natAbs i) i v.natAbs (j + 1) : Nat) : Int)))), (11, .long (lI (((bd (u.natAbs % 268435456 ^ i * v.natAbs) (i + j) + cm (u.natAbs % 268435456 ^ i * v.natAbs) (bd u.natAbs i) i v.natAbs j + bd u.natAbs i * bd v.natAbs j : Nat) : Int)))), (0, .ref (r0)), (1, .int (iI ((a : Int)))), (2, .int (iI ((b : Int)))), (3, .int (iI ((c0 : Int)))), (4, .int (iI (((n + m0 : Nat) : Int)))), (5, .int (iI ((i : Int)))), (8, .long (lI ((bd u.natAbs i : Int)))), (10, .int (iI ((j : Int))))]) hx hb dX10_multiply_177 hl (by decide) rfl (fun ls hl => ?_)
              refine lv_iinc (v := iI (((j + 1 : Nat) : Int))) (lv' := [(10, .int (iI (((j + 1 : Nat) : Int)))), (6, .long (lI (((cm (u.natAbs % 268435456 ^ i * v.natAbs) (bd u.natAbs i) i v.natAbs (j + 1) : Nat) : Int)))), (11, .long (lI (((bd (u.natAbs % 268435456 ^ i * v.natAbs) (i + j) + cm (u.natAbs % 268435456 ^ i * v.natAbs) (bd u.natAbs i) i v.natAbs j + bd u.natAbs i * bd v.natAbs j : Nat) : Int)))), (0, .ref (r0)), (1, .int (iI ((a : Int)))), (2, .int (iI ((b : Int)))), (3, .int (iI ((c0 : Int)))), (4, .int (iI (((n + m0 : Nat) : Int)))), (5, .int (iI ((i : Int)))), (8, .long (lI ((bd u.natAbs i : Int))))]) hx hb dX10_multiply_179 hl (k := 9) rfl (by show iI _ + iI _ = _; exact (iI_add _ _).trans (by first | rfl | (congr 1; omega))) (by decide) rfl (fun ls hl => ?_)
              refine lv_goto (tgt := 79) hx hb dX10_multiply_182 (by decide) ?_
              exact ih2 (j + 1) _ _ _ _ (by omega) (hD.up rfl) (fun k h1 h2 => by rw [ud_n _ _ (by omega)]; exact hup k (by omega) h2) (ud_o (by omega) hof) hO hf hg hh hS (lv_sub hl [3, 4, 5, 6, 7, 8, 1, 9, 0] rfl)
          · refine lv_lload hx hb dX10_multiply_90 (lv_at hl 6 rfl) ?_
            refine pw_lconst (z := 0) hx hb dX10_multiply_92 ?_
            refine pw_lcmp_le (tgt := 185) hx hb dX10_multiply_93 dX10_multiply_94 (by decide) (fun c_93 => ?_) (fun c_93 => ?_)
            · have hc0 : cm (u.natAbs % 268435456 ^ i * v.natAbs) (bd u.natAbs i) i v.natAbs j = 0 := by omega
              refine lv_iinc (v := iI (((i + 1 : Nat) : Int))) (lv' := [(5, .int (iI (((i + 1 : Nat) : Int)))), (0, .ref (r0)), (1, .int (iI ((a : Int)))), (2, .int (iI ((b : Int)))), (3, .int (iI ((c0 : Int)))), (4, .int (iI (((n + m0 : Nat) : Int)))), (6, .long (lI (((cm (u.natAbs % 268435456 ^ i * v.natAbs) (bd u.natAbs i) i v.natAbs j : Nat) : Int)))), (8, .long (lI ((bd u.natAbs i : Int)))), (10, .int (iI ((j : Int))))]) hx hb dX10_multiply_185 hl (k := 5) rfl (by show iI _ + iI _ = _; exact (iI_add _ _).trans (by first | rfl | (congr 1; omega))) (by decide) rfl (fun ls hl => ?_)
              refine lv_goto (tgt := 47) hx hb dX10_multiply_188 (by decide) ?_
              have hD2 : DG f1 c0 (u.natAbs % 268435456 ^ (i + 1) * v.natAbs) (n + m0) := fun k hk => by
                rw [hQe]
                by_cases e : k < i + j
                · exact hD k e
                · rw [hup k (by omega) hk, cm_end (Nat.lt_of_lt_of_le hym (rb_mono (by omega))) hc0 k (by omega)]
              exact ih (i + 1) f1 _ _ _ (by omega) hD2 hof hO hf hg hh hS (lv_sub hl [1, 2, 3, 4, 5, 0] rfl)
            · have hij : i + j < n + m0 := cm_more hQ (by omega)
              refine lv_aload_n hx hb dX10_multiply_97 rfl (lv_at hl 0 rfl) ?_
              refine pw_get (C := RX10) (T := TX10) (N := 20) hx hb hts hin10 hown hK hO rfl 13 (by decide) lk_38 rfl rfl dX10_multiply_98 ?_
              refine pw_bipush hx hb dX10_multiply_101 ?_
              refine lv_iload_n hx hb dX10_multiply_103 rfl (lv_at hl 3 rfl) ?_
              refine pw_imul hx hb dX10_multiply_104 ?_
              refine lv_iload hx hb dX10_multiply_105 (lv_at hl 5 rfl) ?_
              refine pw_iadd hx hb dX10_multiply_107 ?_
              refine lv_iload hx hb dX10_multiply_108 (lv_at hl 8 rfl) ?_
              refine pw_iadd hx hb dX10_multiply_110 ?_
              refine pw_iald hx hb hK hf (64 * c0 + (i + j)) (by omega) (by omega) (by omega) dX10_multiply_111 ?_
              refine pw_asi ((bd (u.natAbs % 268435456 ^ i * v.natAbs) (i + j) : Int)) (hup _ (Nat.le_refl _) hij) ?_
              refine pw_i2l hx hb dX10_multiply_112 ?_
              refine lv_lload hx hb dX10_multiply_113 (lv_at hl 6 rfl) ?_
              refine pw_ladd hx hb dX10_multiply_115 ?_
              refine lv_iload hx hb dX10_multiply_116 (lv_at hl 8 rfl) ?_
              refine lv_aload_n hx hb dX10_multiply_118 rfl (lv_at hl 0 rfl) ?_
              refine pw_get (C := RX10) (T := TX10) (N := 20) hx hb hts hin10 hown hK hO rfl 14 (by decide) lk_41 rfl rfl dX10_multiply_119 ?_
              refine lv_iload_n hx hb dX10_multiply_122 rfl (lv_at hl 2 rfl) ?_
              refine pw_iald hx hb hK hg (b) rfl (by omega) (by omega) dX10_multiply_123 ?_
              refine pw_asi ((m0 : Int)) hgb ?_
              refine pw_icmp_ge (tgt := 146) hx hb dX10_multiply_124 (by decide) (fun c_124 => ?_) (fun c_124 => ?_)
              · refine pw_lconst (z := 0) hx hb dX10_multiply_146 ?_
                refine pw_asl (((bd u.natAbs i * bd v.natAbs j : Nat) : Int)) (by rw [bd_0 (Nat.lt_of_lt_of_le hym (rb_mono (by omega))), Nat.mul_zero]; rfl) ?_
                refine pw_ladd hx hb dX10_multiply_147 ?_
                refine pw_asl (((bd (u.natAbs % 268435456 ^ i * v.natAbs) (i + j) + cm (u.natAbs % 268435456 ^ i * v.natAbs) (bd u.natAbs i) i v.natAbs j + bd u.natAbs i * bd v.natAbs j : Nat) : Int)) (by rw [Int.natCast_add, Int.natCast_add]) ?_
                refine lv_lstore (lv' := [(11, .long (lI (((bd (u.natAbs % 268435456 ^ i * v.natAbs) (i + j) + cm (u.natAbs % 268435456 ^ i * v.natAbs) (bd u.natAbs i) i v.natAbs j + bd u.natAbs i * bd v.natAbs j : Nat) : Int)))), (0, .ref (r0)), (1, .int (iI ((a : Int)))), (2, .int (iI ((b : Int)))), (3, .int (iI ((c0 : Int)))), (4, .int (iI (((n + m0 : Nat) : Int)))), (5, .int (iI ((i : Int)))), (6, .long (lI (((cm (u.natAbs % 268435456 ^ i * v.natAbs) (bd u.natAbs i) i v.natAbs j : Nat) : Int)))), (8, .long (lI ((bd u.natAbs i : Int)))), (10, .int (iI ((j : Int))))]) hx hb dX10_multiply_148 hl (by decide) rfl (fun ls hl => ?_)
                refine lv_aload_n hx hb dX10_multiply_150 rfl (lv_at hl 1 rfl) ?_
                refine pw_get (C := RX10) (T := TX10) (N := 20) hx hb hts hin10 hown hK hO rfl 13 (by decide) lk_38 rfl rfl dX10_multiply_151 ?_
                refine pw_bipush hx hb dX10_multiply_154 ?_
                refine lv_iload_n hx hb dX10_multiply_156 rfl (lv_at hl 4 rfl) ?_
                refine pw_imul hx hb dX10_multiply_157 ?_
                refine lv_iload hx hb dX10_multiply_158 (lv_at hl 6 rfl) ?_
                refine pw_iadd hx hb dX10_multiply_160 ?_
                refine lv_iload hx hb dX10_multiply_161 (lv_at hl 9 rfl) ?_
                refine pw_iadd hx hb dX10_multiply_163 ?_
                refine lv_lload hx hb dX10_multiply_164 (lv_at hl 0 rfl) ?_
                refine pw_ldc2 (z := 268435455) hx hb hown kc_59 (by decide +kernel) dX10_multiply_166 ?_
                refine lv_land hx hb dX10_multiply_169 ?_
                refine pw_eql ((((bd (u.natAbs % 268435456 ^ i * v.natAbs) (i + j) + cm (u.natAbs % 268435456 ^ i * v.natAbs) (bd u.natAbs i) i v.natAbs j + bd u.natAbs i * bd v.natAbs j) % 268435456 : Nat) : Int)) (j_land _) ?_
                refine pw_asl ((bd ((u.natAbs % 268435456 ^ i * v.natAbs) + bd u.natAbs i * (268435456 ^ i * v.natAbs)) (i + j) : Int)) (by rw [cm_dig]) ?_
                refine pw_l2i hx hb dX10_multiply_170 ?_
                refine pw_iast hx hb hK hf hS (Or.inl rfl) (64 * c0 + (i + j)) (by omega) (by omega) (by omega) dX10_multiply_171 (fun H1 locs1 hnew hz1 oq hS => ?_)
                have hO := hO.k (oq _ (by omega))
                have hg := hg.k (oq _ (by omega))
                have hh := hh.k (oq _ (by omega))
                have hf := hnew
                clear hnew oq hz1
                refine lv_lload hx hb dX10_multiply_172 (lv_at hl 0 rfl) ?_
                refine pw_bipush hx hb dX10_multiply_174 ?_
                refine lv_lshr hx hb dX10_multiply_176 rfl ?_
                refine pw_eql ((((bd (u.natAbs % 268435456 ^ i * v.natAbs) (i + j) + cm (u.natAbs % 268435456 ^ i * v.natAbs) (bd u.natAbs i) i v.natAbs j + bd u.natAbs i * bd v.natAbs j) / 268435456 : Nat) : Int)) (j_lshr (by omega)) ?_
                refine pw_asl (((cm (u.natAbs % 268435456 ^ i * v.natAbs) (bd u.natAbs i) i v.natAbs (j + 1) : Nat) : Int)) (by rw [cm_next]) ?_
                refine lv_lstore (lv' := [(6, .long (lI (((cm (u.natAbs % 268435456 ^ i * v.natAbs) (bd u.natAbs i) i v.natAbs (j + 1) : Nat) : Int)))), (11, .long (lI (((bd (u.natAbs % 268435456 ^ i * v.natAbs) (i + j) + cm (u.natAbs % 268435456 ^ i * v.natAbs) (bd u.natAbs i) i v.natAbs j + bd u.natAbs i * bd v.natAbs j : Nat) : Int)))), (0, .ref (r0)), (1, .int (iI ((a : Int)))), (2, .int (iI ((b : Int)))), (3, .int (iI ((c0 : Int)))), (4, .int (iI (((n + m0 : Nat) : Int)))), (5, .int (iI ((i : Int)))), (8, .long (lI ((bd u.natAbs i : Int)))), (10, .int (iI ((j : Int))))]) hx hb dX10_multiply_177 hl (by decide) rfl (fun ls hl => ?_)
                refine lv_iinc (v := iI (((j + 1 : Nat) : Int))) (lv' := [(10, .int (iI (((j + 1 : Nat) : Int)))), (6, .long (lI (((cm (u.natAbs % 268435456 ^ i * v.natAbs) (bd u.natAbs i) i v.natAbs (j + 1) : Nat) : Int)))), (11, .long (lI (((bd (u.natAbs % 268435456 ^ i * v.natAbs) (i + j) + cm (u.natAbs % 268435456 ^ i * v.natAbs) (bd u.natAbs i) i v.natAbs j + bd u.natAbs i * bd v.natAbs j : Nat) : Int)))), (0, .ref (r0)), (1, .int (iI ((a : Int)))), (2, .int (iI ((b : Int)))), (3, .int (iI ((c0 : Int)))), (4, .int (iI (((n + m0 : Nat) : Int)))), (5, .int (iI ((i : Int)))), (8, .long (lI ((bd u.natAbs i : Int))))]) hx hb dX10_multiply_179 hl (k := 9) rfl (by show iI _ + iI _ = _; exact (iI_add _ _).trans (by first | rfl | (congr 1; omega))) (by decide) rfl (fun ls hl => ?_)
                refine lv_goto (tgt := 79) hx hb dX10_multiply_182 (by decide) ?_
                exact ih2 (j + 1) _ _ _ _ (by omega) (hD.up rfl) (fun k h1 h2 => by rw [ud_n _ _ (by omega)]; exact hup k (by omega) h2) (ud_o (by omega) hof) hO hf hg hh hS (lv_sub hl [3, 4, 5, 6, 7, 8, 1, 9, 0] rfl)
              · refine lv_lload hx hb dX10_multiply_127 (lv_at hl 7 rfl) ?_
                refine lv_aload_n hx hb dX10_multiply_129 rfl (lv_at hl 0 rfl) ?_
                refine pw_get (C := RX10) (T := TX10) (N := 20) hx hb hts hin10 hown hK hO rfl 13 (by decide) lk_38 rfl rfl dX10_multiply_130 ?_
                refine pw_bipush hx hb dX10_multiply_133 ?_
                refine lv_iload_n hx hb dX10_multiply_135 rfl (lv_at hl 2 rfl) ?_
                refine pw_imul hx hb dX10_multiply_136 ?_
                refine lv_iload hx hb dX10_multiply_137 (lv_at hl 8 rfl) ?_
                refine pw_iadd hx hb dX10_multiply_139 ?_
                refine pw_iald hx hb hK hf (((64) * ((b))) + ((j))) (by omega) (by omega) (by omega) dX10_multiply_140 ?_
                refine pw_asi ((bd v.natAbs j : Int)) ((hof _ (by omega)).trans (hDb j (by omega))) ?_
                refine pw_i2l hx hb dX10_multiply_141 ?_
                refine pw_lmul hx hb dX10_multiply_142 ?_
                refine pw_asl (((bd u.natAbs i * bd v.natAbs j : Nat) : Int)) (by rw [Int.natCast_mul]) ?_
                refine lv_goto (tgt := 147) hx hb dX10_multiply_143 (by decide) ?_
                refine pw_ladd hx hb dX10_multiply_147 ?_
                refine pw_asl (((bd (u.natAbs % 268435456 ^ i * v.natAbs) (i + j) + cm (u.natAbs % 268435456 ^ i * v.natAbs) (bd u.natAbs i) i v.natAbs j + bd u.natAbs i * bd v.natAbs j : Nat) : Int)) (by rw [Int.natCast_add, Int.natCast_add]) ?_
                refine lv_lstore (lv' := [(11, .long (lI (((bd (u.natAbs % 268435456 ^ i * v.natAbs) (i + j) + cm (u.natAbs % 268435456 ^ i * v.natAbs) (bd u.natAbs i) i v.natAbs j + bd u.natAbs i * bd v.natAbs j : Nat) : Int)))), (0, .ref (r0)), (1, .int (iI ((a : Int)))), (2, .int (iI ((b : Int)))), (3, .int (iI ((c0 : Int)))), (4, .int (iI (((n + m0 : Nat) : Int)))), (5, .int (iI ((i : Int)))), (6, .long (lI (((cm (u.natAbs % 268435456 ^ i * v.natAbs) (bd u.natAbs i) i v.natAbs j : Nat) : Int)))), (8, .long (lI ((bd u.natAbs i : Int)))), (10, .int (iI ((j : Int))))]) hx hb dX10_multiply_148 hl (by decide) rfl (fun ls hl => ?_)
                refine lv_aload_n hx hb dX10_multiply_150 rfl (lv_at hl 1 rfl) ?_
                refine pw_get (C := RX10) (T := TX10) (N := 20) hx hb hts hin10 hown hK hO rfl 13 (by decide) lk_38 rfl rfl dX10_multiply_151 ?_
                refine pw_bipush hx hb dX10_multiply_154 ?_
                refine lv_iload_n hx hb dX10_multiply_156 rfl (lv_at hl 4 rfl) ?_
                refine pw_imul hx hb dX10_multiply_157 ?_
                refine lv_iload hx hb dX10_multiply_158 (lv_at hl 6 rfl) ?_
                refine pw_iadd hx hb dX10_multiply_160 ?_
                refine lv_iload hx hb dX10_multiply_161 (lv_at hl 9 rfl) ?_
                refine pw_iadd hx hb dX10_multiply_163 ?_
                refine lv_lload hx hb dX10_multiply_164 (lv_at hl 0 rfl) ?_
                refine pw_ldc2 (z := 268435455) hx hb hown kc_59 (by decide +kernel) dX10_multiply_166 ?_
                refine lv_land hx hb dX10_multiply_169 ?_
                refine pw_eql ((((bd (u.natAbs % 268435456 ^ i * v.natAbs) (i + j) + cm (u.natAbs % 268435456 ^ i * v.natAbs) (bd u.natAbs i) i v.natAbs j + bd u.natAbs i * bd v.natAbs j) % 268435456 : Nat) : Int)) (j_land _) ?_
                refine pw_asl ((bd ((u.natAbs % 268435456 ^ i * v.natAbs) + bd u.natAbs i * (268435456 ^ i * v.natAbs)) (i + j) : Int)) (by rw [cm_dig]) ?_
                refine pw_l2i hx hb dX10_multiply_170 ?_
                refine pw_iast hx hb hK hf hS (Or.inl rfl) (64 * c0 + (i + j)) (by omega) (by omega) (by omega) dX10_multiply_171 (fun H1 locs1 hnew hz1 oq hS => ?_)
                have hO := hO.k (oq _ (by omega))
                have hg := hg.k (oq _ (by omega))
                have hh := hh.k (oq _ (by omega))
                have hf := hnew
                clear hnew oq hz1
                refine lv_lload hx hb dX10_multiply_172 (lv_at hl 0 rfl) ?_
                refine pw_bipush hx hb dX10_multiply_174 ?_
                refine lv_lshr hx hb dX10_multiply_176 rfl ?_
                refine pw_eql ((((bd (u.natAbs % 268435456 ^ i * v.natAbs) (i + j) + cm (u.natAbs % 268435456 ^ i * v.natAbs) (bd u.natAbs i) i v.natAbs j + bd u.natAbs i * bd v.natAbs j) / 268435456 : Nat) : Int)) (j_lshr (by omega)) ?_
                refine pw_asl (((cm (u.natAbs % 268435456 ^ i * v.natAbs) (bd u.natAbs i) i v.natAbs (j + 1) : Nat) : Int)) (by rw [cm_next]) ?_
                refine lv_lstore (lv' := [(6, .long (lI (((cm (u.natAbs % 268435456 ^ i * v.natAbs) (bd u.natAbs i) i v.natAbs (j + 1) : Nat) : Int)))), (11, .long (lI (((bd (u.natAbs % 268435456 ^ i * v.natAbs) (i + j) + cm (u.natAbs % 268435456 ^ i * v.natAbs) (bd u.natAbs i) i v.natAbs j + bd u.natAbs i * bd v.natAbs j : Nat) : Int)))), (0, .ref (r0)), (1, .int (iI ((a : Int)))), (2, .int (iI ((b : Int)))), (3, .int (iI ((c0 : Int)))), (4, .int (iI (((n + m0 : Nat) : Int)))), (5, .int (iI ((i : Int)))), (8, .long (lI ((bd u.natAbs i : Int)))), (10, .int (iI ((j : Int))))]) hx hb dX10_multiply_177 hl (by decide) rfl (fun ls hl => ?_)
                refine lv_iinc (v := iI (((j + 1 : Nat) : Int))) (lv' := [(10, .int (iI (((j + 1 : Nat) : Int)))), (6, .long (lI (((cm (u.natAbs % 268435456 ^ i * v.natAbs) (bd u.natAbs i) i v.natAbs (j + 1) : Nat) : Int)))), (11, .long (lI (((bd (u.natAbs % 268435456 ^ i * v.natAbs) (i + j) + cm (u.natAbs % 268435456 ^ i * v.natAbs) (bd u.natAbs i) i v.natAbs j + bd u.natAbs i * bd v.natAbs j : Nat) : Int)))), (0, .ref (r0)), (1, .int (iI ((a : Int)))), (2, .int (iI ((b : Int)))), (3, .int (iI ((c0 : Int)))), (4, .int (iI (((n + m0 : Nat) : Int)))), (5, .int (iI ((i : Int)))), (8, .long (lI ((bd u.natAbs i : Int))))]) hx hb dX10_multiply_179 hl (k := 9) rfl (by show iI _ + iI _ = _; exact (iI_add _ _).trans (by first | rfl | (congr 1; omega))) (by decide) rfl (fun ls hl => ?_)
                refine lv_goto (tgt := 79) hx hb dX10_multiply_182 (by decide) ?_
                exact ih2 (j + 1) _ _ _ _ (by omega) (hD.up rfl) (fun k h1 h2 => by rw [ud_n _ _ (by omega)]; exact hup k (by omega) h2) (ud_o (by omega) hof) hO hf hg hh hS (lv_sub hl [3, 4, 5, 6, 7, 8, 1, 9, 0] rfl)
      refine lv_iload hx hb dX10_multiply_47 (lv_at hl 5 rfl) ?_
      refine lv_aload_n hx hb dX10_multiply_49 rfl (lv_at hl 0 rfl) ?_
      refine pw_get (C := RX10) (T := TX10) (N := 20) hx hb hts hin10 hown hK hO rfl 14 (by decide) lk_41 rfl rfl dX10_multiply_50 ?_
      refine lv_iload_n hx hb dX10_multiply_53 rfl (lv_at hl 1 rfl) ?_
      refine pw_iald hx hb hK hg (a) rfl (by omega) (by omega) dX10_multiply_54 ?_
      refine pw_asi ((n : Int)) hga ?_
      refine pw_icmp_ge (tgt := 191) hx hb dX10_multiply_55 (by decide) (fun c_55 => absurd c_55 (by omega)) (fun c_55 => ?_)
      refine pw_lconst (z := 0) hx hb dX10_multiply_58 ?_
      refine pw_asl (((cm (u.natAbs % 268435456 ^ i * v.natAbs) (bd u.natAbs i) i v.natAbs 0 : Nat) : Int)) (by rw [cm_0]; rfl) ?_
      refine lv_lstore (lv' := [(6, .long (lI (((cm (u.natAbs % 268435456 ^ i * v.natAbs) (bd u.natAbs i) i v.natAbs 0 : Nat) : Int)))), (0, .ref (r0)), (1, .int (iI ((a : Int)))), (2, .int (iI ((b : Int)))), (3, .int (iI ((c0 : Int)))), (4, .int (iI (((n + m0 : Nat) : Int)))), (5, .int (iI ((i : Int))))]) hx hb dX10_multiply_59 hl (by decide) rfl (fun ls hl => ?_)
      refine lv_aload_n hx hb dX10_multiply_61 rfl (lv_at hl 1 rfl) ?_
      refine pw_get (C := RX10) (T := TX10) (N := 20) hx hb hts hin10 hown hK hO rfl 13 (by decide) lk_38 rfl rfl dX10_multiply_62 ?_
      refine pw_bipush hx hb dX10_multiply_65 ?_
      refine lv_iload_n hx hb dX10_multiply_67 rfl (lv_at hl 2 rfl) ?_
      refine pw_imul hx hb dX10_multiply_68 ?_
      refine lv_iload hx hb dX10_multiply_69 (lv_at hl 6 rfl) ?_
      refine pw_iadd hx hb dX10_multiply_71 ?_
      refine pw_iald hx hb hK hf (((64) * ((a))) + ((i))) (by omega) (by omega) (by omega) dX10_multiply_72 ?_
      refine pw_asi ((bd u.natAbs i : Int)) ((hof _ (by omega)).trans (hDa i (by omega))) ?_
      refine pw_i2l hx hb dX10_multiply_73 ?_
      refine lv_lstore (lv' := [(8, .long (lI ((bd u.natAbs i : Int)))), (6, .long (lI (((cm (u.natAbs % 268435456 ^ i * v.natAbs) (bd u.natAbs i) i v.natAbs 0 : Nat) : Int)))), (0, .ref (r0)), (1, .int (iI ((a : Int)))), (2, .int (iI ((b : Int)))), (3, .int (iI ((c0 : Int)))), (4, .int (iI (((n + m0 : Nat) : Int)))), (5, .int (iI ((i : Int))))]) hx hb dX10_multiply_74 hl (by decide) rfl (fun ls hl => ?_)
      refine pw_iconst hx hb dX10_multiply_76 ?_
      refine lv_istore (lv' := [(10, .int (iI (0))), (8, .long (lI ((bd u.natAbs i : Int)))), (6, .long (lI (((cm (u.natAbs % 268435456 ^ i * v.natAbs) (bd u.natAbs i) i v.natAbs 0 : Nat) : Int)))), (0, .ref (r0)), (1, .int (iI ((a : Int)))), (2, .int (iI ((b : Int)))), (3, .int (iI ((c0 : Int)))), (4, .int (iI (((n + m0 : Nat) : Int)))), (5, .int (iI ((i : Int))))]) hx hb dX10_multiply_77 hl (by decide) rfl (fun ls hl => ?_)
      exact loopJ (n + m0 - i) 0 f1 _ _ _ (by omega) (fun k hk => by rw [hD k (by omega), bd_low (by omega)]) (fun k _ hk => hD k hk) hof hO hf hg hh hS (lv_sub hl [3, 4, 5, 6, 7, 8, 2, 1, 0] rfl)
  have loop0 : ∀ (kk k : Nat) (f1 : Nat → Int) (H : Heap) (locs : List Loc) (ls : Array Slot), k + kk = n + m0 → DG f1 c0 0 k → (∀ q, q < 64 * c0 ∨ 64 * c0 + 64 ≤ q → f1 q = f q) → RO D r0 o H → IA E (r0 + 8) 5120 f1 H → IA E (r0 + 9) 80 g H → IA E (r0 + 10) 80 h H → va_S (fun q => q = r0 + 8 ∨ q = r0 + 9 ∨ q = r0 + 10) s.heap H locs → lv_has ls 13 [(0, .ref (r0)), (1, .int (iI ((a : Int)))), (2, .int (iI ((b : Int)))), (3, .int (iI ((c0 : Int)))), (4, .int (iI (((n + m0 : Nat) : Int)))), (5, .int (iI ((k : Int))))] → W p l e ({ frames := 1, cells := 0, slots := 0, locals := 23 } : Room) s m args below meth c H locs (0) (0) (MQ below (pw_Q rvV (fun _ H => NP E r0 c0 (u * v) f g h H) (fun q => q = r0 + 8 ∨ q = r0 + 9 ∨ q = r0 + 10)) args s (0) (0) (fun q => q = r0 + 8 ∨ q = r0 + 9 ∨ q = r0 + 10)) (F0 m 18 ls []) := by
    intro kk
    induction kk with
    | zero =>
      intro k f1 H locs ls hk hD hof hO hf hg hh hS hl
      have ek : k = n + m0 := by omega
      rw [ek] at hD
      refine lv_iload hx hb dX10_multiply_18 (lv_at hl 5 rfl) ?_
      refine lv_iload hx hb dX10_multiply_20 (lv_at hl 4 rfl) ?_
      refine pw_icmp_ge (tgt := 44) hx hb dX10_multiply_22 (by decide) (fun c_22 => ?_) (fun c_22 => absurd c_22 (by omega))
      refine pw_iconst hx hb dX10_multiply_44 ?_
      refine lv_istore (lv' := [(5, .int (iI (0))), (0, .ref (r0)), (1, .int (iI ((a : Int)))), (2, .int (iI ((b : Int)))), (3, .int (iI ((c0 : Int)))), (4, .int (iI (((n + m0 : Nat) : Int))))]) hx hb dX10_multiply_45 hl (by decide) rfl (fun ls hl => ?_)
      exact loopI n 0 f1 _ _ _ (by omega) (by rw [Nat.pow_zero, Nat.mod_one, Nat.zero_mul]; exact hD) hof hO hf hg hh hS (lv_sub hl [1, 2, 3, 4, 5, 0] rfl)
    | succ kk ih =>
      intro k f1 H locs ls hk hD hof hO hf hg hh hS hl
      refine lv_iload hx hb dX10_multiply_18 (lv_at hl 5 rfl) ?_
      refine lv_iload hx hb dX10_multiply_20 (lv_at hl 4 rfl) ?_
      refine pw_icmp_ge (tgt := 44) hx hb dX10_multiply_22 (by decide) (fun c_22 => absurd c_22 (by omega)) (fun c_22 => ?_)
      refine lv_aload_n hx hb dX10_multiply_25 rfl (lv_at hl 0 rfl) ?_
      refine pw_get (C := RX10) (T := TX10) (N := 20) hx hb hts hin10 hown hK hO rfl 13 (by decide) lk_38 rfl rfl dX10_multiply_26 ?_
      refine pw_bipush hx hb dX10_multiply_29 ?_
      refine lv_iload_n hx hb dX10_multiply_31 rfl (lv_at hl 3 rfl) ?_
      refine pw_imul hx hb dX10_multiply_32 ?_
      refine lv_iload hx hb dX10_multiply_33 (lv_at hl 5 rfl) ?_
      refine pw_iadd hx hb dX10_multiply_35 ?_
      refine pw_iconst hx hb dX10_multiply_36 ?_
      refine pw_iast hx hb hK hf hS (Or.inl rfl) (((64) * ((c0))) + ((k))) (by omega) (by omega) (by omega) dX10_multiply_37 (fun H1 locs1 hnew hz1 oq hS => ?_)
      have hO := hO.k (oq _ (by omega))
      have hg := hg.k (oq _ (by omega))
      have hh := hh.k (oq _ (by omega))
      have hf := hnew
      clear hnew oq hz1
      refine lv_iinc (v := iI (((k + 1 : Nat) : Int))) (lv' := [(5, .int (iI (((k + 1 : Nat) : Int)))), (0, .ref (r0)), (1, .int (iI ((a : Int)))), (2, .int (iI ((b : Int)))), (3, .int (iI ((c0 : Int)))), (4, .int (iI (((n + m0 : Nat) : Int))))]) hx hb dX10_multiply_38 hl (k := 5) rfl (by show iI _ + iI _ = _; exact (iI_add _ _).trans (by first | rfl | (congr 1; omega))) (by decide) rfl (fun ls hl => ?_)
      refine lv_goto (tgt := 18) hx hb dX10_multiply_41 (by decide) ?_
      exact ih (k + 1) _ _ _ _ (by omega) (hD.up (by rw [bd_z]; rfl)) (ud_o (by omega) hof) hO hf hg hh hS (lv_sub hl [1, 2, 3, 4, 5, 0] rfl)
  refine lv_aload_n hx hb dX10_multiply_0 rfl (lv_at hl 0 rfl) ?_
  refine pw_get (C := RX10) (T := TX10) (N := 20) hx hb hts hin10 hown hK hO rfl 14 (by decide) lk_41 rfl rfl dX10_multiply_1 ?_
  refine lv_iload_n hx hb dX10_multiply_4 rfl (lv_at hl 1 rfl) ?_
  refine pw_iald hx hb hK hg (a) rfl (by omega) (by omega) dX10_multiply_5 ?_
  refine pw_asi ((n : Int)) hga ?_
  refine lv_aload_n hx hb dX10_multiply_6 rfl (lv_at hl 0 rfl) ?_
  refine pw_get (C := RX10) (T := TX10) (N := 20) hx hb hts hin10 hown hK hO rfl 14 (by decide) lk_41 rfl rfl dX10_multiply_7 ?_
  refine lv_iload_n hx hb dX10_multiply_10 rfl (lv_at hl 2 rfl) ?_
  refine pw_iald hx hb hK hg (b) rfl (by omega) (by omega) dX10_multiply_11 ?_
  refine pw_asi ((m0 : Int)) hgb ?_
  refine pw_iadd hx hb dX10_multiply_12 ?_
  refine pw_asi (((n + m0 : Nat) : Int)) (by omega) ?_
  refine lv_istore (lv' := [(4, .int (iI (((n + m0 : Nat) : Int)))), (0, .ref (r0)), (1, .int (iI ((a : Int)))), (2, .int (iI ((b : Int)))), (3, .int (iI ((c0 : Int))))]) hx hb dX10_multiply_13 hl (by decide) rfl (fun ls hl => ?_)
  refine pw_iconst hx hb dX10_multiply_15 ?_
  refine lv_istore (lv' := [(5, .int (iI (0))), (4, .int (iI (((n + m0 : Nat) : Int)))), (0, .ref (r0)), (1, .int (iI ((a : Int)))), (2, .int (iI ((b : Int)))), (3, .int (iI ((c0 : Int))))]) hx hb dX10_multiply_16 hl (by decide) rfl (fun ls hl => ?_)
  exact loop0 (n + m0) 0 f _ _ _ (by omega) (fun k hk => by omega) (fun _ _ => rfl) hO hf hg hh hS (lv_sub hl [2, 3, 4, 5, 1, 0] rfl)
set_option maxHeartbeats 4000000 in
set_option maxRecDepth 100000 in
/-- overSmall(a, d) -/
theorem r_overSmall (l : Launch) (D : va_G) (E : Nat → ClassId) (r0 : Nat) (o f g h : Nat → Int) (a x d : Nat) (ha : a < 80) (hd : 0 < d) (hd2 : d ≤ 1000000000) (hN : Num f g h a (x : Int)) : pw_M rvI l D E yX10_overSmall wsX10_overSmall ({ frames := 1, cells := 0, slots := 0, locals := 23 } : Room) [.ref (r0), .int (iI ((a : Int))), .int (iI ((d : Int)))] (fun H => RO D r0 o H ∧ NA E r0 f g h H) (fun z H => z = ((x % d : Nat) : Int) ∧ NP E r0 a ((x / d : Nat) : Int) f g h H) (fun q => q = r0 + 8 ∨ q = r0 + 9 ∨ q = r0 + 10) (0) (0) := by
  refine pw_of (cc := cX10_overSmall) (maxL := 8) (ret := (some .int)) (by decide +kernel) rfl (Nat.le_of_ble_eq_true rfl) ?_
  intro p e s m args below meth c hx hb hr hml hts hown hlocks hini hK ⟨hO, hf, hg, hh⟩ ls hl
  have hown : s.vm.findClass RX10 = some m.cls := hown
  have hl : lv_has ls 8 [(0, .ref (r0)), (1, .int (iI ((a : Int)))), (2, .int (iI ((d : Int))))] := hl
  have hS : va_S (fun q => q = r0 + 8 ∨ q = r0 + 9 ∨ q = r0 + 10) s.heap s.heap [] := va_S.rf
  have lk_38 := hts (.fieldLink RX10 38 "PolicyWorksModel" "limbs" "[I") (by decide +kernel)
  have lk_41 := hts (.fieldLink RX10 41 "PolicyWorksModel" "lengths" "[I") (by decide +kernel)
  have kc_74 := hts (.constantLong RX10 74 (268435456)) (by decide +kernel)
  have hin10 : ∀ w ∈ wsX100, w ∈ wsX10_overSmall := by decide +kernel
  obtain ⟨n, hrk, hga, hDa, hsa⟩ := hN
  have hn := hrk.1
  have hxn : x < 268435456 ^ n := hrk.2.1
  have hDa : DG f a x n := hDa
  have loop : ∀ (k : Nat) (f1 : Nat → Int) (H : Heap) (locs : List Loc) (ls : Array Slot), k ≤ n → (∀ j, j < k → f1 (64 * a + j) = (bd x j : Int)) → (∀ j, k ≤ j → j < n → f1 (64 * a + j) = (bd (x / d) j : Int)) → (∀ q, q < 64 * a ∨ 64 * a + 64 ≤ q → f1 q = f q) → RO D r0 o H → IA E (r0 + 8) 5120 f1 H → IA E (r0 + 9) 80 g H → IA E (r0 + 10) 80 h H → va_S (fun q => q = r0 + 8 ∨ q = r0 + 9 ∨ q = r0 + 10) s.heap H locs → lv_has ls 8 [(0, .ref (r0)), (1, .int (iI ((a : Int)))), (2, .int (iI ((d : Int)))), (3, .long (lI (((dm x (k) d : Nat) : Int)))), (5, .int (iI (((k : Nat) : Int) - 1)))] → W p l e ({ frames := 1, cells := 0, slots := 0, locals := 23 } : Room) s m args below meth c H locs (0) (0) (MQ below (pw_Q rvI (fun z H => z = ((x % d : Nat) : Int) ∧ NP E r0 a ((x / d : Nat) : Int) f g h H) (fun q => q = r0 + 8 ∨ q = r0 + 9 ∨ q = r0 + 10)) args s (0) (0) (fun q => q = r0 + 8 ∨ q = r0 + 9 ∨ q = r0 + 10)) (F0 m 12 ls []) := by
    intro k
    induction k with
    | zero =>
      intro f1 H locs ls hk hlo hup hof hO hf hg hh hS hl
      have hr0 := Nat.mod_lt x hd
      have hxd : x / d ≤ x := Nat.div_le_self _ _
      refine lv_iload hx hb dX10_overSmall_12 (lv_at hl 4 rfl) ?_
      refine pw_if_lt (tgt := 68) hx hb dX10_overSmall_14 (by decide) (fun c_14 => ?_) (fun c_14 => absurd c_14 (by omega))
      refine lv_aload_n hx hb dX10_overSmall_68 rfl (lv_at hl 0 rfl) ?_
      refine lv_iload_n hx hb dX10_overSmall_69 rfl (lv_at hl 1 rfl) ?_
      refine lv_aload_n hx hb dX10_overSmall_70 rfl (lv_at hl 0 rfl) ?_
      refine pw_get (C := RX10) (T := TX10) (N := 20) hx hb hts hin10 hown hK hO rfl 14 (by decide) lk_41 rfl rfl dX10_overSmall_71 ?_
      refine lv_iload_n hx hb dX10_overSmall_74 rfl (lv_at hl 1 rfl) ?_
      refine pw_iald hx hb hK hg (a) rfl (by omega) (by omega) dX10_overSmall_75 ?_
      refine pw_asi ((n : Int)) hga ?_
      refine pw_callVv (As := [.int (iI ((a : Int))), .int (iI ((n : Int)))]) (rest := []) ⟨hx, hb, hml, hown, hts⟩ (r_trim l D E r0 o f1 g h a (n) (x / d) (((x / d : Nat) : Int)) ha (by omega) (Nat.lt_of_le_of_lt hxd hxn) (fun k hk => hup k (by omega) hk) (Int.natAbs_natCast _) (fun h0 => hsa.trans (sgn_div h0))) (cwV 2 hts gX10_overSmall_X10_trim rfl rfl rfl (by decide +kernel) ⟨Nat.le_of_ble_eq_true rfl, Nat.le_of_ble_eq_true rfl⟩) hK hO rfl ⟨hO, hf, hg, hh⟩ rfl hl.1 rfl (Nat.le_of_ble_eq_true rfl) dX10_overSmall_76 ⟨Nat.zero_le _, Nat.zero_le _⟩ hS (fun q h => h) (fun H1 locs1 hNP hz1 hk1 hS => ?_)
      have hO := hO.k (hk1 _ hO.lt (by (try dsimp only); omega))
      refine lv_lload_n hx hb dX10_overSmall_79 rfl (lv_at hl 3 rfl) ?_
      refine pw_asl (((x % d : Nat) : Int)) (by unfold dm; rw [Nat.pow_zero, Nat.div_one]) ?_
      refine pw_l2i hx hb dX10_overSmall_80 ?_
      exact pw_iret hx hb hr hlocks hS ⟨rfl, hNP.tr ⟨hof, fun b hb => ⟨rfl, rfl⟩⟩⟩ dX10_overSmall_81
    | succ k ih =>
      intro f1 H locs ls hk hlo hup hof hO hf hg hh hS hl
      have hbk := bd_lt x k
      have hrr : dm x (k + 1) d < d := Nat.mod_lt _ hd
      have hos1 : (dm x (k + 1) d * 268435456 + bd x k) / d = bd (x / d) k := (os_step x hd k).1
      have hos2 : (dm x (k + 1) d * 268435456 + bd x k) % d = dm x k d := (os_step x hd k).2
      refine lv_iload hx hb dX10_overSmall_12 (lv_at hl 4 rfl) ?_
      refine pw_if_lt (tgt := 68) hx hb dX10_overSmall_14 (by decide) (fun c_14 => absurd c_14 (by omega)) (fun c_14 => ?_)
      refine lv_lload_n hx hb dX10_overSmall_17 rfl (lv_at hl 3 rfl) ?_
      refine pw_ldc2 (z := 268435456) hx hb hown kc_74 (by decide +kernel) dX10_overSmall_18 ?_
      refine pw_lmul hx hb dX10_overSmall_21 ?_
      refine lv_aload_n hx hb dX10_overSmall_22 rfl (lv_at hl 0 rfl) ?_
      refine pw_get (C := RX10) (T := TX10) (N := 20) hx hb hts hin10 hown hK hO rfl 13 (by decide) lk_38 rfl rfl dX10_overSmall_23 ?_
      refine pw_bipush hx hb dX10_overSmall_26 ?_
      refine lv_iload_n hx hb dX10_overSmall_28 rfl (lv_at hl 1 rfl) ?_
      refine pw_imul hx hb dX10_overSmall_29 ?_
      refine lv_iload hx hb dX10_overSmall_30 (lv_at hl 4 rfl) ?_
      refine pw_iadd hx hb dX10_overSmall_32 ?_
      refine pw_iald hx hb hK hf (64 * a + k) (by omega) (by omega) (by omega) dX10_overSmall_33 ?_
      refine pw_asi ((bd x k : Int)) (hlo k (by omega)) ?_
      refine pw_i2l hx hb dX10_overSmall_34 ?_
      refine pw_ladd hx hb dX10_overSmall_35 ?_
      refine pw_asl (((dm x (k + 1) d * 268435456 + bd x k : Nat) : Int)) (by omega) ?_
      refine lv_lstore (lv' := [(6, .long (lI (((dm x (k + 1) d * 268435456 + bd x k : Nat) : Int)))), (0, .ref (r0)), (1, .int (iI ((a : Int)))), (2, .int (iI ((d : Int)))), (3, .long (lI (((dm x (k + 1) d : Nat) : Int)))), (5, .int (iI (((k + 1 : Nat) : Int) - 1)))]) hx hb dX10_overSmall_36 hl (by decide) rfl (fun ls hl => ?_)
      refine lv_aload_n hx hb dX10_overSmall_38 rfl (lv_at hl 1 rfl) ?_
      refine pw_get (C := RX10) (T := TX10) (N := 20) hx hb hts hin10 hown hK hO rfl 13 (by decide) lk_38 rfl rfl dX10_overSmall_39 ?_
      refine pw_bipush hx hb dX10_overSmall_42 ?_
      refine lv_iload_n hx hb dX10_overSmall_44 rfl (lv_at hl 2 rfl) ?_
      refine pw_imul hx hb dX10_overSmall_45 ?_
      refine lv_iload hx hb dX10_overSmall_46 (lv_at hl 5 rfl) ?_
      refine pw_iadd hx hb dX10_overSmall_48 ?_
      refine lv_lload hx hb dX10_overSmall_49 (lv_at hl 0 rfl) ?_
      refine lv_iload_n hx hb dX10_overSmall_51 rfl (lv_at hl 3 rfl) ?_
      refine pw_i2l hx hb dX10_overSmall_52 ?_
      refine pw_ldiv hx hb dX10_overSmall_53 (by omega) ?_
      refine pw_asl ((bd (x / d) k : Int)) (by rw [nat_td, hos1]) ?_
      refine pw_l2i hx hb dX10_overSmall_54 ?_
      refine pw_iast hx hb hK hf hS (Or.inl rfl) (64 * a + k) (by omega) (by omega) (by omega) dX10_overSmall_55 (fun H1 locs1 hnew hz1 oq hS => ?_)
      have hO := hO.k (oq _ (by omega))
      have hg := hg.k (oq _ (by omega))
      have hh := hh.k (oq _ (by omega))
      have hf := hnew
      clear hnew oq hz1
      refine lv_lload hx hb dX10_overSmall_56 (lv_at hl 0 rfl) ?_
      refine lv_iload_n hx hb dX10_overSmall_58 rfl (lv_at hl 3 rfl) ?_
      refine pw_i2l hx hb dX10_overSmall_59 ?_
      refine pw_lrem hx hb dX10_overSmall_60 (by omega) ?_
      refine pw_asl (((dm x (k) d : Nat) : Int)) (by rw [nat_tm, hos2]) ?_
      refine lv_lstore_n (lv' := [(3, .long (lI (((dm x (k) d : Nat) : Int)))), (6, .long (lI (((dm x (k + 1) d * 268435456 + bd x k : Nat) : Int)))), (0, .ref (r0)), (1, .int (iI ((a : Int)))), (2, .int (iI ((d : Int)))), (5, .int (iI (((k + 1 : Nat) : Int) - 1)))]) hx hb dX10_overSmall_61 rfl hl (by decide) rfl (fun ls hl => ?_)
      refine lv_iinc (v := iI (((k : Nat) : Int) - 1)) (lv' := [(5, .int (iI (((k : Nat) : Int) - 1))), (3, .long (lI (((dm x (k) d : Nat) : Int)))), (6, .long (lI (((dm x (k + 1) d * 268435456 + bd x k : Nat) : Int)))), (0, .ref (r0)), (1, .int (iI ((a : Int)))), (2, .int (iI ((d : Int))))]) hx hb dX10_overSmall_62 hl (k := 5) rfl (by show iI _ + iI _ = _; exact (iI_add _ _).trans (by first | rfl | (congr 1; omega))) (by decide) rfl (fun ls hl => ?_)
      refine lv_goto (tgt := 12) hx hb dX10_overSmall_65 (by decide) ?_
      exact ih _ _ _ _ (by omega) (fun j hj => by rw [ud_n _ _ (by omega)]; exact hlo j (by omega)) (fun j h1 h2 => by
        by_cases e : j = k
        · subst e; exact ud_s _ _ _
        · rw [ud_n _ _ (by omega)]; exact hup j (by omega) h2) (ud_o (by omega) hof) hO hf hg hh hS (lv_sub hl [3, 4, 5, 1, 0] rfl)
  refine pw_lconst (z := 0) hx hb dX10_overSmall_0 ?_
  refine pw_asl (((dm x (n) d : Nat) : Int)) (by unfold dm; rw [Nat.div_eq_of_lt hxn, Nat.zero_mod]; rfl) ?_
  refine lv_lstore_n (lv' := [(3, .long (lI (((dm x (n) d : Nat) : Int)))), (0, .ref (r0)), (1, .int (iI ((a : Int)))), (2, .int (iI ((d : Int))))]) hx hb dX10_overSmall_1 rfl hl (by decide) rfl (fun ls hl => ?_)
  refine lv_aload_n hx hb dX10_overSmall_2 rfl (lv_at hl 1 rfl) ?_
  refine pw_get (C := RX10) (T := TX10) (N := 20) hx hb hts hin10 hown hK hO rfl 14 (by decide) lk_41 rfl rfl dX10_overSmall_3 ?_
  refine lv_iload_n hx hb dX10_overSmall_6 rfl (lv_at hl 2 rfl) ?_
  refine pw_iald hx hb hK hg (a) rfl (by omega) (by omega) dX10_overSmall_7 ?_
  refine pw_asi ((n : Int)) hga ?_
  refine pw_iconst hx hb dX10_overSmall_8 ?_
  refine pw_isub hx hb dX10_overSmall_9 ?_
  refine lv_istore (lv' := [(5, .int (iI (((n : Int)) - (1)))), (3, .long (lI (((dm x (n) d : Nat) : Int)))), (0, .ref (r0)), (1, .int (iI ((a : Int)))), (2, .int (iI ((d : Int))))]) hx hb dX10_overSmall_10 hl (by decide) rfl (fun ls hl => ?_)
  exact loop n f _ _ _ (Nat.le_refl n) (fun j hj => hDa j hj) (fun j h1 h2 => by omega) (fun _ _ => rfl) hO hf hg hh hS (lv_sub hl [2, 3, 4, 1, 0] rfl)
