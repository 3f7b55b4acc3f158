/-! the reference: plus, same sign -/
set_option maxHeartbeats 4000000 in
set_option maxRecDepth 100000 in
theorem r_plusA (l : Launch) (D : va_G) (E : Nat → ClassId) (r0 : Nat) (o f g h : Nat → Int) (a b : Nat) (u how : Int) (ha : a < 80) (hb0 : b < 80) (hab : b ≠ a) {n m0 : Nat} {w : Int} (hrk : rk u.natAbs n) (hrk2 : rk w.natAbs m0) (hgb : g b = (m0 : Int)) (hDb : DG f b w.natAbs m0) (hsa : h a = u.sign) (hn : n ≤ 63) (hm0 : m0 ≤ 63) (hsu : -1 ≤ u.sign ∧ u.sign ≤ 1) (hsw : -1 ≤ w.sign ∧ w.sign ≤ 1) (hxN : u.natAbs < 268435456 ^ (max n m0)) (hyN : w.natAbs < 268435456 ^ (max n m0)) {p : Program} {e : Env} {s : State} {m : MethodId} {args : Array Value} {below : List Frame} {meth : Method} {c : Code} (hx : p.tables.exec = Jvm.exec) (hb : c.code = cX10_plus) (hr : meth.sig.returnType = none) (hml : c.maxLocals = 10) (hts : ∀ w ∈ wsX10_plus, w.before args s = true) (hown : s.vm.findClass RX10 = some m.cls) (hlocks : meth.locks = false) (hK : KK D E s) : (u.sign = 0 ∨ u.sign = w.sign) → w.sign ≠ 0 → ∀ (kk k : Nat) (f1 g1 : Nat → Int) (H : Heap) (locs : List Loc) (ls : Array Slot), k + kk = (max n m0 : Nat) → DG f1 a (u.natAbs + w.natAbs) k → (∀ j, k ≤ j → j < n → f1 (64 * a + j) = (bd u.natAbs j : Int)) → (∀ q, q < 64 * a ∨ 64 * a + 64 ≤ q → f1 q = f q) → g1 a = ((max n k : Nat) : Int) → (∀ c, c ≠ a → g1 c = g c) → RO D r0 o H → IA E (r0 + 8) 5120 f1 H → IA E (r0 + 9) 80 g1 H → IA E (r0 + 10) 80 h H → va_S (fun q => q = r0 + 8 ∨ q = r0 + 9 ∨ q = r0 + 10) s.heap H locs → lv_has ls 10 [(0, .ref (r0)), (1, .int (iI ((a : Int)))), (2, .int (iI ((b : Int)))), (3, .int (iI (how))), (4, .int (iI (w.sign))), (5, .int (iI (((max n m0 : Nat) : Int)))), (6, .int (iI (((ca u.natAbs w.natAbs k : Nat) : Int)))), (7, .int (iI ((k : Int))))] → W p l e ({ frames := 1, cells := 0, slots := 0, locals := 23 } : Room) s m args below meth c H locs (0) (0) (MQ below (pw_Q rvV (fun _ H => NP E r0 a (u + w) f g h H) (fun q => q = r0 + 8 ∨ q = r0 + 9 ∨ q = r0 + 10)) args s (0) (0) (fun q => q = r0 + 8 ∨ q = r0 + 9 ∨ q = r0 + 10)) (F0 m 74 ls []) := by
  have lk_38 := hts (.fieldLink RX10 38 "PolicyWorksModel" "limbs" "[I") (by decide +kernel)
  have lk_41 := hts (.fieldLink RX10 41 "PolicyWorksModel" "lengths" "[I") (by decide +kernel)
  have lk_44 := hts (.fieldLink RX10 44 "PolicyWorksModel" "signs" "[I") (by decide +kernel)
  have kc_68 := hts (.constant RX10 68 (268435455)) (by decide +kernel)
  have kc_73 := hts (.constant RX10 73 (268435456)) (by decide +kernel)
  have hin10 : ∀ w ∈ wsX100, w ∈ wsX10_plus := by decide +kernel
  intro hsame hw0 kk
  obtain ⟨hsumA, hsumS⟩ := add_same hsame hw0
  induction kk with
  | zero =>
    intro k f1 g1 H locs ls hk hD hup hof hg1 hgo hO hf hg hh hS hl
    have ek : k = (max n m0 : Nat) := by omega
    subst ek
    have hpw := rb_s (max n m0 : Nat)
    refine lv_iload hx hb dX10_plus_74 (lv_at hl 7 rfl) ?_
    refine lv_iload hx hb dX10_plus_76 (lv_at hl 5 rfl) ?_
    refine pw_icmp_ge (tgt := 161) hx hb dX10_plus_78 (by decide) (fun c_78 => ?_) (fun c_78 => absurd c_78 (by omega))
    refine lv_aload_n hx hb dX10_plus_161 rfl (lv_at hl 0 rfl) ?_
    refine pw_get (C := RX10) (T := TX10) (N := 20) hx hb hts hin10 hown hK hO rfl 13 (by decide) lk_38 rfl rfl dX10_plus_162 ?_
    refine pw_bipush hx hb dX10_plus_165 ?_
    refine lv_iload_n hx hb dX10_plus_167 rfl (lv_at hl 1 rfl) ?_
    refine pw_imul hx hb dX10_plus_168 ?_
    refine lv_iload hx hb dX10_plus_169 (lv_at hl 5 rfl) ?_
    refine pw_iadd hx hb dX10_plus_171 ?_
    refine lv_iload hx hb dX10_plus_172 (lv_at hl 6 rfl) ?_
    refine pw_asi ((bd (u.natAbs + w.natAbs) (max n m0 : Nat) : Int)) (by rw [ca_top hxN hyN]) ?_
    refine pw_iast hx hb hK hf hS (Or.inl rfl) (((64) * ((a))) + (((max n m0)))) (by omega) (by omega) (by omega) dX10_plus_174 (fun H1 locs1 hnew hz1 oq hS => ?_)
    have hO := hO.k (oq _ (by omega))
    have hg := hg.k (oq _ (by omega))
    have hh := hh.k (oq _ (by omega))
    have hf := hnew
    clear hnew oq hz1
    refine lv_aload_n hx hb dX10_plus_175 rfl (lv_at hl 0 rfl) ?_
    refine pw_get (C := RX10) (T := TX10) (N := 20) hx hb hts hin10 hown hK hO rfl 15 (by decide) lk_44 rfl rfl dX10_plus_176 ?_
    refine lv_iload_n hx hb dX10_plus_179 rfl (lv_at hl 1 rfl) ?_
    refine lv_iload hx hb dX10_plus_180 (lv_at hl 4 rfl) ?_
    refine pw_iast hx hb hK hh hS (Or.inr (Or.inr rfl)) (a) rfl (by omega) (by omega) dX10_plus_182 (fun H1 locs1 hnew hz1 oq hS => ?_)
    have hO := hO.k (oq _ (by omega))
    have hf := hf.k (oq _ (by omega))
    have hg := hg.k (oq _ (by omega))
    have hh := hnew
    clear hnew oq hz1
    refine lv_aload_n hx hb dX10_plus_183 rfl (lv_at hl 0 rfl) ?_
    refine lv_iload_n hx hb dX10_plus_184 rfl (lv_at hl 1 rfl) ?_
    refine lv_iload hx hb dX10_plus_185 (lv_at hl 5 rfl) ?_
    refine pw_iconst hx hb dX10_plus_187 ?_
    refine pw_iadd hx hb dX10_plus_188 ?_
    refine pw_asi ((((max n m0 : Nat) + 1 : Nat) : Int)) (by omega) ?_
    refine pw_callVv (As := [.int (iI ((a : Int))), .int (iI ((((max n m0 : Nat) + 1 : Nat) : Int)))]) (rest := []) ⟨hx, hb, hml, hown, hts⟩ (r_trim l D E r0 o (ud f1 (64 * a + (max n m0 : Nat)) (bd (u.natAbs + w.natAbs) (max n m0 : Nat) : Int)) g1 (ud h a w.sign) a ((max n m0 : Nat) + 1) (u.natAbs + w.natAbs) (u + w) ha (by omega) (by omega) (hD.up rfl) hsumA (fun _ => by rw [ud_s, hsumS])) (cwV 2 hts gX10_plus_X10_trim rfl rfl rfl (by decide +kernel) ⟨Nat.le_of_ble_eq_true rfl, Nat.le_of_ble_eq_true rfl⟩) hK hO rfl ⟨hO, hf, hg, hh⟩ rfl hl.1 rfl (Nat.le_of_ble_eq_true rfl) dX10_plus_189 ⟨Nat.zero_le _, Nat.zero_le _⟩ hS (fun q h => h) (fun H1 locs1 hNP hz1 hk1 hS => ?_)
    have hO := hO.k (hk1 _ hO.lt (by (try dsimp only); omega))
    exact pw_vret hx hb hr hlocks hS (hNP.tr ⟨ud_o (by omega) hof, fun c hc => ⟨hgo c hc, ud_n _ _ hc⟩⟩) dX10_plus_192
  | succ kk ih =>
    intro k f1 g1 H locs ls hk hD hup hof hg1 hgo hO hf hg hh hS hl
    have b1 := bd_lt u.natAbs k
    have b2 := bd_lt w.natAbs k
    have b3 := ca_le u.natAbs w.natAbs k
    refine lv_iload hx hb dX10_plus_74 (lv_at hl 7 rfl) ?_
    refine lv_iload hx hb dX10_plus_76 (lv_at hl 5 rfl) ?_
    refine pw_icmp_ge (tgt := 161) hx hb dX10_plus_78 (by decide) (fun c_78 => absurd c_78 (by omega)) (fun c_78 => ?_)
    refine lv_aload_n hx hb dX10_plus_81 rfl (lv_at hl 0 rfl) ?_
    refine lv_iload_n hx hb dX10_plus_82 rfl (lv_at hl 1 rfl) ?_
    refine lv_iload hx hb dX10_plus_83 (lv_at hl 7 rfl) ?_
    refine pw_callVi (As := [.int (iI ((a : Int))), .int (iI ((k : Int)))]) (rest := []) ⟨hx, hb, hml, hown, hts⟩ (r_limb l D E r0 o f1 g1 h a k (max n k) ha (by omega) (by omega) hg1) (cwV 2 hts gX10_plus_X10_limb rfl rfl rfl (by decide +kernel) ⟨Nat.le_of_ble_eq_true rfl, Nat.le_of_ble_eq_true rfl⟩) hK hO rfl ⟨hO, hf, hg, hh⟩ rfl hl.1 rfl (Nat.le_of_ble_eq_true rfl) dX10_plus_85 ⟨Nat.zero_le _, Nat.zero_le _⟩ hS (fun q h => h.elim) (fun z H1 locs1 hz hz1 hk1 hS => ?_)
    have hO := hO.k (hk1 _ hO.lt (fun h => h))
    have hf := hf.k (hk1 _ hf.lt (fun h => h))
    have hg := hg.k (hk1 _ hg.lt (fun h => h))
    have hh := hh.k (hk1 _ hh.lt (fun h => h))
    have hz : z = (bd u.natAbs k : Int) := by
      by_cases e : k < n
      · rw [hz, if_pos (by omega)]; exact hup k (Nat.le_refl k) e
      · rw [hz, if_neg (by omega), bd_0 (Nat.lt_of_lt_of_le hrk.2.1 (rb_mono (by omega)))]; rfl
    subst hz
    refine lv_aload_n hx hb dX10_plus_88 rfl (lv_at hl 0 rfl) ?_
    refine lv_iload_n hx hb dX10_plus_89 rfl (lv_at hl 2 rfl) ?_
    refine lv_iload hx hb dX10_plus_90 (lv_at hl 7 rfl) ?_
    refine pw_callVi (As := [.int (iI ((b : Int))), .int (iI ((k : Int)))]) (rest := [.int (iI ((bd u.natAbs k : Int)))]) ⟨hx, hb, hml, hown, hts⟩ (r_limb l D E r0 o f1 g1 h b k (m0) hb0 (by omega) (by omega) ((hgo b hab).trans hgb)) (cwV 2 hts gX10_plus_X10_limb rfl rfl rfl (by decide +kernel) ⟨Nat.le_of_ble_eq_true rfl, Nat.le_of_ble_eq_true rfl⟩) hK hO rfl ⟨hO, hf, hg, hh⟩ rfl hl.1 rfl (Nat.le_of_ble_eq_true rfl) dX10_plus_92 ⟨Nat.zero_le _, Nat.zero_le _⟩ hS (fun q h => h.elim) (fun z H1 locs1 hz hz1 hk1 hS => ?_)
    have hO := hO.k (hk1 _ hO.lt (fun h => h))
    have hf := hf.k (hk1 _ hf.lt (fun h => h))
    have hg := hg.k (hk1 _ hg.lt (fun h => h))
    have hh := hh.k (hk1 _ hh.lt (fun h => h))
    have hz : z = (bd w.natAbs k : Int) := by
      by_cases e : k < m0
      · rw [hz, if_pos (by omega)]; exact (hof _ (by omega)).trans (hDb k e)
      · rw [hz, if_neg (by omega), bd_0 (Nat.lt_of_lt_of_le hrk2.2.1 (rb_mono (by omega)))]; rfl
    subst hz
    refine pw_iadd hx hb dX10_plus_95 ?_
    refine lv_iload hx hb dX10_plus_96 (lv_at hl 6 rfl) ?_
    refine pw_iadd hx hb dX10_plus_98 ?_
    refine pw_asi (((bd u.natAbs k + bd w.natAbs k + ca u.natAbs w.natAbs k : Nat) : Int)) (by omega) ?_
    refine lv_istore (lv' := [(8, .int (iI (((bd u.natAbs k + bd w.natAbs k + ca u.natAbs w.natAbs k : Nat) : Int)))), (0, .ref (r0)), (1, .int (iI ((a : Int)))), (2, .int (iI ((b : Int)))), (3, .int (iI (how))), (4, .int (iI (w.sign))), (5, .int (iI (((max n m0 : Nat) : Int)))), (6, .int (iI (((ca u.natAbs w.natAbs k : Nat) : Int)))), (7, .int (iI ((k : Int))))]) hx hb dX10_plus_99 hl (by decide) rfl (fun ls hl => ?_)
    refine lv_iload hx hb dX10_plus_101 (lv_at hl 0 rfl) ?_
    refine pw_bipush hx hb dX10_plus_103 ?_
    refine lv_ishr hx hb dX10_plus_105 ?_
    refine pw_eqi ((((bd u.natAbs k + bd w.natAbs k + ca u.natAbs w.natAbs k) / 268435456 : Nat) : Int)) (j_ishr28 (by omega)) ?_
    refine pw_asi (((ca u.natAbs w.natAbs (k + 1) : Nat) : Int)) (by rw [ca_next]) ?_
    refine lv_istore (lv' := [(6, .int (iI (((ca u.natAbs w.natAbs (k + 1) : Nat) : Int)))), (8, .int (iI (((bd u.natAbs k + bd w.natAbs k + ca u.natAbs w.natAbs k : Nat) : Int)))), (0, .ref (r0)), (1, .int (iI ((a : Int)))), (2, .int (iI ((b : Int)))), (3, .int (iI (how))), (4, .int (iI (w.sign))), (5, .int (iI (((max n m0 : Nat) : Int)))), (7, .int (iI ((k : Int))))]) hx hb dX10_plus_106 hl (by decide) rfl (fun ls hl => ?_)
    refine lv_aload_n hx hb dX10_plus_108 rfl (lv_at hl 2 rfl) ?_
    refine pw_get (C := RX10) (T := TX10) (N := 20) hx hb hts hin10 hown hK hO rfl 13 (by decide) lk_38 rfl rfl dX10_plus_109 ?_
    refine pw_bipush hx hb dX10_plus_112 ?_
    refine lv_iload_n hx hb dX10_plus_114 rfl (lv_at hl 3 rfl) ?_
    refine pw_imul hx hb dX10_plus_115 ?_
    refine lv_iload hx hb dX10_plus_116 (lv_at hl 8 rfl) ?_
    refine pw_iadd hx hb dX10_plus_118 ?_
    refine lv_iload hx hb dX10_plus_119 (lv_at hl 1 rfl) ?_
    refine pw_ldc (z := 268435455) hx hb hown kc_68 (by decide +kernel) dX10_plus_121 ?_
    refine lv_iand hx hb dX10_plus_123 ?_
    refine pw_eqi ((((bd u.natAbs k + bd w.natAbs k + ca u.natAbs w.natAbs k) % 268435456 : Nat) : Int)) (j_iand _) ?_
    refine pw_asi ((bd (u.natAbs + w.natAbs) k : Int)) (by rw [ca_dig]) ?_
    refine pw_iast hx hb hK hf hS (Or.inl rfl) (((64) * ((a))) + ((k))) (by omega) (by omega) (by omega) dX10_plus_124 (fun H1 locs1 hnew hz1 oq hS => ?_)
    have hO := hO.k (oq _ (by omega))
    have hg := hg.k (oq _ (by omega))
    have hh := hh.k (oq _ (by omega))
    have hf := hnew
    clear hnew oq hz1
    refine lv_aload_n hx hb dX10_plus_125 rfl (lv_at hl 2 rfl) ?_
    refine pw_get (C := RX10) (T := TX10) (N := 20) hx hb hts hin10 hown hK hO rfl 14 (by decide) lk_41 rfl rfl dX10_plus_126 ?_
    refine lv_iload_n hx hb dX10_plus_129 rfl (lv_at hl 3 rfl) ?_
    refine lv_aload_n hx hb dX10_plus_130 rfl (lv_at hl 2 rfl) ?_
    refine pw_get (C := RX10) (T := TX10) (N := 20) hx hb hts hin10 hown hK hO rfl 14 (by decide) lk_41 rfl rfl dX10_plus_131 ?_
    refine lv_iload_n hx hb dX10_plus_134 rfl (lv_at hl 3 rfl) ?_
    refine pw_iald hx hb hK hg (a) rfl (by omega) (by omega) dX10_plus_135 ?_
    refine pw_asi (((max n k : Nat) : Int)) hg1 ?_
    refine lv_iload hx hb dX10_plus_136 (lv_at hl 8 rfl) ?_
    refine pw_icmp_gt (tgt := 148) hx hb dX10_plus_138 (by decide) (fun c_138 => ?_) (fun c_138 => ?_)
    · refine lv_aload_n hx hb dX10_plus_148 rfl (lv_at hl 2 rfl) ?_
      refine pw_get (C := RX10) (T := TX10) (N := 20) hx hb hts hin10 hown hK hO rfl 14 (by decide) lk_41 rfl rfl dX10_plus_149 ?_
      refine lv_iload_n hx hb dX10_plus_152 rfl (lv_at hl 3 rfl) ?_
      refine pw_iald hx hb hK hg (a) rfl (by omega) (by omega) dX10_plus_153 ?_
      refine pw_asi (((max n (k + 1) : Nat) : Int)) (by rw [hg1]; omega) ?_
      refine pw_iast hx hb hK hg hS (Or.inr (Or.inl rfl)) (a) rfl (by omega) (by omega) dX10_plus_154 (fun H1 locs1 hnew hz1 oq hS => ?_)
      have hO := hO.k (oq _ (by omega))
      have hf := hf.k (oq _ (by omega))
      have hh := hh.k (oq _ (by omega))
      have hg := hnew
      clear hnew oq hz1
      refine lv_iinc (v := iI (((k + 1 : Nat) : Int))) (lv' := [(7, .int (iI (((k + 1 : Nat) : Int)))), (6, .int (iI (((ca u.natAbs w.natAbs (k + 1) : Nat) : Int)))), (8, .int (iI (((bd u.natAbs k + bd w.natAbs k + ca u.natAbs w.natAbs k : Nat) : Int)))), (0, .ref (r0)), (1, .int (iI ((a : Int)))), (2, .int (iI ((b : Int)))), (3, .int (iI (how))), (4, .int (iI (w.sign))), (5, .int (iI (((max n m0 : Nat) : Int))))]) hx hb dX10_plus_155 hl (k := 8) rfl (by show iI _ + iI _ = _; exact (iI_add _ _).trans (by first | rfl | (congr 1; omega))) (by decide) rfl (fun ls hl => ?_)
      refine lv_goto (tgt := 74) hx hb dX10_plus_158 (by decide) ?_
      exact ih (k + 1) _ _ _ _ _ (by omega) (hD.up rfl) (fun j h1 h2 => by rw [ud_n _ _ (by omega)]; exact hup j (by omega) h2) (ud_o (by omega) hof) (ud_s _ _ _) (fun c hc => by rw [ud_n _ _ hc]; exact hgo c hc) hO hf hg hh hS (lv_sub hl [3, 4, 5, 6, 7, 8, 1, 0] rfl)
    · refine lv_iload hx hb dX10_plus_141 (lv_at hl 8 rfl) ?_
      refine pw_iconst hx hb dX10_plus_143 ?_
      refine pw_iadd hx hb dX10_plus_144 ?_
      refine pw_asi (((max n (k + 1) : Nat) : Int)) (by omega) ?_
      refine lv_goto (tgt := 154) hx hb dX10_plus_145 (by decide) ?_
      refine pw_iast hx hb hK hg hS (Or.inr (Or.inl rfl)) (a) rfl (by omega) (by omega) dX10_plus_154 (fun H1 locs1 hnew hz1 oq hS => ?_)
      have hO := hO.k (oq _ (by omega))
      have hf := hf.k (oq _ (by omega))
      have hh := hh.k (oq _ (by omega))
      have hg := hnew
      clear hnew oq hz1
      refine lv_iinc (v := iI (((k + 1 : Nat) : Int))) (lv' := [(7, .int (iI (((k + 1 : Nat) : Int)))), (6, .int (iI (((ca u.natAbs w.natAbs (k + 1) : Nat) : Int)))), (8, .int (iI (((bd u.natAbs k + bd w.natAbs k + ca u.natAbs w.natAbs k : Nat) : Int)))), (0, .ref (r0)), (1, .int (iI ((a : Int)))), (2, .int (iI ((b : Int)))), (3, .int (iI (how))), (4, .int (iI (w.sign))), (5, .int (iI (((max n m0 : Nat) : Int))))]) hx hb dX10_plus_155 hl (k := 8) rfl (by show iI _ + iI _ = _; exact (iI_add _ _).trans (by first | rfl | (congr 1; omega))) (by decide) rfl (fun ls hl => ?_)
      refine lv_goto (tgt := 74) hx hb dX10_plus_158 (by decide) ?_
      exact ih (k + 1) _ _ _ _ _ (by omega) (hD.up rfl) (fun j h1 h2 => by rw [ud_n _ _ (by omega)]; exact hup j (by omega) h2) (ud_o (by omega) hof) (ud_s _ _ _) (fun c hc => by rw [ud_n _ _ hc]; exact hgo c hc) hO hf hg hh hS (lv_sub hl [3, 4, 5, 6, 7, 8, 1, 0] rfl)
