/-! the reference: over -/
theorem or_one (e : Nat) : (2 * e ||| 1) = 2 * e + 1 := (Nat.two_pow_add_eq_or_of_lt (i := 1) (b := 1) (by omega) e).symm
theorem bd_0e (x : Nat) : bd x 0 = x % 268435456 := by unfold bd; rw [Nat.pow_zero, Nat.div_one]
theorem bd_odd (e k : Nat) (hk : 0 < k) : bd (2 * e + 1) k = bd (2 * e) k := by
  obtain ⟨q, rfl⟩ : ∃ q, k = 1 + q := ⟨k - 1, by omega⟩
  unfold bd
  rw [Nat.pow_add, ← Nat.div_div_eq_div_mul, ← Nat.div_div_eq_div_mul, Nat.pow_one]
  congr 2
  omega
theorem num_inc {f g h : Nat → Int} {e : Nat} {n : Nat} (hrk : rk (2 * e) n) (hD : DG f 52 (2 * e) n) (hn : n ≠ 0) (hg : g 52 = (n : Int)) : Num (ud f 3328 (bd (2 * e + 1) 0 : Int)) (ud g 52 (n : Int)) (ud h 52 1) 52 ((2 * e + 1 : Nat) : Int) := by
  have h1 := hrk.2.1
  have h2 := hrk.2.2 (by omega)
  have h3 : 2 * e + 1 < 268435456 ^ n := by
    obtain ⟨q, rfl⟩ : ∃ q, n = q + 1 := ⟨n - 1, by omega⟩
    rw [rb_s] at h1 ⊢
    omega
  refine ⟨n, ⟨hrk.1, h3, fun _ => by show _ ≤ 2 * e + 1; omega⟩, ud_s _ _ _, fun k hk => ?_, by rw [ud_s]; exact (Int.sign_eq_one_of_pos (by omega)).symm⟩
  show _ = (bd (2 * e + 1) k : Int)
  by_cases ek : k = 0
  · subst ek; exact ud_s _ _ _
  · rw [ud_n _ _ (by omega), bd_odd e k (by omega)]; exact hD k hk
theorem num_one {f g h : Nat → Int} {e : Nat} (he : 2 * e = 0) : Num (ud f 3328 1) (ud g 52 1) (ud h 52 1) 52 ((2 * e + 1 : Nat) : Int) := by
  rw [he]
  refine ⟨1, ⟨by omega, by decide, fun _ => by decide⟩, ud_s _ _ _, fun k hk => ?_, by rw [ud_s]; rfl⟩
  have ek : k = 0 := by omega
  subst ek
  rw [show 64 * 52 + 0 = 3328 from rfl, ud_s]
  decide
/-- of all numbers but a and the helper, what they are -/
def Kp (a : Nat) (f g h f' g' h' : Nat → Int) : Prop := ∀ c w, c ≠ a → c ≠ 52 → Num f g h c w → Num f' g' h' c w
theorem Kp.rf {a : Nat} {f g h : Nat → Int} : Kp a f g h f g h := fun _ _ _ _ x => x
theorem Kp.o1 {a : Nat} {f g h f1 g1 h1 f2 g2 h2 : Nat → Int} (x : Kp a f g h f1 g1 h1) (y : Oth 52 f1 g1 h1 f2 g2 h2) : Kp a f g h f2 g2 h2 := fun c w h1 h2 hn => (x c w h1 h2 hn).oth y h2
theorem Kp.o2 {a : Nat} {f g h f1 g1 h1 f2 g2 h2 : Nat → Int} (x : Kp a f g h f1 g1 h1) (y : Oth a f1 g1 h1 f2 g2 h2) : Kp a f g h f2 g2 h2 := fun c w h1 h2 hn => (x c w h1 h2 hn).oth y h1
def NQ (E : Nat → ClassId) (r0 a : Nat) (v : Int) (f g h : Nat → Int) (H : Heap) : Prop := ∃ f' g' h', NA E r0 f' g' h' H ∧ Num f' g' h' a v ∧ (∃ w, Num f' g' h' 52 w ∧ w.natAbs < 268435456 ^ 63) ∧ Kp a f g h f' g' h'
theorem q_div {u q v : Int} (hv : 0 < v) (hu : u = q * v) : u.natAbs / v.natAbs = q.natAbs ∧ u.sign = q.sign := by
  subst hu
  rw [Int.natAbs_mul, Int.sign_mul, Int.sign_eq_one_of_pos hv, Int.mul_one]
  exact ⟨Nat.mul_div_cancel _ (by omega), rfl⟩
set_option maxHeartbeats 4000000 in
set_option maxRecDepth 100000 in
/-- over(a, b) -/
theorem r_over (l : Launch) (D : va_G) (E : Nat → ClassId) (r0 : Nat) (o f g h : Nat → Int) (a b : Nat) (u v q : Int) (ha : a < 80) (hb0 : b < 80) (hab : a ≠ b) (ha4 : a ≠ 52) (hb4 : b ≠ 52) (hA : Num f g h a u) (hB : Num f g h b v) (hv0 : 0 < v) (hq : u = q * v) (hv62 : v.natAbs < 268435456 ^ 62) : pw_M rvV l D E yX10_over wsX10_over ({ frames := 2, cells := 0, slots := 0, locals := 53 } : Room) [.ref (r0), .int (iI ((a : Int))), .int (iI ((b : Int)))] (fun H => RO D r0 o H ∧ NA E r0 f g h H) (fun _ H => NQ E r0 a q f g h H) (fun q => q = r0 + 8 ∨ q = r0 + 9 ∨ q = r0 + 10) (0) (0) := by
  refine pw_of (cc := cX10_over) (maxL := 9) (ret := none) (by decide +kernel) rfl (Nat.le_of_ble_eq_true rfl) ?_
  intro p e s m args below meth c hx hb hr hml hts hown hlocks hini hK ⟨hO, hf, hg, hh⟩ ls hl
  have hown : s.vm.findClass RX10 = some m.cls := hown
  have hl : lv_has ls 9 [(0, .ref (r0)), (1, .int (iI ((a : Int)))), (2, .int (iI ((b : Int))))] := hl
  have hS : va_S (fun q => q = r0 + 8 ∨ q = r0 + 9 ∨ q = r0 + 10) s.heap s.heap [] := va_S.rf
  have lk_38 := hts (.fieldLink RX10 38 "PolicyWorksModel" "limbs" "[I") (by decide +kernel)
  have lk_41 := hts (.fieldLink RX10 41 "PolicyWorksModel" "lengths" "[I") (by decide +kernel)
  have lk_44 := hts (.fieldLink RX10 44 "PolicyWorksModel" "signs" "[I") (by decide +kernel)
  have hin10 : ∀ w ∈ wsX100, w ∈ wsX10_over := by decide +kernel
  obtain ⟨n, hrk, hga, hDa, hsa⟩ := hA
  have hn := hrk.1
  have hXn : u.natAbs < 268435456 ^ n := hrk.2.1
  have hY : 0 < v.natAbs := by omega
  obtain ⟨hQ, hsq⟩ := q_div hv0 hq
  have hQn : u.natAbs / v.natAbs < 268435456 ^ n := Nat.lt_of_le_of_lt (Nat.div_le_self _ _) hXn
  have hsv : v.sign = 1 := Int.sign_eq_one_of_pos hv0
  have hp63 := rb_s 62
  have hp64 := rb_s 63
  have hsqb := sgn_b q
  have loop : ∀ (t : Nat) (f1 g1 h1 : Nat → Int) (H : Heap) (locs : List Loc) (ls : Array Slot), t ≤ 28 * n → DG f1 a (mq (u.natAbs / v.natAbs) u.natAbs t) n → g1 a = (n : Int) → Num f1 g1 h1 52 ((rr u.natAbs v.natAbs t) : Int) → Kp a f g h f1 g1 h1 → RO D r0 o H → IA E (r0 + 8) 5120 f1 H → IA E (r0 + 9) 80 g1 H → IA E (r0 + 10) 80 h1 H → va_S (fun q => q = r0 + 8 ∨ q = r0 + 9 ∨ q = r0 + 10) s.heap H locs → lv_has ls 9 [(0, .ref (r0)), (1, .int (iI ((a : Int)))), (2, .int (iI ((b : Int)))), (3, .int (iI (q.sign))), (4, .int (iI ((n : Int)))), (5, .int (iI ((t : Int) - 1)))] → W p l e ({ frames := 2, cells := 0, slots := 0, locals := 53 } : Room) s m args below meth c H locs (0) (0) (MQ below (pw_Q rvV (fun _ H => NQ E r0 a q f g h H) (fun q => q = r0 + 8 ∨ q = r0 + 9 ∨ q = r0 + 10)) args s (0) (0) (fun q => q = r0 + 8 ∨ q = r0 + 9 ∨ q = r0 + 10)) (F0 m 38 ls []) := by
    intro t
    induction t with
    | zero =>
      intro f1 g1 h1 H locs ls ht hD hg1 h52 hKp hO hf hg hh hS hl
      rw [mq_end] at hD
      have hr52 := rr_lt (X := u.natAbs) 0 hY
      refine lv_iload hx hb dX10_over_38 (lv_at hl 5 rfl) ?_
      refine pw_if_lt (tgt := 250) hx hb dX10_over_40 (by decide) (fun c_40 => ?_) (fun c_40 => absurd c_40 (by omega))
      refine lv_aload_n hx hb dX10_over_250 rfl (lv_at hl 0 rfl) ?_
      refine pw_get (C := RX10) (T := TX10) (N := 20) hx hb hts hin10 hown hK hO rfl 15 (by decide) lk_44 rfl rfl dX10_over_251 ?_
      refine lv_iload_n hx hb dX10_over_254 rfl (lv_at hl 1 rfl) ?_
      refine lv_iload_n hx hb dX10_over_255 rfl (lv_at hl 3 rfl) ?_
      refine pw_iast hx hb hK hh hS (Or.inr (Or.inr rfl)) (a) rfl (by omega) (by omega) dX10_over_256 (fun H1 locs1 hnew hz1 oq hS => ?_)
      have hO := hO.k (oq _ (by omega))
      have hf := hf.k (oq _ (by omega))
      have hg := hg.k (oq _ (by omega))
      have hh := hnew
      clear hnew oq hz1
      refine lv_aload_n hx hb dX10_over_257 rfl (lv_at hl 0 rfl) ?_
      refine lv_iload_n hx hb dX10_over_258 rfl (lv_at hl 1 rfl) ?_
      refine lv_iload hx hb dX10_over_259 (lv_at hl 4 rfl) ?_
      refine pw_callVv (As := [.int (iI ((a : Int))), .int (iI ((n : Int)))]) (rest := []) ⟨hx, hb, hml, hown, hts⟩ (r_trim l D E r0 o f1 g1 (ud h1 a q.sign) a (n) (u.natAbs / v.natAbs) (q) ha (by omega) hQn hD hQ.symm (fun _ => by rw [ud_s])) (cwV 2 hts gX10_over_X10_trim rfl rfl rfl (by decide +kernel) ⟨Nat.le_of_ble_eq_true rfl, Nat.le_of_ble_eq_true rfl⟩) hK hO rfl ⟨hO, hf, hg, hh⟩ rfl hl.1 rfl (Nat.le_of_ble_eq_true rfl) dX10_over_261 ⟨Nat.zero_le _, Nat.zero_le _⟩ hS (fun q h => h) (fun H1 locs1 hNP hz1 hk1 hS => ?_)
      have hO := hO.k (hk1 _ hO.lt (by (try dsimp only); omega))
      obtain ⟨f2, g2, h2, q1, q2, q3⟩ := hNP
      have ho : Oth a f1 g1 h1 f2 g2 h2 := Oth.tr ⟨fun _ _ => rfl, fun c hc => ⟨rfl, ud_n _ _ hc⟩⟩ q3
      exact pw_vret hx hb hr hlocks hS ⟨f2, g2, h2, q1, q2, ⟨_, h52.oth ho (fun e => ha4 e.symm), by show (rr u.natAbs v.natAbs 0) < _; omega⟩, hKp.o2 ho⟩ dX10_over_264
    | succ t ih =>
      intro f1 g1 h1 H locs ls ht hD hg1 h52 hKp hO hf hg hh hS hl
      obtain ⟨j, r, hr28, rfl⟩ : ∃ j r, r < 28 ∧ t = 28 * j + r := ⟨t / 28, t % 28, Nat.mod_lt _ (by omega), (Nat.div_add_mod _ _).symm⟩
      have hjn : j < n := by omega
      obtain ⟨hst1, hst2⟩ := rr_step (X := u.natAbs) (b := 28 * j + r) hY
      have hRT := rr_lt (X := u.natAbs) (28 * j + r + 1) hY
      have hxb : u.natAbs / 2 ^ (28 * j + r) % 2 < 2 := Nat.mod_lt _ (by omega)
      have k149 : ∀ (f1 g1 h1 : Nat → Int) (H : Heap) (locs : List Loc) (ls : Array Slot), DG f1 a (mq (u.natAbs / v.natAbs) u.natAbs (28 * j + r + 1)) n → g1 a = (n : Int) → Num f1 g1 h1 52 (((2 * (rr u.natAbs v.natAbs (28 * j + r + 1)) + u.natAbs / 2 ^ (28 * j + r) % 2) : Nat) : Int) → Kp a f g h f1 g1 h1 → RO D r0 o H → IA E (r0 + 8) 5120 f1 H → IA E (r0 + 9) 80 g1 H → IA E (r0 + 10) 80 h1 H → va_S (fun q => q = r0 + 8 ∨ q = r0 + 9 ∨ q = r0 + 10) s.heap H locs → lv_has ls 9 [(0, .ref (r0)), (1, .int (iI ((a : Int)))), (2, .int (iI ((b : Int)))), (3, .int (iI (q.sign))), (4, .int (iI ((n : Int)))), (5, .int (iI (((28 * j + r + 1 : Nat) : Int) - 1)))] → W p l e ({ frames := 2, cells := 0, slots := 0, locals := 53 } : Room) s m args below meth c H locs (0) (0) (MQ below (pw_Q rvV (fun _ H => NQ E r0 a q f g h H) (fun q => q = r0 + 8 ∨ q = r0 + 9 ∨ q = r0 + 10)) args s (0) (0) (fun q => q = r0 + 8 ∨ q = r0 + 9 ∨ q = r0 + 10)) (F0 m 149 ls []) := by
        intro f1 g1 h1 H locs ls hD hg1 h52 hKp hO hf hg hh hS hl
        have hB1 := hKp b v (fun e => hab e.symm) hb4 hB
        have hcb := cz_b (2 * (rr u.natAbs v.natAbs (28 * j + r + 1)) + u.natAbs / 2 ^ (28 * j + r) % 2) v.natAbs
        refine lv_aload_n hx hb dX10_over_149 rfl (lv_at hl 0 rfl) ?_
        refine pw_bipush hx hb dX10_over_150 ?_
        refine lv_iload_n hx hb dX10_over_152 rfl (lv_at hl 2 rfl) ?_
        refine pw_callVi (As := [.int (iI (52)), .int (iI ((b : Int)))]) (rest := []) ⟨hx, hb, hml, hown, hts⟩ (r_compareSizes l D E r0 o f1 g1 h1 52 b (((2 * (rr u.natAbs v.natAbs (28 * j + r + 1)) + u.natAbs / 2 ^ (28 * j + r) % 2) : Nat) : Int) v (by omega) hb0 h52 hB1) (cwV 2 hts gX10_over_X10_compareSizes rfl rfl rfl (by decide +kernel) ⟨Nat.le_of_ble_eq_true rfl, Nat.le_of_ble_eq_true rfl⟩) hK hO rfl ⟨hO, hf, hg, hh⟩ rfl hl.1 rfl (Nat.le_of_ble_eq_true rfl) dX10_over_153 ⟨Nat.zero_le _, Nat.zero_le _⟩ hS (fun q h => h.elim) (fun z H1 locs1 hz hz1 hk1 hS => ?_)
        have hO := hO.k (hk1 _ hO.lt (fun h => h))
        have hf := hf.k (hk1 _ hf.lt (fun h => h))
        have hg := hg.k (hk1 _ hg.lt (fun h => h))
        have hh := hh.k (hk1 _ hh.lt (fun h => h))
        have hz : z = cz (2 * (rr u.natAbs v.natAbs (28 * j + r + 1)) + u.natAbs / 2 ^ (28 * j + r) % 2) v.natAbs := hz
        subst hz
        refine pw_if_lt (tgt := 163) hx hb dX10_over_156 (by decide) (fun c_156 => ?_) (fun c_156 => ?_)
        · have hfit : ¬ v.natAbs ≤ (2 * (rr u.natAbs v.natAbs (28 * j + r + 1)) + u.natAbs / 2 ^ (28 * j + r) % 2) := fun h => by have := cz_pos.mpr h; omega
          have hqb : (u.natAbs / v.natAbs).testBit (28 * j + r) = false := hst2.trans (decide_eq_false hfit)
          have h52 : Num f1 g1 h1 52 ((rr u.natAbs v.natAbs (28 * j + r) : Nat) : Int) := by rw [hst1, if_neg hfit]; exact h52
          refine pw_iconst hx hb dX10_over_163 ?_
          refine lv_istore (lv' := [(7, .int (iI (0))), (0, .ref (r0)), (1, .int (iI ((a : Int)))), (2, .int (iI ((b : Int)))), (3, .int (iI (q.sign))), (4, .int (iI ((n : Int)))), (5, .int (iI (((28 * j + r + 1 : Nat) : Int) - 1)))]) hx hb dX10_over_164 hl (by decide) rfl (fun ls hl => ?_)
          refine lv_iload hx hb dX10_over_166 (lv_at hl 0 rfl) ?_
          refine pw_if_eq (tgt := 185) hx hb dX10_over_168 (by decide) (fun c_168 => ?_) (fun c_168 => absurd c_168 (by omega))
          refine pw_bipush hx hb dX10_over_185 ?_
          refine lv_iload_n hx hb dX10_over_187 rfl (lv_at hl 2 rfl) ?_
          refine pw_imul hx hb dX10_over_188 ?_
          refine lv_iload hx hb dX10_over_189 (lv_at hl 6 rfl) ?_
          refine pw_asi ((((28 * j + r) : Nat) : Int)) (by omega) ?_
          refine pw_bipush hx hb dX10_over_191 ?_
          refine pw_idiv hx hb dX10_over_193 (by omega) ?_
          refine pw_asi ((j : Int)) (by show (((28 * j + r) / 28 : Nat) : Int) = (j : Int); omega) ?_
          refine pw_iadd hx hb dX10_over_194 ?_
          refine lv_istore (lv' := [(8, .int (iI (((64) * ((a : Int))) + ((j : Int))))), (7, .int (iI (0))), (0, .ref (r0)), (1, .int (iI ((a : Int)))), (2, .int (iI ((b : Int)))), (3, .int (iI (q.sign))), (4, .int (iI ((n : Int)))), (5, .int (iI (((28 * j + r + 1 : Nat) : Int) - 1)))]) hx hb dX10_over_195 hl (by decide) rfl (fun ls hl => ?_)
          refine lv_aload_n hx hb dX10_over_197 rfl (lv_at hl 2 rfl) ?_
          refine pw_get (C := RX10) (T := TX10) (N := 20) hx hb hts hin10 hown hK hO rfl 13 (by decide) lk_38 rfl rfl dX10_over_198 ?_
          refine lv_iload hx hb dX10_over_201 (lv_at hl 0 rfl) ?_
          refine lv_iload hx hb dX10_over_203 (lv_at hl 1 rfl) ?_
          refine pw_if_eq (tgt := 226) hx hb dX10_over_205 (by decide) (fun c_205 => ?_) (fun c_205 => absurd c_205 (by omega))
          refine lv_aload_n hx hb dX10_over_226 rfl (lv_at hl 2 rfl) ?_
          refine pw_get (C := RX10) (T := TX10) (N := 20) hx hb hts hin10 hown hK hO rfl 13 (by decide) lk_38 rfl rfl dX10_over_227 ?_
          refine lv_iload hx hb dX10_over_230 (lv_at hl 0 rfl) ?_
          refine pw_iald hx hb hK hf (64 * a + j) (by omega) (by omega) (by omega) dX10_over_232 ?_
          refine pw_asi ((bd (mq (u.natAbs / v.natAbs) u.natAbs (28 * j + r + 1)) j : Int)) (hD j hjn) ?_
          refine pw_iconst hx hb dX10_over_233 ?_
          refine lv_iload hx hb dX10_over_234 (lv_at hl 7 rfl) ?_
          refine pw_asi ((((28 * j + r) : Nat) : Int)) (by omega) ?_
          refine pw_bipush hx hb dX10_over_236 ?_
          refine pw_irem hx hb dX10_over_238 (by omega) ?_
          refine pw_asi ((r : Int)) (by show (((28 * j + r) % 28 : Nat) : Int) = (r : Int); omega) ?_
          refine lv_ishl hx hb dX10_over_239 ?_
          refine pw_eqi (((2 ^ r : Nat) : Int)) (j_ishl (by omega)) ?_
          refine pw_iconst hx hb dX10_over_240 ?_
          refine lv_ixor hx hb dX10_over_241 ?_
          refine lv_iand hx hb dX10_over_242 ?_
          refine pw_eqi ((bd (mq (u.natAbs / v.natAbs) u.natAbs (28 * j + r)) j : Int)) (j_clr _ _ _ (mq_2 hr28 hqb)) ?_
          refine pw_iast hx hb hK hf hS (Or.inl rfl) (64 * a + j) (by omega) (by omega) (by omega) dX10_over_243 (fun H1 locs1 hnew hz1 oq hS => ?_)
          have hO := hO.k (oq _ (by omega))
          have hg := hg.k (oq _ (by omega))
          have hh := hh.k (oq _ (by omega))
          have hf := hnew
          clear hnew oq hz1
          refine lv_iinc (v := iI ((((28 * j + r) : Nat) : Int) - 1)) (lv' := [(5, .int (iI ((((28 * j + r) : Nat) : Int) - 1))), (8, .int (iI (((64) * ((a : Int))) + ((j : Int))))), (7, .int (iI (0))), (0, .ref (r0)), (1, .int (iI ((a : Int)))), (2, .int (iI ((b : Int)))), (3, .int (iI (q.sign))), (4, .int (iI ((n : Int))))]) hx hb dX10_over_244 hl (k := 7) rfl (by show iI _ + iI _ = _; exact (iI_add _ _).trans (by first | rfl | (congr 1; omega))) (by decide) rfl (fun ls hl => ?_)
          refine lv_goto (tgt := 38) hx hb dX10_over_247 (by decide) ?_
          have hD2 : DG (ud f1 (64 * a + j) (bd (mq (u.natAbs / v.natAbs) u.natAbs (28 * j + r)) j : Int)) a (mq (u.natAbs / v.natAbs) u.natAbs (28 * j + r)) n := fun c hc => by
            by_cases e : c = j
            · subst e; exact ud_s _ _ _
            · rw [ud_n _ _ (by omega), ← mq_o hr28 e]; exact hD c hc
          have ho2 : Oth a f1 g1 h1 (ud f1 (64 * a + j) (bd (mq (u.natAbs / v.natAbs) u.natAbs (28 * j + r)) j : Int)) g1 h1 := Oth.f (ud_o (by omega) (fun _ _ => rfl))
          exact ih _ _ _ _ _ _ (by omega) hD2 hg1 (h52.oth ho2 (fun e => ha4 e.symm)) (hKp.o2 ho2) hO hf hg hh hS (lv_sub hl [3, 4, 5, 6, 7, 0] rfl)
        · have hfit : v.natAbs ≤ (2 * (rr u.natAbs v.natAbs (28 * j + r + 1)) + u.natAbs / 2 ^ (28 * j + r) % 2) := cz_pos.mp (by omega)
          have hqb : (u.natAbs / v.natAbs).testBit (28 * j + r) = true := hst2.trans (decide_eq_true hfit)
          refine pw_iconst hx hb dX10_over_159 ?_
          refine lv_goto (tgt := 164) hx hb dX10_over_160 (by decide) ?_
          refine lv_istore (lv' := [(7, .int (iI (1))), (0, .ref (r0)), (1, .int (iI ((a : Int)))), (2, .int (iI ((b : Int)))), (3, .int (iI (q.sign))), (4, .int (iI ((n : Int)))), (5, .int (iI (((28 * j + r + 1 : Nat) : Int) - 1)))]) hx hb dX10_over_164 hl (by decide) rfl (fun ls hl => ?_)
          refine lv_iload hx hb dX10_over_166 (lv_at hl 0 rfl) ?_
          refine pw_if_eq (tgt := 185) hx hb dX10_over_168 (by decide) (fun c_168 => absurd c_168 (by omega)) (fun c_168 => ?_)
          refine lv_aload_n hx hb dX10_over_171 rfl (lv_at hl 1 rfl) ?_
          refine pw_bipush hx hb dX10_over_172 ?_
          refine lv_iload_n hx hb dX10_over_174 rfl (lv_at hl 3 rfl) ?_
          refine lv_aload_n hx hb dX10_over_175 rfl (lv_at hl 1 rfl) ?_
          refine pw_get (C := RX10) (T := TX10) (N := 20) hx hb hts hin10 hown hK hO rfl 15 (by decide) lk_44 rfl rfl dX10_over_176 ?_
          refine lv_iload_n hx hb dX10_over_179 rfl (lv_at hl 3 rfl) ?_
          refine pw_iald hx hb hK hh (b) rfl (by omega) (by omega) dX10_over_180 ?_
          refine pw_asi (1) (hB1.choose_spec.2.2.2.trans hsv) ?_
          refine pw_ineg hx hb dX10_over_181 ?_
          refine pw_callVv (As := [.int (iI (52)), .int (iI ((b : Int))), .int (iI (-(1)))]) (rest := []) ⟨hx, hb, hml, hown, hts⟩ (r_plus l D E r0 o f1 g1 h1 52 b (((2 * (rr u.natAbs v.natAbs (28 * j + r + 1)) + u.natAbs / 2 ^ (28 * j + r) % 2) : Nat) : Int) v (-1) (by omega) hb0 hb4 (Or.inr rfl) h52 hB1 (by show (2 * (rr u.natAbs v.natAbs (28 * j + r + 1)) + u.natAbs / 2 ^ (28 * j + r) % 2) < _; omega) (by omega)) (cwV 3 hts gX10_over_X10_plus rfl rfl rfl (by decide +kernel) ⟨Nat.le_of_ble_eq_true rfl, Nat.le_of_ble_eq_true rfl⟩) hK hO rfl ⟨hO, hf, hg, hh⟩ rfl hl.1 rfl (Nat.le_of_ble_eq_true rfl) dX10_over_182 ⟨Nat.zero_le _, Nat.zero_le _⟩ hS (fun q h => h) (fun H1 locs1 ⟨f2, g2, h2, ⟨hf, hg, hh⟩, h52, ho⟩ hz1 hk1 hS => ?_)
          have hO := hO.k (hk1 _ hO.lt (by (try dsimp only); omega))
          have hD : DG f2 a (mq (u.natAbs / v.natAbs) u.natAbs (28 * j + r + 1)) n := hD.oth (by omega) ha4 ho.1
          have hg1 : g2 a = (n : Int) := (ho.2 a ha4).1.trans hg1
          have hKp := hKp.o1 ho
          have h52 : Num f2 g2 h2 52 ((rr u.natAbs v.natAbs (28 * j + r) : Nat) : Int) := by
            have e : (((2 * (rr u.natAbs v.natAbs (28 * j + r + 1)) + u.natAbs / 2 ^ (28 * j + r) % 2) : Nat) : Int) + -1 * v = ((rr u.natAbs v.natAbs (28 * j + r) : Nat) : Int) := by rw [hst1, if_pos hfit]; omega
            rw [← e]; exact h52
          refine pw_bipush hx hb dX10_over_185 ?_
          refine lv_iload_n hx hb dX10_over_187 rfl (lv_at hl 2 rfl) ?_
          refine pw_imul hx hb dX10_over_188 ?_
          refine lv_iload hx hb dX10_over_189 (lv_at hl 6 rfl) ?_
          refine pw_asi ((((28 * j + r) : Nat) : Int)) (by omega) ?_
          refine pw_bipush hx hb dX10_over_191 ?_
          refine pw_idiv hx hb dX10_over_193 (by omega) ?_
          refine pw_asi ((j : Int)) (by show (((28 * j + r) / 28 : Nat) : Int) = (j : Int); omega) ?_
          refine pw_iadd hx hb dX10_over_194 ?_
          refine lv_istore (lv' := [(8, .int (iI (((64) * ((a : Int))) + ((j : Int))))), (7, .int (iI (1))), (0, .ref (r0)), (1, .int (iI ((a : Int)))), (2, .int (iI ((b : Int)))), (3, .int (iI (q.sign))), (4, .int (iI ((n : Int)))), (5, .int (iI (((28 * j + r + 1 : Nat) : Int) - 1)))]) hx hb dX10_over_195 hl (by decide) rfl (fun ls hl => ?_)
          refine lv_aload_n hx hb dX10_over_197 rfl (lv_at hl 2 rfl) ?_
          refine pw_get (C := RX10) (T := TX10) (N := 20) hx hb hts hin10 hown hK hO rfl 13 (by decide) lk_38 rfl rfl dX10_over_198 ?_
          refine lv_iload hx hb dX10_over_201 (lv_at hl 0 rfl) ?_
          refine lv_iload hx hb dX10_over_203 (lv_at hl 1 rfl) ?_
          refine pw_if_eq (tgt := 226) hx hb dX10_over_205 (by decide) (fun c_205 => absurd c_205 (by omega)) (fun c_205 => ?_)
          refine lv_aload_n hx hb dX10_over_208 rfl (lv_at hl 2 rfl) ?_
          refine pw_get (C := RX10) (T := TX10) (N := 20) hx hb hts hin10 hown hK hO rfl 13 (by decide) lk_38 rfl rfl dX10_over_209 ?_
          refine lv_iload hx hb dX10_over_212 (lv_at hl 0 rfl) ?_
          refine pw_iald hx hb hK hf (64 * a + j) (by omega) (by omega) (by omega) dX10_over_214 ?_
          refine pw_asi ((bd (mq (u.natAbs / v.natAbs) u.natAbs (28 * j + r + 1)) j : Int)) (hD j hjn) ?_
          refine pw_iconst hx hb dX10_over_215 ?_
          refine lv_iload hx hb dX10_over_216 (lv_at hl 7 rfl) ?_
          refine pw_asi ((((28 * j + r) : Nat) : Int)) (by omega) ?_
          refine pw_bipush hx hb dX10_over_218 ?_
          refine pw_irem hx hb dX10_over_220 (by omega) ?_
          refine pw_asi ((r : Int)) (by show (((28 * j + r) % 28 : Nat) : Int) = (r : Int); omega) ?_
          refine lv_ishl hx hb dX10_over_221 ?_
          refine pw_eqi (((2 ^ r : Nat) : Int)) (j_ishl (by omega)) ?_
          refine lv_ior hx hb dX10_over_222 ?_
          refine pw_eqi (((bd (mq (u.natAbs / v.natAbs) u.natAbs (28 * j + r + 1)) j ||| 2 ^ r : Nat) : Int)) (j_ior _ _) ?_
          refine pw_asi ((bd (mq (u.natAbs / v.natAbs) u.natAbs (28 * j + r)) j : Int)) (by rw [mq_1 hr28 hqb]) ?_
          refine lv_goto (tgt := 243) hx hb dX10_over_223 (by decide) ?_
          refine pw_iast hx hb hK hf hS (Or.inl rfl) (64 * a + j) (by omega) (by omega) (by omega) dX10_over_243 (fun H1 locs1 hnew hz1 oq hS => ?_)
          have hO := hO.k (oq _ (by omega))
          have hg := hg.k (oq _ (by omega))
          have hh := hh.k (oq _ (by omega))
          have hf := hnew
          clear hnew oq hz1
          refine lv_iinc (v := iI ((((28 * j + r) : Nat) : Int) - 1)) (lv' := [(5, .int (iI ((((28 * j + r) : Nat) : Int) - 1))), (8, .int (iI (((64) * ((a : Int))) + ((j : Int))))), (7, .int (iI (1))), (0, .ref (r0)), (1, .int (iI ((a : Int)))), (2, .int (iI ((b : Int)))), (3, .int (iI (q.sign))), (4, .int (iI ((n : Int))))]) hx hb dX10_over_244 hl (k := 7) rfl (by show iI _ + iI _ = _; exact (iI_add _ _).trans (by first | rfl | (congr 1; omega))) (by decide) rfl (fun ls hl => ?_)
          refine lv_goto (tgt := 38) hx hb dX10_over_247 (by decide) ?_
          have hD2 : DG (ud f2 (64 * a + j) (bd (mq (u.natAbs / v.natAbs) u.natAbs (28 * j + r)) j : Int)) a (mq (u.natAbs / v.natAbs) u.natAbs (28 * j + r)) n := fun c hc => by
            by_cases e : c = j
            · subst e; exact ud_s _ _ _
            · rw [ud_n _ _ (by omega), ← mq_o hr28 e]; exact hD c hc
          have ho2 : Oth a f2 g2 h2 (ud f2 (64 * a + j) (bd (mq (u.natAbs / v.natAbs) u.natAbs (28 * j + r)) j : Int)) g2 h2 := Oth.f (ud_o (by omega) (fun _ _ => rfl))
          exact ih _ _ _ _ _ _ (by omega) hD2 hg1 (h52.oth ho2 (fun e => ha4 e.symm)) (hKp.o2 ho2) hO hf hg hh hS (lv_sub hl [3, 4, 5, 6, 7, 0] rfl)
      refine lv_iload hx hb dX10_over_38 (lv_at hl 5 rfl) ?_
      refine pw_if_lt (tgt := 250) hx hb dX10_over_40 (by decide) (fun c_40 => absurd c_40 (by omega)) (fun c_40 => ?_)
      refine lv_aload_n hx hb dX10_over_43 rfl (lv_at hl 0 rfl) ?_
      refine pw_bipush hx hb dX10_over_44 ?_
      refine pw_iconst hx hb dX10_over_46 ?_
      refine pw_callVv (As := [.int (iI (52)), .int (iI (2))]) (rest := []) ⟨hx, hb, hml, hown, hts⟩ (r_times l D E r0 o f1 g1 h1 52 ((rr u.natAbs v.natAbs (28 * j + r + 1)) : Int) 2 (by omega) (by omega) (by omega) h52 (by rw [Int.natAbs_mul]; show (rr u.natAbs v.natAbs (28 * j + r + 1)) * 2 < _; omega)) (cwV 2 hts gX10_over_X10_times rfl rfl rfl (by decide +kernel) ⟨Nat.le_of_ble_eq_true rfl, Nat.le_of_ble_eq_true rfl⟩) hK hO rfl ⟨hO, hf, hg, hh⟩ rfl hl.1 rfl (Nat.le_of_ble_eq_true rfl) dX10_over_47 ⟨Nat.zero_le _, Nat.zero_le _⟩ hS (fun q h => h) (fun H1 locs1 ⟨f2, g2, h2, ⟨hf, hg, hh⟩, h52, ho⟩ hz1 hk1 hS => ?_)
      have hO := hO.k (hk1 _ hO.lt (by (try dsimp only); omega))
      have hD : DG f2 a (mq (u.natAbs / v.natAbs) u.natAbs (28 * j + r + 1)) n := hD.oth (by omega) ha4 ho.1
      have hg1 : g2 a = (n : Int) := (ho.2 a ha4).1.trans hg1
      have hKp := hKp.o1 ho
      have h52 : Num f2 g2 h2 52 ((2 * (rr u.natAbs v.natAbs (28 * j + r + 1)) : Nat) : Int) := by
        have e : ((rr u.natAbs v.natAbs (28 * j + r + 1)) : Int) * 2 = ((2 * (rr u.natAbs v.natAbs (28 * j + r + 1)) : Nat) : Int) := by omega
        rw [← e]; exact h52
      obtain ⟨n4, hrk4, hg4, hD4, hs4⟩ := id h52
      have hrk4 : rk (2 * (rr u.natAbs v.natAbs (28 * j + r + 1))) n4 := hrk4
      have hD4 : DG f2 52 (2 * (rr u.natAbs v.natAbs (28 * j + r + 1))) n4 := hD4
      have hn4 := hrk4.1
      have hbd4 := bd_lt (mq (u.natAbs / v.natAbs) u.natAbs (28 * j + r + 1)) j
      refine lv_aload_n hx hb dX10_over_50 rfl (lv_at hl 0 rfl) ?_
      refine pw_get (C := RX10) (T := TX10) (N := 20) hx hb hts hin10 hown hK hO rfl 13 (by decide) lk_38 rfl rfl dX10_over_51 ?_
      refine pw_bipush hx hb dX10_over_54 ?_
      refine lv_iload_n hx hb dX10_over_56 rfl (lv_at hl 1 rfl) ?_
      refine pw_imul hx hb dX10_over_57 ?_
      refine lv_iload hx hb dX10_over_58 (lv_at hl 5 rfl) ?_
      refine pw_asi ((((28 * j + r) : Nat) : Int)) (by omega) ?_
      refine pw_bipush hx hb dX10_over_60 ?_
      refine pw_idiv hx hb dX10_over_62 (by omega) ?_
      refine pw_asi ((j : Int)) (by show (((28 * j + r) / 28 : Nat) : Int) = (j : Int); omega) ?_
      refine pw_iadd hx hb dX10_over_63 ?_
      refine pw_iald hx hb hK hf (64 * a + j) (by omega) (by omega) (by omega) dX10_over_64 ?_
      refine pw_asi ((bd (mq (u.natAbs / v.natAbs) u.natAbs (28 * j + r + 1)) j : Int)) (hD j hjn) ?_
      refine lv_iload hx hb dX10_over_65 (lv_at hl 5 rfl) ?_
      refine pw_asi ((((28 * j + r) : Nat) : Int)) (by omega) ?_
      refine pw_bipush hx hb dX10_over_67 ?_
      refine pw_irem hx hb dX10_over_69 (by omega) ?_
      refine pw_asi ((r : Int)) (by show (((28 * j + r) % 28 : Nat) : Int) = (r : Int); omega) ?_
      refine lv_ishr hx hb dX10_over_70 ?_
      refine pw_eqi (((bd (mq (u.natAbs / v.natAbs) u.natAbs (28 * j + r + 1)) j / 2 ^ r : Nat) : Int)) (j_ishr (by omega) (by omega)) ?_
      refine pw_iconst hx hb dX10_over_71 ?_
      refine lv_iand hx hb dX10_over_72 ?_
      refine pw_eqi (((bd (mq (u.natAbs / v.natAbs) u.natAbs (28 * j + r + 1)) j / 2 ^ r % 2 : Nat) : Int)) (j_and1 _) ?_
      refine pw_asi (((u.natAbs / 2 ^ (28 * j + r) % 2 : Nat) : Int)) (by rw [mq_x hr28]) ?_
      refine lv_istore (lv' := [(6, .int (iI (((u.natAbs / 2 ^ (28 * j + r) % 2 : Nat) : Int)))), (0, .ref (r0)), (1, .int (iI ((a : Int)))), (2, .int (iI ((b : Int)))), (3, .int (iI (q.sign))), (4, .int (iI ((n : Int)))), (5, .int (iI (((28 * j + r + 1 : Nat) : Int) - 1)))]) hx hb dX10_over_73 hl (by decide) rfl (fun ls hl => ?_)
      refine lv_iload hx hb dX10_over_75 (lv_at hl 0 rfl) ?_
      refine pw_iconst hx hb dX10_over_77 ?_
      refine pw_icmp_ne (tgt := 149) hx hb dX10_over_78 (by decide) (fun c_78 => ?_) (fun c_78 => ?_)
      · have h52 : Num f2 g2 h2 52 (((2 * (rr u.natAbs v.natAbs (28 * j + r + 1)) + u.natAbs / 2 ^ (28 * j + r) % 2) : Nat) : Int) := by rw [show u.natAbs / 2 ^ (28 * j + r) % 2 = 0 by omega]; exact h52
        exact k149 f2 g2 h2 _ _ _ hD hg1 h52 hKp hO hf hg hh hS (lv_sub hl [1, 2, 3, 4, 5, 6] rfl)
      · refine lv_aload_n hx hb dX10_over_81 rfl (lv_at hl 1 rfl) ?_
        refine pw_get (C := RX10) (T := TX10) (N := 20) hx hb hts hin10 hown hK hO rfl 13 (by decide) lk_38 rfl rfl dX10_over_82 ?_
        refine pw_sipush hx hb dX10_over_85 ?_
        refine lv_aload_n hx hb dX10_over_88 rfl (lv_at hl 1 rfl) ?_
        refine pw_get (C := RX10) (T := TX10) (N := 20) hx hb hts hin10 hown hK hO rfl 14 (by decide) lk_41 rfl rfl dX10_over_89 ?_
        refine pw_bipush hx hb dX10_over_92 ?_
        refine pw_iald hx hb hK hg (52) rfl (by omega) (by omega) dX10_over_94 ?_
        refine pw_asi ((n4 : Int)) hg4 ?_
        refine pw_if_ne (tgt := 102) hx hb dX10_over_95 (by decide) (fun c_95 => ?_) (fun c_95 => ?_)
        · refine lv_aload_n hx hb dX10_over_102 rfl (lv_at hl 1 rfl) ?_
          refine pw_get (C := RX10) (T := TX10) (N := 20) hx hb hts hin10 hown hK hO rfl 13 (by decide) lk_38 rfl rfl dX10_over_103 ?_
          refine pw_sipush hx hb dX10_over_106 ?_
          refine pw_iald hx hb hK hf (3328) rfl (by omega) (by omega) dX10_over_109 ?_
          refine pw_asi (((2 * ((rr u.natAbs v.natAbs (28 * j + r + 1)) % 134217728) : Nat) : Int)) (by have e := hD4 0 (by omega); rw [bd_0e] at e; exact e.trans (by omega)) ?_
          refine pw_iconst hx hb dX10_over_110 ?_
          refine lv_ior hx hb dX10_over_111 ?_
          refine pw_eqi (((2 * ((rr u.natAbs v.natAbs (28 * j + r + 1)) % 134217728) ||| 1 : Nat) : Int)) (j_ior _ 1) ?_
          refine pw_asi ((bd (2 * (rr u.natAbs v.natAbs (28 * j + r + 1)) + 1) 0 : Int)) (by rw [or_one, bd_0e]; omega) ?_
          refine pw_iast hx hb hK hf hS (Or.inl rfl) (3328) rfl (by omega) (by omega) dX10_over_112 (fun H1 locs1 hnew hz1 oq hS => ?_)
          have hO := hO.k (oq _ (by omega))
          have hg := hg.k (oq _ (by omega))
          have hh := hh.k (oq _ (by omega))
          have hf := hnew
          clear hnew oq hz1
          refine lv_aload_n hx hb dX10_over_113 rfl (lv_at hl 1 rfl) ?_
          refine pw_get (C := RX10) (T := TX10) (N := 20) hx hb hts hin10 hown hK hO rfl 14 (by decide) lk_41 rfl rfl dX10_over_114 ?_
          refine pw_bipush hx hb dX10_over_117 ?_
          refine lv_aload_n hx hb dX10_over_119 rfl (lv_at hl 1 rfl) ?_
          refine pw_get (C := RX10) (T := TX10) (N := 20) hx hb hts hin10 hown hK hO rfl 14 (by decide) lk_41 rfl rfl dX10_over_120 ?_
          refine pw_bipush hx hb dX10_over_123 ?_
          refine pw_iald hx hb hK hg (52) rfl (by omega) (by omega) dX10_over_125 ?_
          refine pw_asi ((n4 : Int)) hg4 ?_
          refine pw_if_ne (tgt := 133) hx hb dX10_over_126 (by decide) (fun c_126 => ?_) (fun c_126 => absurd c_126 (by omega))
          refine lv_aload_n hx hb dX10_over_133 rfl (lv_at hl 1 rfl) ?_
          refine pw_get (C := RX10) (T := TX10) (N := 20) hx hb hts hin10 hown hK hO rfl 14 (by decide) lk_41 rfl rfl dX10_over_134 ?_
          refine pw_bipush hx hb dX10_over_137 ?_
          refine pw_iald hx hb hK hg (52) rfl (by omega) (by omega) dX10_over_139 ?_
          refine pw_asi ((n4 : Int)) hg4 ?_
          refine pw_iast hx hb hK hg hS (Or.inr (Or.inl rfl)) (52) rfl (by omega) (by omega) dX10_over_140 (fun H1 locs1 hnew hz1 oq hS => ?_)
          have hO := hO.k (oq _ (by omega))
          have hf := hf.k (oq _ (by omega))
          have hh := hh.k (oq _ (by omega))
          have hg := hnew
          clear hnew oq hz1
          refine lv_aload_n hx hb dX10_over_141 rfl (lv_at hl 1 rfl) ?_
          refine pw_get (C := RX10) (T := TX10) (N := 20) hx hb hts hin10 hown hK hO rfl 15 (by decide) lk_44 rfl rfl dX10_over_142 ?_
          refine pw_bipush hx hb dX10_over_145 ?_
          refine pw_iconst hx hb dX10_over_147 ?_
          refine pw_iast hx hb hK hh hS (Or.inr (Or.inr rfl)) (52) rfl (by omega) (by omega) dX10_over_148 (fun H1 locs1 hnew hz1 oq hS => ?_)
          have hO := hO.k (oq _ (by omega))
          have hf := hf.k (oq _ (by omega))
          have hg := hg.k (oq _ (by omega))
          have hh := hnew
          clear hnew oq hz1
          have ho3 : Oth 52 f2 g2 h2 (ud f2 3328 (bd (2 * (rr u.natAbs v.natAbs (28 * j + r + 1)) + 1) 0 : Int)) (ud g2 52 (n4 : Int)) (ud h2 52 1) := ⟨fun c hc => ud_n _ _ (by omega), fun c hc => ⟨ud_n _ _ hc, ud_n _ _ hc⟩⟩
          have h52 : Num (ud f2 3328 (bd (2 * (rr u.natAbs v.natAbs (28 * j + r + 1)) + 1) 0 : Int)) (ud g2 52 (n4 : Int)) (ud h2 52 1) 52 (((2 * (rr u.natAbs v.natAbs (28 * j + r + 1)) + u.natAbs / 2 ^ (28 * j + r) % 2) : Nat) : Int) := by rw [show u.natAbs / 2 ^ (28 * j + r) % 2 = 1 by omega]; exact num_inc hrk4 hD4 (by omega) hg4
          exact k149 _ _ _ _ _ _ (hD.oth (by omega) ha4 ho3.1) ((ho3.2 a ha4).1.trans hg1) h52 (hKp.o1 ho3) hO hf hg hh hS (lv_sub hl [1, 2, 3, 4, 5, 6] rfl)
        · refine pw_iconst hx hb dX10_over_98 ?_
          refine lv_goto (tgt := 112) hx hb dX10_over_99 (by decide) ?_
          refine pw_iast hx hb hK hf hS (Or.inl rfl) (3328) rfl (by omega) (by omega) dX10_over_112 (fun H1 locs1 hnew hz1 oq hS => ?_)
          have hO := hO.k (oq _ (by omega))
          have hg := hg.k (oq _ (by omega))
          have hh := hh.k (oq _ (by omega))
          have hf := hnew
          clear hnew oq hz1
          refine lv_aload_n hx hb dX10_over_113 rfl (lv_at hl 1 rfl) ?_
          refine pw_get (C := RX10) (T := TX10) (N := 20) hx hb hts hin10 hown hK hO rfl 14 (by decide) lk_41 rfl rfl dX10_over_114 ?_
          refine pw_bipush hx hb dX10_over_117 ?_
          refine lv_aload_n hx hb dX10_over_119 rfl (lv_at hl 1 rfl) ?_
          refine pw_get (C := RX10) (T := TX10) (N := 20) hx hb hts hin10 hown hK hO rfl 14 (by decide) lk_41 rfl rfl dX10_over_120 ?_
          refine pw_bipush hx hb dX10_over_123 ?_
          refine pw_iald hx hb hK hg (52) rfl (by omega) (by omega) dX10_over_125 ?_
          refine pw_asi ((n4 : Int)) hg4 ?_
          refine pw_if_ne (tgt := 133) hx hb dX10_over_126 (by decide) (fun c_126 => absurd c_126 (by omega)) (fun c_126 => ?_)
          refine pw_iconst hx hb dX10_over_129 ?_
          refine lv_goto (tgt := 140) hx hb dX10_over_130 (by decide) ?_
          refine pw_iast hx hb hK hg hS (Or.inr (Or.inl rfl)) (52) rfl (by omega) (by omega) dX10_over_140 (fun H1 locs1 hnew hz1 oq hS => ?_)
          have hO := hO.k (oq _ (by omega))
          have hf := hf.k (oq _ (by omega))
          have hh := hh.k (oq _ (by omega))
          have hg := hnew
          clear hnew oq hz1
          refine lv_aload_n hx hb dX10_over_141 rfl (lv_at hl 1 rfl) ?_
          refine pw_get (C := RX10) (T := TX10) (N := 20) hx hb hts hin10 hown hK hO rfl 15 (by decide) lk_44 rfl rfl dX10_over_142 ?_
          refine pw_bipush hx hb dX10_over_145 ?_
          refine pw_iconst hx hb dX10_over_147 ?_
          refine pw_iast hx hb hK hh hS (Or.inr (Or.inr rfl)) (52) rfl (by omega) (by omega) dX10_over_148 (fun H1 locs1 hnew hz1 oq hS => ?_)
          have hO := hO.k (oq _ (by omega))
          have hf := hf.k (oq _ (by omega))
          have hg := hg.k (oq _ (by omega))
          have hh := hnew
          clear hnew oq hz1
          have ho3 : Oth 52 f2 g2 h2 (ud f2 3328 1) (ud g2 52 1) (ud h2 52 1) := ⟨fun c hc => ud_n _ _ (by omega), fun c hc => ⟨ud_n _ _ hc, ud_n _ _ hc⟩⟩
          have h52 : Num (ud f2 3328 1) (ud g2 52 1) (ud h2 52 1) 52 (((2 * (rr u.natAbs v.natAbs (28 * j + r + 1)) + u.natAbs / 2 ^ (28 * j + r) % 2) : Nat) : Int) := by rw [show u.natAbs / 2 ^ (28 * j + r) % 2 = 1 by omega]; exact num_one (by have := (rk_z hrk4).mp (by omega); omega)
          exact k149 _ _ _ _ _ _ (hD.oth (by omega) ha4 ho3.1) ((ho3.2 a ha4).1.trans hg1) h52 (hKp.o1 ho3) hO hf hg hh hS (lv_sub hl [1, 2, 3, 4, 5, 6] rfl)
  refine lv_aload_n hx hb dX10_over_0 rfl (lv_at hl 0 rfl) ?_
  refine pw_get (C := RX10) (T := TX10) (N := 20) hx hb hts hin10 hown hK hO rfl 15 (by decide) lk_44 rfl rfl dX10_over_1 ?_
  refine lv_iload_n hx hb dX10_over_4 rfl (lv_at hl 1 rfl) ?_
  refine pw_iald hx hb hK hh (a) rfl (by omega) (by omega) dX10_over_5 ?_
  refine pw_asi (q.sign) (hsa.trans hsq) ?_
  refine lv_aload_n hx hb dX10_over_6 rfl (lv_at hl 0 rfl) ?_
  refine pw_get (C := RX10) (T := TX10) (N := 20) hx hb hts hin10 hown hK hO rfl 15 (by decide) lk_44 rfl rfl dX10_over_7 ?_
  refine lv_iload_n hx hb dX10_over_10 rfl (lv_at hl 2 rfl) ?_
  refine pw_iald hx hb hK hh (b) rfl (by omega) (by omega) dX10_over_11 ?_
  refine pw_asi (1) (hB.choose_spec.2.2.2.trans hsv) ?_
  refine pw_imul hx hb dX10_over_12 ?_
  refine pw_asi (q.sign) (by omega) ?_
  refine lv_istore_n (lv' := [(3, .int (iI (q.sign))), (0, .ref (r0)), (1, .int (iI ((a : Int)))), (2, .int (iI ((b : Int))))]) hx hb dX10_over_13 rfl hl (by decide) rfl (fun ls hl => ?_)
  refine lv_aload_n hx hb dX10_over_14 rfl (lv_at hl 1 rfl) ?_
  refine pw_get (C := RX10) (T := TX10) (N := 20) hx hb hts hin10 hown hK hO rfl 14 (by decide) lk_41 rfl rfl dX10_over_15 ?_
  refine lv_iload_n hx hb dX10_over_18 rfl (lv_at hl 2 rfl) ?_
  refine pw_iald hx hb hK hg (a) rfl (by omega) (by omega) dX10_over_19 ?_
  refine pw_asi ((n : Int)) hga ?_
  refine lv_istore (lv' := [(4, .int (iI ((n : Int)))), (3, .int (iI (q.sign))), (0, .ref (r0)), (1, .int (iI ((a : Int)))), (2, .int (iI ((b : Int))))]) hx hb dX10_over_20 hl (by decide) rfl (fun ls hl => ?_)
  refine lv_aload_n hx hb dX10_over_22 rfl (lv_at hl 2 rfl) ?_
  refine pw_bipush hx hb dX10_over_23 ?_
  refine pw_lconst (z := 0) hx hb dX10_over_25 ?_
  refine pw_callVv (As := [.int (iI (52)), .long (lI (0))]) (rest := []) ⟨hx, hb, hml, hown, hts⟩ (r_setSmall l D E r0 o f g h 52 0 (by omega) (by omega) (by omega)) (cwV 2 hts gX10_over_X10_setSmall rfl rfl rfl (by decide +kernel) ⟨Nat.le_of_ble_eq_true rfl, Nat.le_of_ble_eq_true rfl⟩) hK hO rfl ⟨hO, hf, hg, hh⟩ rfl hl.1 rfl (Nat.le_of_ble_eq_true rfl) dX10_over_26 ⟨Nat.zero_le _, Nat.zero_le _⟩ hS (fun q h => h) (fun H1 locs1 ⟨f1, g1, h1, ⟨hf, hg, hh⟩, h52, ho⟩ hz1 hk1 hS => ?_)
  have hO := hO.k (hk1 _ hO.lt (by (try dsimp only); omega))
  have hDn : DG f1 a (mq (u.natAbs / v.natAbs) u.natAbs (28 * n)) n := by rw [mq_top hQn hXn]; exact DG.oth hDa hn ha4 ho.1
  have h52n : Num f1 g1 h1 52 ((rr u.natAbs v.natAbs (28 * n)) : Int) := by rw [rr_0 hXn]; exact h52
  refine pw_bipush hx hb dX10_over_29 ?_
  refine lv_iload hx hb dX10_over_31 (lv_at hl 0 rfl) ?_
  refine pw_imul hx hb dX10_over_33 ?_
  refine pw_asi (((28 * n : Nat) : Int)) (by omega) ?_
  refine pw_iconst hx hb dX10_over_34 ?_
  refine pw_isub hx hb dX10_over_35 ?_
  refine lv_istore (lv' := [(5, .int (iI ((((28 * n : Nat) : Int)) - (1)))), (4, .int (iI ((n : Int)))), (3, .int (iI (q.sign))), (0, .ref (r0)), (1, .int (iI ((a : Int)))), (2, .int (iI ((b : Int))))]) hx hb dX10_over_36 hl (by decide) rfl (fun ls hl => ?_)
  exact loop (28 * n) f1 g1 h1 _ _ _ (Nat.le_refl _) hDn ((ho.2 a ha4).1.trans hga) h52n (Kp.rf.o1 ho) hO hf hg hh hS (lv_sub hl [3, 4, 5, 2, 1, 0] rfl)
