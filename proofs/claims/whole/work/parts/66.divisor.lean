/-! the reference: all numbers at once; the greatest common divisor -/
def BN (E : Nat → ClassId) (r0 : Nat) (vs : Nat → Int) (H : Heap) : Prop := ∃ f g h, NA E r0 f g h H ∧ ∀ c, c < 80 → Num f g h c (vs c)
theorem num_at {f g h : Nat → Int} {a : Nat} {w v : Int} (x : Num f g h a w) (e : w = v) : Num f g h a v := e ▸ x
theorem num_sg {f g h : Nat → Int} {a : Nat} {v : Int} (x : Num f g h a v) : h a = v.sign := x.choose_spec.2.2.2
theorem num_d0 {f g h : Nat → Int} {a x : Nat} (hx : Num f g h a (x : Int)) (h0 : x ≠ 0) : f (64 * a) = ((x % 268435456 : Nat) : Int) := by
  obtain ⟨n, h1, h2, h3, h4⟩ := hx
  have hn : n ≠ 0 := fun e => h0 ((rk_z h1).mp e)
  have := h3 0 (by omega)
  rw [bd_0e] at this
  exact this
theorem sgn_min (x : Nat) : ((x : Int)).sign = min (x : Int) 1 := by
  rcases Nat.eq_zero_or_pos x with h | h
  · subst h; rfl
  · rw [Int.sign_eq_one_of_pos (by omega)]; omega
theorem bn_np {f g h f' g' h' vs : Nat → Int} {a : Nat} {v : Int} (hN : ∀ c, c < 80 → Num f g h c (vs c)) (ha : Num f' g' h' a v) (ho : Oth a f g h f' g' h') : ∃ vs' : Nat → Int, vs' a = v ∧ (∀ c, c ≠ a → vs' c = vs c) ∧ ∀ c, c < 80 → Num f' g' h' c (vs' c) :=
  ⟨ud vs a v, ud_s _ _ _, fun c hc => ud_n _ _ hc, fun c hc => by
    by_cases e : c = a
    · subst e; rw [ud_s]; exact ha
    · rw [ud_n _ _ e]; exact (hN c hc).oth ho e⟩
theorem bn_nq {f g h f' g' h' vs : Nat → Int} {a : Nat} {v : Int} (hN : ∀ c, c < 80 → Num f g h c (vs c)) (ha : Num f' g' h' a v) (h4 : ∃ w, Num f' g' h' 52 w ∧ w.natAbs < 268435456 ^ 63) (ho : Kp a f g h f' g' h') : ∃ vs' : Nat → Int, vs' a = v ∧ (∀ c, c ≠ a → c ≠ 52 → vs' c = vs c) ∧ ∀ c, c < 80 → Num f' g' h' c (vs' c) := by
  obtain ⟨w, h4, h5⟩ := h4
  refine ⟨ud (ud vs 52 w) a v, ud_s _ _ _, fun c h1 h2 => by rw [ud_n _ _ h1, ud_n _ _ h2], fun c hc => ?_⟩
  by_cases e : c = a
  · subst e; rw [ud_s]; exact ha
  · rw [ud_n _ _ e]
    by_cases e2 : c = 52
    · subst e2; rw [ud_s]; exact h4
    · rw [ud_n _ _ e2]; exact ho c _ e e2 (hN c hc)
theorem gcd_ee {A B : Nat} (hA : A % 2 = 0) (hB : B % 2 = 0) : Nat.gcd A B = 2 * Nat.gcd (A / 2) (B / 2) := by
  obtain ⟨x, rfl⟩ : ∃ x, A = 2 * x := ⟨A / 2, by omega⟩
  obtain ⟨y, rfl⟩ : ∃ y, B = 2 * y := ⟨B / 2, by omega⟩
  rw [Nat.mul_div_cancel_left _ (by omega), Nat.mul_div_cancel_left _ (by omega), Nat.gcd_mul_left]
theorem gcd_eo {A B : Nat} (hA : A % 2 = 0) (hB : B % 2 = 1) : Nat.gcd (A / 2) B = Nat.gcd A B := by
  obtain ⟨x, rfl⟩ : ∃ x, A = 2 * x := ⟨A / 2, by omega⟩
  have hc : Nat.Coprime 2 B := by
    show Nat.gcd 2 B = 1
    rw [Nat.gcd_rec, hB]
    rfl
  rw [Nat.mul_div_cancel_left _ (by omega), hc.gcd_mul_left_cancel]
theorem gcd_oe {A B : Nat} (hA : A % 2 = 1) (hB : B % 2 = 0) : Nat.gcd A (B / 2) = Nat.gcd A B := by
  rw [Nat.gcd_comm, gcd_eo hB hA, Nat.gcd_comm]
theorem gcd_s1 {A B : Nat} (h : B ≤ A) : Nat.gcd B (A - B) = Nat.gcd A B := by
  rw [Nat.gcd_sub_self_right h, Nat.gcd_comm]
theorem tw_lt {G A tw : Nat} (h : G * 2 ^ tw ≤ A) (hG : 0 < G) (hA : A < 268435456 ^ 63) : tw < 1764 ∧ 2 ^ tw ≤ A := by
  have h1 : 2 ^ tw ≤ G * 2 ^ tw := Nat.le_mul_of_pos_left _ hG
  have h2 : 2 ^ tw < 2 ^ (28 * 63) := by rw [← bp2]; omega
  exact ⟨(Nat.pow_lt_pow_iff_right (by omega)).mp h2, by omega⟩
set_option maxHeartbeats 4000000 in
set_option maxRecDepth 100000 in
/-- divisor(a, b) -/
theorem r_divisor (l : Launch) (D : va_G) (E : Nat → ClassId) (r0 a b A B : Nat) (o vs0 : Nat → Int) (ha : a < 80) (hb0 : b < 80) (hab : a ≠ b) (ha4 : a ≠ 52) (hb4 : b ≠ 52) (hA0 : 0 < A) (hA63 : A < 268435456 ^ 63) (hB63 : B < 268435456 ^ 63) (hva : vs0 a = (A : Int)) (hvb : vs0 b = (B : Int)) : pw_M rvV l D E yX10_divisor wsX10_divisor ({ frames := 2, cells := 0, slots := 0, locals := 53 } : Room) [.ref (r0), .int (iI ((a : Int))), .int (iI ((b : Int)))] (fun H => RO D r0 o H ∧ BN E r0 vs0 H) (fun _ H => ∃ vs, BN E r0 vs H ∧ vs a = ((Nat.gcd A B : Nat) : Int) ∧ ∀ c, c ≠ a → c ≠ b → c ≠ 52 → vs c = vs0 c) (fun q => q = r0 + 8 ∨ q = r0 + 9 ∨ q = r0 + 10) (0) (0) := by
  refine pw_of (cc := cX10_divisor) (maxL := 5) (ret := none) (by decide +kernel) rfl (Nat.le_of_ble_eq_true rfl) ?_
  intro p e s m args below meth c hx hb hr hml hts hown hlocks hini hK ⟨hO, f, g, h, ⟨hf, hg, hh⟩, hN⟩ ls hl
  have hown : s.vm.findClass RX10 = some m.cls := hown
  have hl : lv_has ls 5 [(0, .ref (r0)), (1, .int (iI ((a : Int)))), (2, .int (iI ((b : Int))))] := hl
  have hS : va_S (fun q => q = r0 + 8 ∨ q = r0 + 9 ∨ q = r0 + 10) s.heap s.heap [] := va_S.rf
  have lk_38 := hts (.fieldLink RX10 38 "PolicyWorksModel" "limbs" "[I") (by decide +kernel)
  have lk_44 := hts (.fieldLink RX10 44 "PolicyWorksModel" "signs" "[I") (by decide +kernel)
  have hin10 : ∀ w ∈ wsX100, w ∈ wsX10_divisor := by decide +kernel
  have hG : 0 < Nat.gcd A B := Nat.gcd_pos_of_pos_left _ hA0
  have hGA : Nat.gcd A B ≤ A := Nat.le_of_dvd hA0 (Nat.gcd_dvd_left A B)
  have hvo : ∀ c, c ≠ a → c ≠ b → c ≠ 52 → vs0 c = vs0 c := fun _ _ _ _ => rfl
  have loop3 : ∀ (A1 tw kk i : Nat) (vs f g h : Nat → Int) (H : Heap) (locs : List Loc) (ls : Array Slot), A1 * 2 ^ tw = Nat.gcd A B → tw < 1764 → i + kk = tw → (∀ c, c < 80 → Num f g h c (vs c)) → vs a = ((A1 * 2 ^ i : Nat) : Int) → (∀ c, c ≠ a ∧ c ≠ b ∧ c ≠ 52 → vs (c) = vs0 c) → RO D r0 o H → IA E (r0 + 8) 5120 f H → IA E (r0 + 9) 80 g H → IA E (r0 + 10) 80 h H → va_S (fun q => q = r0 + 8 ∨ q = r0 + 9 ∨ q = r0 + 10) s.heap H locs → lv_has ls 5 [(0, .ref (r0)), (1, .int (iI ((a : Int)))), (2, .int (iI ((b : Int)))), (3, .int (iI ((tw : Int)))), (4, .int (iI ((i : Int))))] → W p l e ({ frames := 2, cells := 0, slots := 0, locals := 53 } : Room) s m args below meth c H locs (0) (0) (MQ below (pw_Q rvV (fun _ H => ∃ vs, BN E r0 vs H ∧ vs a = ((Nat.gcd A B : Nat) : Int) ∧ ∀ c, c ≠ a → c ≠ b → c ≠ 52 → vs c = vs0 c) (fun q => q = r0 + 8 ∨ q = r0 + 9 ∨ q = r0 + 10)) args s (0) (0) (fun q => q = r0 + 8 ∨ q = r0 + 9 ∨ q = r0 + 10)) (F0 m 213 ls []) := by
    intro A1 tw kk
    induction kk with
    | zero =>
      intro i vs f g h H locs ls hG1 htw hi hN hva hvc hO hf hg hh hS hl
      have ei : i = tw := by omega
      subst ei
      refine lv_iload hx hb dX10_divisor_213 (lv_at hl 4 rfl) ?_
      refine lv_iload_n hx hb dX10_divisor_215 rfl (lv_at hl 3 rfl) ?_
      refine pw_icmp_ge (tgt := 231) hx hb dX10_divisor_216 (by decide) (fun c_216 => ?_) (fun c_216 => absurd c_216 (by omega))
      exact pw_vret hx hb hr hlocks hS ⟨vs, ⟨f, g, h, ⟨hf, hg, hh⟩, hN⟩, by rw [hva, hG1], fun c h1 h2 h3 => hvc c ⟨h1, h2, h3⟩⟩ dX10_divisor_231
    | succ kk ih =>
      intro i vs f g h H locs ls hG1 htw hi hN hva hvc hO hf hg hh hS hl
      have hpi : A1 * 2 ^ (i + 1) ≤ A1 * 2 ^ tw := Nat.mul_le_mul_left _ (Nat.pow_le_pow_right (by omega) (by omega))
      have hp2 : A1 * 2 ^ (i + 1) = A1 * 2 ^ i * 2 := by rw [Nat.pow_succ, Nat.mul_assoc]
      have h6364 := rb_s 63
      refine lv_iload hx hb dX10_divisor_213 (lv_at hl 4 rfl) ?_
      refine lv_iload_n hx hb dX10_divisor_215 rfl (lv_at hl 3 rfl) ?_
      refine pw_icmp_ge (tgt := 231) hx hb dX10_divisor_216 (by decide) (fun c_216 => absurd c_216 (by omega)) (fun c_216 => ?_)
      refine lv_aload_n hx hb dX10_divisor_219 rfl (lv_at hl 0 rfl) ?_
      refine lv_iload_n hx hb dX10_divisor_220 rfl (lv_at hl 1 rfl) ?_
      refine pw_iconst hx hb dX10_divisor_221 ?_
      refine pw_callVv (As := [.int (iI ((a : Int))), .int (iI (2))]) (rest := []) ⟨hx, hb, hml, hown, hts⟩ (r_times l D E r0 o f g h a ((A1 * 2 ^ i : Nat) : Int) 2 ha (by omega) (by omega) (num_at (hN (a) (by omega)) hva) (by rw [Int.natAbs_mul]; show A1 * 2 ^ i * 2 < _; omega)) (cwV 2 hts gX10_divisor_X10_times rfl rfl rfl (by decide +kernel) ⟨Nat.le_of_ble_eq_true rfl, Nat.le_of_ble_eq_true rfl⟩) hK hO rfl ⟨hO, hf, hg, hh⟩ rfl hl.1 rfl (Nat.le_of_ble_eq_true rfl) dX10_divisor_222 ⟨Nat.zero_le _, Nat.zero_le _⟩ hS (fun q h => h) (fun H1 locs1 ⟨f, g, h, ⟨hf, hg, hh⟩, hn1, ho1⟩ hz1 hk1 hS => ?_)
      have hO := hO.k (hk1 _ hO.lt (by (try dsimp only); omega))
      obtain ⟨vs, hva0, hvo, hN⟩ := bn_np hN hn1 ho1
      clear hn1 ho1
      have hvc : ∀ c, c ≠ a ∧ c ≠ b ∧ c ≠ 52 → vs (c) = vs0 c := fun c hq => (hvo _ (by omega)).trans (hvc c hq)
      have hva : vs (a) = ((A1 * 2 ^ i : Nat) : Int) * 2 := hva0
      clear hva0 hvo
      refine lv_iinc (v := iI (((i + 1 : Nat) : Int))) (lv' := [(4, .int (iI (((i + 1 : Nat) : Int)))), (0, .ref (r0)), (1, .int (iI ((a : Int)))), (2, .int (iI ((b : Int)))), (3, .int (iI ((tw : Int))))]) hx hb dX10_divisor_225 hl (k := 4) rfl (by show iI _ + iI _ = _; exact (iI_add _ _).trans (by first | rfl | (congr 1; omega))) (by decide) rfl (fun ls hl => ?_)
      refine lv_goto (tgt := 213) hx hb dX10_divisor_228 (by decide) ?_
      exact ih (i + 1) vs f g h _ _ _ hG1 htw (by omega) hN (by rw [hva, hp2, Int.natCast_mul (A1 * 2 ^ i)]; rfl) hvc hO hf hg hh hS (lv_sub hl [1, 2, 3, 4, 0] rfl)
  have loop2 : ∀ (k A1 B1 tw : Nat) (vs f g h : Nat → Int) (H : Heap) (locs : List Loc) (ls : Array Slot), A1 + B1 ≤ k → A1 ≤ max A B → B1 ≤ max A B → 0 < A1 → Nat.gcd A1 B1 * 2 ^ tw = Nat.gcd A B → (B1 = 0 ∨ A1 % 2 = 1 ∨ B1 % 2 = 1) → (∀ c, c < 80 → Num f g h c (vs c)) → vs a = (A1 : Int) → vs b = (B1 : Int) → (∀ c, c ≠ a ∧ c ≠ b ∧ c ≠ 52 → vs (c) = vs0 c) → RO D r0 o H → IA E (r0 + 8) 5120 f H → IA E (r0 + 9) 80 g H → IA E (r0 + 10) 80 h H → va_S (fun q => q = r0 + 8 ∨ q = r0 + 9 ∨ q = r0 + 10) s.heap H locs → lv_has ls 5 [(0, .ref (r0)), (1, .int (iI ((a : Int)))), (2, .int (iI ((b : Int)))), (3, .int (iI ((tw : Int))))] → W p l e ({ frames := 2, cells := 0, slots := 0, locals := 53 } : Room) s m args below meth c H locs (0) (0) (MQ below (pw_Q rvV (fun _ H => ∃ vs, BN E r0 vs H ∧ vs a = ((Nat.gcd A B : Nat) : Int) ∧ ∀ c, c ≠ a → c ≠ b → c ≠ 52 → vs c = vs0 c) (fun q => q = r0 + 8 ∨ q = r0 + 9 ∨ q = r0 + 10)) args s (0) (0) (fun q => q = r0 + 8 ∨ q = r0 + 9 ∨ q = r0 + 10)) (F0 m 69 ls []) := by
    intro k
    induction k with
    | zero =>
      intro A1 B1 tw vs f g h H locs ls h1 h2 h3 h4
      exact absurd h1 (by omega)
    | succ k ih =>
      have k140 : ∀ (A1 B1 tw : Nat) (vs f g h : Nat → Int) (H : Heap) (locs : List Loc) (ls : Array Slot), A1 + B1 ≤ k + 1 → A1 ≤ max A B → B1 ≤ max A B → 0 < A1 → 0 < B1 → Nat.gcd A1 B1 * 2 ^ tw = Nat.gcd A B → A1 % 2 = 1 → B1 % 2 = 1 → (∀ c, c < 80 → Num f g h c (vs c)) → vs a = (A1 : Int) → vs b = (B1 : Int) → (∀ c, c ≠ a ∧ c ≠ b ∧ c ≠ 52 → vs (c) = vs0 c) → RO D r0 o H → IA E (r0 + 8) 5120 f H → IA E (r0 + 9) 80 g H → IA E (r0 + 10) 80 h H → va_S (fun q => q = r0 + 8 ∨ q = r0 + 9 ∨ q = r0 + 10) s.heap H locs → lv_has ls 5 [(0, .ref (r0)), (1, .int (iI ((a : Int)))), (2, .int (iI ((b : Int)))), (3, .int (iI ((tw : Int))))] → W p l e ({ frames := 2, cells := 0, slots := 0, locals := 53 } : Room) s m args below meth c H locs (0) (0) (MQ below (pw_Q rvV (fun _ H => ∃ vs, BN E r0 vs H ∧ vs a = ((Nat.gcd A B : Nat) : Int) ∧ ∀ c, c ≠ a → c ≠ b → c ≠ 52 → vs c = vs0 c) (fun q => q = r0 + 8 ∨ q = r0 + 9 ∨ q = r0 + 10)) args s (0) (0) (fun q => q = r0 + 8 ∨ q = r0 + 9 ∨ q = r0 + 10)) (F0 m 140 ls []) := by
        intro A1 B1 tw vs f g h H locs ls hk hA1 hB1 hA10 hB10 hgc ho1 ho2 hN hva hvb hvc hO hf hg hh hS hl
        have hcb := cz_b A1 B1
        refine lv_aload_n hx hb dX10_divisor_140 rfl (lv_at hl 0 rfl) ?_
        refine lv_iload_n hx hb dX10_divisor_141 rfl (lv_at hl 1 rfl) ?_
        refine lv_iload_n hx hb dX10_divisor_142 rfl (lv_at hl 2 rfl) ?_
        refine pw_callVi (As := [.int (iI ((a : Int))), .int (iI ((b : Int)))]) (rest := []) ⟨hx, hb, hml, hown, hts⟩ (r_compareSizes l D E r0 o f g h a b (A1 : Int) (B1 : Int) ha hb0 (num_at (hN (a) (by omega)) hva) (num_at (hN (b) (by omega)) hvb)) (cwV 2 hts gX10_divisor_X10_compareSizes rfl rfl rfl (by decide +kernel) ⟨Nat.le_of_ble_eq_true rfl, Nat.le_of_ble_eq_true rfl⟩) hK hO rfl ⟨hO, hf, hg, hh⟩ rfl hl.1 rfl (Nat.le_of_ble_eq_true rfl) dX10_divisor_143 ⟨Nat.zero_le _, Nat.zero_le _⟩ hS (fun q h => h.elim) (fun z H1 locs1 hz hz1 hk1 hS => ?_)
        have hO := hO.k (hk1 _ hO.lt (fun h => h))
        have hf := hf.k (hk1 _ hf.lt (fun h => h))
        have hg := hg.k (hk1 _ hg.lt (fun h => h))
        have hh := hh.k (hk1 _ hh.lt (fun h => h))
        have hz : z = cz A1 B1 := hz
        subst hz
        refine pw_if_le (tgt := 179) hx hb dX10_divisor_146 (by decide) (fun c_146 => ?_) (fun c_146 => ?_)
        · have hle : A1 ≤ B1 := by
            rcases Nat.lt_or_ge B1 A1 with h9 | h9
            · rw [cz_gt h9] at c_146; omega
            · exact h9
          refine lv_aload_n hx hb dX10_divisor_179 rfl (lv_at hl 0 rfl) ?_
          refine lv_iload_n hx hb dX10_divisor_180 rfl (lv_at hl 2 rfl) ?_
          refine lv_iload_n hx hb dX10_divisor_181 rfl (lv_at hl 1 rfl) ?_
          refine pw_iconst hx hb dX10_divisor_182 ?_
          refine pw_callVv (As := [.int (iI ((b : Int))), .int (iI ((a : Int))), .int (iI (-1))]) (rest := []) ⟨hx, hb, hml, hown, hts⟩ (r_plus l D E r0 o f g h b a (B1 : Int) (A1 : Int) (-1) hb0 ha (by omega) (Or.inr rfl) (num_at (hN (b) (by omega)) hvb) (num_at (hN (a) (by omega)) hva) (by show B1 < _; omega) (by show A1 < _; omega)) (cwV 3 hts gX10_divisor_X10_plus rfl rfl rfl (by decide +kernel) ⟨Nat.le_of_ble_eq_true rfl, Nat.le_of_ble_eq_true rfl⟩) hK hO rfl ⟨hO, hf, hg, hh⟩ rfl hl.1 rfl (Nat.le_of_ble_eq_true rfl) dX10_divisor_183 ⟨Nat.zero_le _, Nat.zero_le _⟩ hS (fun q h => h) (fun H1 locs1 ⟨f, g, h, ⟨hf, hg, hh⟩, hn1, ho1⟩ hz1 hk1 hS => ?_)
          have hO := hO.k (hk1 _ hO.lt (by (try dsimp only); omega))
          obtain ⟨vs, hva0, hvo, hN⟩ := bn_np hN hn1 ho1
          clear hn1 ho1
          have hva : vs (a) = (A1 : Int) := (hvo _ (by omega)).trans hva
          have hvc : ∀ c, c ≠ a ∧ c ≠ b ∧ c ≠ 52 → vs (c) = vs0 c := fun c hq => (hvo _ (by omega)).trans (hvc c hq)
          have hvb : vs (b) = ((B1 - A1 : Nat) : Int) := (hva0.trans (by omega))
          clear hva0 hvo
          refine lv_aload_n hx hb dX10_divisor_186 rfl (lv_at hl 0 rfl) ?_
          refine pw_get (C := RX10) (T := TX10) (N := 20) hx hb hts hin10 hown hK hO rfl 15 (by decide) lk_44 rfl rfl dX10_divisor_187 ?_
          refine lv_iload_n hx hb dX10_divisor_190 rfl (lv_at hl 1 rfl) ?_
          refine pw_iald hx hb hK hh (a) rfl (by omega) (by omega) dX10_divisor_191 ?_
          refine pw_asi (min (A1 : Int) 1) ((num_sg (num_at (hN (a) (by omega)) hva)).trans (sgn_min _)) ?_
          refine pw_if_ne (tgt := 204) hx hb dX10_divisor_192 (by decide) (fun c_192 => ?_) (fun c_192 => absurd c_192 (by omega))
          refine pw_iconst hx hb dX10_divisor_204 ?_
          refine lv_istore (lv' := [(4, .int (iI (0))), (0, .ref (r0)), (1, .int (iI ((a : Int)))), (2, .int (iI ((b : Int)))), (3, .int (iI ((tw : Int))))]) hx hb dX10_divisor_205 hl (by decide) rfl (fun ls hl => ?_)
          refine lv_goto (tgt := 69) hx hb dX10_divisor_207 (by decide) ?_
          exact ih A1 (B1 - A1) tw vs f g h _ _ _ (by omega) (by omega) (by omega) (by omega) (by rw [Nat.gcd_sub_self_right (by omega)]; exact hgc) (Or.inr (Or.inl ho1)) hN hva hvb hvc hO hf hg hh hS (lv_sub hl [1, 2, 3, 4] rfl)
        · have hgt : B1 < A1 := by
            rcases Nat.lt_or_ge B1 A1 with h9 | h9
            · exact h9
            · exfalso; unfold cz at c_146; split at c_146; omega; split at c_146 <;> omega
          refine lv_aload_n hx hb dX10_divisor_149 rfl (lv_at hl 0 rfl) ?_
          refine lv_iload_n hx hb dX10_divisor_150 rfl (lv_at hl 1 rfl) ?_
          refine lv_iload_n hx hb dX10_divisor_151 rfl (lv_at hl 2 rfl) ?_
          refine pw_iconst hx hb dX10_divisor_152 ?_
          refine pw_callVv (As := [.int (iI ((a : Int))), .int (iI ((b : Int))), .int (iI (-1))]) (rest := []) ⟨hx, hb, hml, hown, hts⟩ (r_plus l D E r0 o f g h a b (A1 : Int) (B1 : Int) (-1) ha hb0 (by omega) (Or.inr rfl) (num_at (hN (a) (by omega)) hva) (num_at (hN (b) (by omega)) hvb) (by show A1 < _; omega) (by show B1 < _; omega)) (cwV 3 hts gX10_divisor_X10_plus rfl rfl rfl (by decide +kernel) ⟨Nat.le_of_ble_eq_true rfl, Nat.le_of_ble_eq_true rfl⟩) hK hO rfl ⟨hO, hf, hg, hh⟩ rfl hl.1 rfl (Nat.le_of_ble_eq_true rfl) dX10_divisor_153 ⟨Nat.zero_le _, Nat.zero_le _⟩ hS (fun q h => h) (fun H1 locs1 ⟨f, g, h, ⟨hf, hg, hh⟩, hn1, ho1⟩ hz1 hk1 hS => ?_)
          have hO := hO.k (hk1 _ hO.lt (by (try dsimp only); omega))
          obtain ⟨vs, hva0, hvo, hN⟩ := bn_np hN hn1 ho1
          clear hn1 ho1
          have hvb : vs (b) = (B1 : Int) := (hvo _ (by omega)).trans hvb
          have hvc : ∀ c, c ≠ a ∧ c ≠ b ∧ c ≠ 52 → vs (c) = vs0 c := fun c hq => (hvo _ (by omega)).trans (hvc c hq)
          have hva : vs (a) = ((A1 - B1 : Nat) : Int) := (hva0.trans (by omega))
          clear hva0 hvo
          refine lv_aload_n hx hb dX10_divisor_156 rfl (lv_at hl 0 rfl) ?_
          refine lv_iload_n hx hb dX10_divisor_157 rfl (lv_at hl 1 rfl) ?_
          refine pw_bipush hx hb dX10_divisor_158 ?_
          refine pw_callVv (As := [.int (iI ((a : Int))), .int (iI (52))]) (rest := []) ⟨hx, hb, hml, hown, hts⟩ (r_copy l D E r0 o f g h a 52 ((A1 - B1 : Nat) : Int) (by omega) ha ha4 (num_at (hN (a) (by omega)) hva)) (cwV 2 hts gX10_divisor_X10_copy rfl rfl rfl (by decide +kernel) ⟨Nat.le_of_ble_eq_true rfl, Nat.le_of_ble_eq_true rfl⟩) hK hO rfl ⟨hO, hf, hg, hh⟩ rfl hl.1 rfl (Nat.le_of_ble_eq_true rfl) dX10_divisor_160 ⟨Nat.zero_le _, Nat.zero_le _⟩ hS (fun q h => h) (fun H1 locs1 ⟨f, g, h, ⟨hf, hg, hh⟩, hn1, ho1⟩ hz1 hk1 hS => ?_)
          have hO := hO.k (hk1 _ hO.lt (by (try dsimp only); omega))
          obtain ⟨vs, hva0, hvo, hN⟩ := bn_np hN hn1 ho1
          clear hn1 ho1
          have hva : vs (a) = ((A1 - B1 : Nat) : Int) := (hvo _ (by omega)).trans hva
          have hvb : vs (b) = (B1 : Int) := (hvo _ (by omega)).trans hvb
          have hvc : ∀ c, c ≠ a ∧ c ≠ b ∧ c ≠ 52 → vs (c) = vs0 c := fun c hq => (hvo _ (by omega)).trans (hvc c hq)
          have hv4 : vs (52) = ((A1 - B1 : Nat) : Int) := hva0
          clear hva0 hvo
          refine lv_aload_n hx hb dX10_divisor_163 rfl (lv_at hl 0 rfl) ?_
          refine lv_iload_n hx hb dX10_divisor_164 rfl (lv_at hl 2 rfl) ?_
          refine lv_iload_n hx hb dX10_divisor_165 rfl (lv_at hl 1 rfl) ?_
          refine pw_callVv (As := [.int (iI ((b : Int))), .int (iI ((a : Int)))]) (rest := []) ⟨hx, hb, hml, hown, hts⟩ (r_copy l D E r0 o f g h b a (B1 : Int) ha hb0 (by omega) (num_at (hN (b) (by omega)) hvb)) (cwV 2 hts gX10_divisor_X10_copy rfl rfl rfl (by decide +kernel) ⟨Nat.le_of_ble_eq_true rfl, Nat.le_of_ble_eq_true rfl⟩) hK hO rfl ⟨hO, hf, hg, hh⟩ rfl hl.1 rfl (Nat.le_of_ble_eq_true rfl) dX10_divisor_166 ⟨Nat.zero_le _, Nat.zero_le _⟩ hS (fun q h => h) (fun H1 locs1 ⟨f, g, h, ⟨hf, hg, hh⟩, hn1, ho1⟩ hz1 hk1 hS => ?_)
          have hO := hO.k (hk1 _ hO.lt (by (try dsimp only); omega))
          obtain ⟨vs, hva0, hvo, hN⟩ := bn_np hN hn1 ho1
          clear hn1 ho1
          have hvb : vs (b) = (B1 : Int) := (hvo _ (by omega)).trans hvb
          have hvc : ∀ c, c ≠ a ∧ c ≠ b ∧ c ≠ 52 → vs (c) = vs0 c := fun c hq => (hvo _ (by omega)).trans (hvc c hq)
          have hv4 : vs (52) = ((A1 - B1 : Nat) : Int) := (hvo _ (by omega)).trans hv4
          have hva : vs (a) = (B1 : Int) := hva0
          clear hva0 hvo
          refine lv_aload_n hx hb dX10_divisor_169 rfl (lv_at hl 0 rfl) ?_
          refine pw_bipush hx hb dX10_divisor_170 ?_
          refine lv_iload_n hx hb dX10_divisor_172 rfl (lv_at hl 2 rfl) ?_
          refine pw_callVv (As := [.int (iI (52)), .int (iI ((b : Int)))]) (rest := []) ⟨hx, hb, hml, hown, hts⟩ (r_copy l D E r0 o f g h 52 b ((A1 - B1 : Nat) : Int) hb0 (by omega) (by omega) (num_at (hN (52) (by omega)) hv4)) (cwV 2 hts gX10_divisor_X10_copy rfl rfl rfl (by decide +kernel) ⟨Nat.le_of_ble_eq_true rfl, Nat.le_of_ble_eq_true rfl⟩) hK hO rfl ⟨hO, hf, hg, hh⟩ rfl hl.1 rfl (Nat.le_of_ble_eq_true rfl) dX10_divisor_173 ⟨Nat.zero_le _, Nat.zero_le _⟩ hS (fun q h => h) (fun H1 locs1 ⟨f, g, h, ⟨hf, hg, hh⟩, hn1, ho1⟩ hz1 hk1 hS => ?_)
          have hO := hO.k (hk1 _ hO.lt (by (try dsimp only); omega))
          obtain ⟨vs, hva0, hvo, hN⟩ := bn_np hN hn1 ho1
          clear hn1 ho1
          have hva : vs (a) = (B1 : Int) := (hvo _ (by omega)).trans hva
          have hvc : ∀ c, c ≠ a ∧ c ≠ b ∧ c ≠ 52 → vs (c) = vs0 c := fun c hq => (hvo _ (by omega)).trans (hvc c hq)
          have hv4 : vs (52) = ((A1 - B1 : Nat) : Int) := (hvo _ (by omega)).trans hv4
          have hvb : vs (b) = ((A1 - B1 : Nat) : Int) := hva0
          clear hva0 hvo
          refine lv_goto (tgt := 207) hx hb dX10_divisor_176 (by decide) ?_
          refine lv_goto (tgt := 69) hx hb dX10_divisor_207 (by decide) ?_
          exact ih B1 (A1 - B1) tw vs f g h _ _ _ (by omega) (by omega) (by omega) (by omega) (by rw [gcd_s1 (by omega)]; exact hgc) (Or.inr (Or.inl ho2)) hN hva hvb hvc hO hf hg hh hS (lv_sub hl [0, 1, 2, 3] rfl)
      have k115 : ∀ (q A1 B1 tw : Nat) (vs f g h : Nat → Int) (H : Heap) (locs : List Loc) (ls : Array Slot), B1 ≤ q → A1 + B1 ≤ k + 1 → A1 ≤ max A B → B1 ≤ max A B → 0 < A1 → 0 < B1 → Nat.gcd A1 B1 * 2 ^ tw = Nat.gcd A B → A1 % 2 = 1 → (∀ c, c < 80 → Num f g h c (vs c)) → vs a = (A1 : Int) → vs b = (B1 : Int) → (∀ c, c ≠ a ∧ c ≠ b ∧ c ≠ 52 → vs (c) = vs0 c) → RO D r0 o H → IA E (r0 + 8) 5120 f H → IA E (r0 + 9) 80 g H → IA E (r0 + 10) 80 h H → va_S (fun q => q = r0 + 8 ∨ q = r0 + 9 ∨ q = r0 + 10) s.heap H locs → lv_has ls 5 [(0, .ref (r0)), (1, .int (iI ((a : Int)))), (2, .int (iI ((b : Int)))), (3, .int (iI ((tw : Int))))] → W p l e ({ frames := 2, cells := 0, slots := 0, locals := 53 } : Room) s m args below meth c H locs (0) (0) (MQ below (pw_Q rvV (fun _ H => ∃ vs, BN E r0 vs H ∧ vs a = ((Nat.gcd A B : Nat) : Int) ∧ ∀ c, c ≠ a → c ≠ b → c ≠ 52 → vs c = vs0 c) (fun q => q = r0 + 8 ∨ q = r0 + 9 ∨ q = r0 + 10)) args s (0) (0) (fun q => q = r0 + 8 ∨ q = r0 + 9 ∨ q = r0 + 10)) (F0 m 115 ls []) := by
        intro q
        induction q with
        | zero =>
          intro A1 B1 tw vs f g h H locs ls h1 h2 h3 h4 h5 h6
          exact absurd h1 (by omega)
        | succ q ihq =>
          intro A1 B1 tw vs f g h H locs ls hq hk hA1 hB1 hA10 hB10 hgc ho1 hN hva hvb hvc hO hf hg hh hS hl
          refine lv_aload_n hx hb dX10_divisor_115 rfl (lv_at hl 0 rfl) ?_
          refine pw_get (C := RX10) (T := TX10) (N := 20) hx hb hts hin10 hown hK hO rfl 13 (by decide) lk_38 rfl rfl dX10_divisor_116 ?_
          refine pw_bipush hx hb dX10_divisor_119 ?_
          refine lv_iload_n hx hb dX10_divisor_121 rfl (lv_at hl 2 rfl) ?_
          refine pw_imul hx hb dX10_divisor_122 ?_
          refine pw_iald hx hb hK hf (64 * b) (by omega) (by omega) (by omega) dX10_divisor_123 ?_
          refine pw_asi (((B1 % 268435456 : Nat) : Int)) (num_d0 (num_at (hN (b) (by omega)) hvb) (by omega)) ?_
          refine pw_iconst hx hb dX10_divisor_124 ?_
          refine lv_iand hx hb dX10_divisor_125 ?_
          refine pw_eqi (((B1 % 268435456 % 2 : Nat) : Int)) (j_and1 _) ?_
          refine pw_asi (((B1 % 2 : Nat) : Int)) (by omega) ?_
          refine pw_if_ne (tgt := 140) hx hb dX10_divisor_126 (by decide) (fun c_126 => ?_) (fun c_126 => ?_)
          · exact k140 A1 B1 tw vs f g h _ _ _ hk hA1 hB1 hA10 hB10 hgc ho1 (by omega) hN hva hvb hvc hO hf hg hh hS (lv_sub hl [0, 1, 2, 3] rfl)
          · refine lv_aload_n hx hb dX10_divisor_129 rfl (lv_at hl 0 rfl) ?_
            refine lv_iload_n hx hb dX10_divisor_130 rfl (lv_at hl 2 rfl) ?_
            refine pw_iconst hx hb dX10_divisor_131 ?_
            refine pw_callVi (As := [.int (iI ((b : Int))), .int (iI (2))]) (rest := []) ⟨hx, hb, hml, hown, hts⟩ (r_overSmall l D E r0 o f g h b B1 2 hb0 (by omega) (by omega) (num_at (hN (b) (by omega)) hvb)) (cwV 2 hts gX10_divisor_X10_overSmall rfl rfl rfl (by decide +kernel) ⟨Nat.le_of_ble_eq_true rfl, Nat.le_of_ble_eq_true rfl⟩) hK hO rfl ⟨hO, hf, hg, hh⟩ rfl hl.1 rfl (Nat.le_of_ble_eq_true rfl) dX10_divisor_132 ⟨Nat.zero_le _, Nat.zero_le _⟩ hS (fun q h => h) (fun zb H1 locs1 ⟨hzr, f, g, h, ⟨hf, hg, hh⟩, hn1, ho1⟩ hz1 hk1 hS => ?_)
            have hO := hO.k (hk1 _ hO.lt (by (try dsimp only); omega))
            obtain ⟨vs, hva0, hvo, hN⟩ := bn_np hN hn1 ho1
            clear hn1 ho1
            have hva : vs (a) = (A1 : Int) := (hvo _ (by omega)).trans hva
            have hvc : ∀ c, c ≠ a ∧ c ≠ b ∧ c ≠ 52 → vs (c) = vs0 c := fun c hq => (hvo _ (by omega)).trans (hvc c hq)
            have hvb : vs (b) = ((B1 / 2 : Nat) : Int) := hva0
            clear hva0 hvo
            refine lv_istore (lv' := [(4, .int (iI (zb))), (0, .ref (r0)), (1, .int (iI ((a : Int)))), (2, .int (iI ((b : Int)))), (3, .int (iI ((tw : Int))))]) hx hb dX10_divisor_135 hl (by decide) rfl (fun ls hl => ?_)
            refine lv_goto (tgt := 115) hx hb dX10_divisor_137 (by decide) ?_
            exact ihq A1 (B1 / 2) tw vs f g h _ _ _ (by omega) (by omega) (by omega) (by omega) (by omega) (by omega) (by rw [gcd_oe ho1 (by omega)]; exact hgc) ho1 hN hva hvb hvc hO hf hg hh hS (lv_sub hl [1, 2, 3, 4] rfl)
      have k81 : ∀ (q A1 B1 tw : Nat) (vs f g h : Nat → Int) (H : Heap) (locs : List Loc) (ls : Array Slot), A1 ≤ q → A1 + B1 ≤ k + 1 → A1 ≤ max A B → B1 ≤ max A B → 0 < A1 → 0 < B1 → Nat.gcd A1 B1 * 2 ^ tw = Nat.gcd A B → (A1 % 2 = 1 ∨ B1 % 2 = 1) → (∀ c, c < 80 → Num f g h c (vs c)) → vs a = (A1 : Int) → vs b = (B1 : Int) → (∀ c, c ≠ a ∧ c ≠ b ∧ c ≠ 52 → vs (c) = vs0 c) → RO D r0 o H → IA E (r0 + 8) 5120 f H → IA E (r0 + 9) 80 g H → IA E (r0 + 10) 80 h H → va_S (fun q => q = r0 + 8 ∨ q = r0 + 9 ∨ q = r0 + 10) s.heap H locs → lv_has ls 5 [(0, .ref (r0)), (1, .int (iI ((a : Int)))), (2, .int (iI ((b : Int)))), (3, .int (iI ((tw : Int))))] → W p l e ({ frames := 2, cells := 0, slots := 0, locals := 53 } : Room) s m args below meth c H locs (0) (0) (MQ below (pw_Q rvV (fun _ H => ∃ vs, BN E r0 vs H ∧ vs a = ((Nat.gcd A B : Nat) : Int) ∧ ∀ c, c ≠ a → c ≠ b → c ≠ 52 → vs c = vs0 c) (fun q => q = r0 + 8 ∨ q = r0 + 9 ∨ q = r0 + 10)) args s (0) (0) (fun q => q = r0 + 8 ∨ q = r0 + 9 ∨ q = r0 + 10)) (F0 m 81 ls []) := by
        intro q
        induction q with
        | zero =>
          intro A1 B1 tw vs f g h H locs ls h1 h2 h3 h4 h5 h6
          exact absurd h1 (by omega)
        | succ q ihq =>
          intro A1 B1 tw vs f g h H locs ls hq hk hA1 hB1 hA10 hB10 hgc hodd hN hva hvb hvc hO hf hg hh hS hl
          refine lv_aload_n hx hb dX10_divisor_81 rfl (lv_at hl 0 rfl) ?_
          refine pw_get (C := RX10) (T := TX10) (N := 20) hx hb hts hin10 hown hK hO rfl 15 (by decide) lk_44 rfl rfl dX10_divisor_82 ?_
          refine lv_iload_n hx hb dX10_divisor_85 rfl (lv_at hl 1 rfl) ?_
          refine pw_iald hx hb hK hh (a) rfl (by omega) (by omega) dX10_divisor_86 ?_
          refine pw_asi (min (A1 : Int) 1) ((num_sg (num_at (hN (a) (by omega)) hva)).trans (sgn_min _)) ?_
          refine pw_if_eq (tgt := 115) hx hb dX10_divisor_87 (by decide) (fun c_87 => absurd c_87 (by omega)) (fun c_87 => ?_)
          refine lv_aload_n hx hb dX10_divisor_90 rfl (lv_at hl 0 rfl) ?_
          refine pw_get (C := RX10) (T := TX10) (N := 20) hx hb hts hin10 hown hK hO rfl 13 (by decide) lk_38 rfl rfl dX10_divisor_91 ?_
          refine pw_bipush hx hb dX10_divisor_94 ?_
          refine lv_iload_n hx hb dX10_divisor_96 rfl (lv_at hl 1 rfl) ?_
          refine pw_imul hx hb dX10_divisor_97 ?_
          refine pw_iald hx hb hK hf (64 * a) (by omega) (by omega) (by omega) dX10_divisor_98 ?_
          refine pw_asi (((A1 % 268435456 : Nat) : Int)) (num_d0 (num_at (hN (a) (by omega)) hva) (by omega)) ?_
          refine pw_iconst hx hb dX10_divisor_99 ?_
          refine lv_iand hx hb dX10_divisor_100 ?_
          refine pw_eqi (((A1 % 268435456 % 2 : Nat) : Int)) (j_and1 _) ?_
          refine pw_asi (((A1 % 2 : Nat) : Int)) (by omega) ?_
          refine pw_if_ne (tgt := 115) hx hb dX10_divisor_101 (by decide) (fun c_101 => ?_) (fun c_101 => ?_)
          · exact k115 B1 A1 B1 tw vs f g h _ _ _ (Nat.le_refl _) hk hA1 hB1 hA10 hB10 hgc (by omega) hN hva hvb hvc hO hf hg hh hS (lv_sub hl [0, 1, 2, 3] rfl)
          · refine lv_aload_n hx hb dX10_divisor_104 rfl (lv_at hl 0 rfl) ?_
            refine lv_iload_n hx hb dX10_divisor_105 rfl (lv_at hl 1 rfl) ?_
            refine pw_iconst hx hb dX10_divisor_106 ?_
            refine pw_callVi (As := [.int (iI ((a : Int))), .int (iI (2))]) (rest := []) ⟨hx, hb, hml, hown, hts⟩ (r_overSmall l D E r0 o f g h a A1 2 ha (by omega) (by omega) (num_at (hN (a) (by omega)) hva)) (cwV 2 hts gX10_divisor_X10_overSmall rfl rfl rfl (by decide +kernel) ⟨Nat.le_of_ble_eq_true rfl, Nat.le_of_ble_eq_true rfl⟩) hK hO rfl ⟨hO, hf, hg, hh⟩ rfl hl.1 rfl (Nat.le_of_ble_eq_true rfl) dX10_divisor_107 ⟨Nat.zero_le _, Nat.zero_le _⟩ hS (fun q h => h) (fun za H1 locs1 ⟨hzr, f, g, h, ⟨hf, hg, hh⟩, hn1, ho1⟩ hz1 hk1 hS => ?_)
            have hO := hO.k (hk1 _ hO.lt (by (try dsimp only); omega))
            obtain ⟨vs, hva0, hvo, hN⟩ := bn_np hN hn1 ho1
            clear hn1 ho1
            have hvb : vs (b) = (B1 : Int) := (hvo _ (by omega)).trans hvb
            have hvc : ∀ c, c ≠ a ∧ c ≠ b ∧ c ≠ 52 → vs (c) = vs0 c := fun c hq => (hvo _ (by omega)).trans (hvc c hq)
            have hva : vs (a) = ((A1 / 2 : Nat) : Int) := hva0
            clear hva0 hvo
            refine lv_istore (lv' := [(4, .int (iI (za))), (0, .ref (r0)), (1, .int (iI ((a : Int)))), (2, .int (iI ((b : Int)))), (3, .int (iI ((tw : Int))))]) hx hb dX10_divisor_110 hl (by decide) rfl (fun ls hl => ?_)
            refine lv_goto (tgt := 81) hx hb dX10_divisor_112 (by decide) ?_
            exact ihq (A1 / 2) B1 tw vs f g h _ _ _ (by omega) (by omega) (by omega) (by omega) (by omega) (by omega) (by rw [gcd_eo (by omega) (by omega)]; exact hgc) (Or.inr (by omega)) hN hva hvb hvc hO hf hg hh hS (lv_sub hl [1, 2, 3, 4] rfl)
      intro A1 B1 tw vs f g h H locs ls hk hA1 hB1 hA10 hgc hodd hN hva hvb hvc hO hf hg hh hS hl
      refine lv_aload_n hx hb dX10_divisor_69 rfl (lv_at hl 0 rfl) ?_
      refine pw_get (C := RX10) (T := TX10) (N := 20) hx hb hts hin10 hown hK hO rfl 15 (by decide) lk_44 rfl rfl dX10_divisor_70 ?_
      refine lv_iload_n hx hb dX10_divisor_73 rfl (lv_at hl 2 rfl) ?_
      refine pw_iald hx hb hK hh (b) rfl (by omega) (by omega) dX10_divisor_74 ?_
      refine pw_asi (min (B1 : Int) 1) ((num_sg (num_at (hN (b) (by omega)) hvb)).trans (sgn_min _)) ?_
      refine pw_if_eq (tgt := 210) hx hb dX10_divisor_75 (by decide) (fun c_75 => ?_) (fun c_75 => ?_)
      · refine pw_iconst hx hb dX10_divisor_210 ?_
        refine pw_asi (((0 : Nat) : Int)) rfl ?_
        refine lv_istore (lv' := [(4, .int (iI (((0 : Nat) : Int)))), (0, .ref (r0)), (1, .int (iI ((a : Int)))), (2, .int (iI ((b : Int)))), (3, .int (iI ((tw : Int))))]) hx hb dX10_divisor_211 hl (by decide) rfl (fun ls hl => ?_)
        have hB0 : B1 = 0 := by omega
        subst hB0
        rw [Nat.gcd_zero_right] at hgc
        have htw := tw_lt (show A1 * 2 ^ tw ≤ A by omega) hA10 hA63
        exact loop3 A1 tw tw 0 vs f g h _ _ _ hgc htw.1 (by omega) hN (by rw [hva, Nat.pow_zero, Nat.mul_one]) hvc hO hf hg hh hS (lv_sub hl [1, 2, 3, 4, 0] rfl)
      · refine pw_iconst hx hb dX10_divisor_78 ?_
        refine lv_istore (lv' := [(4, .int (iI (0))), (0, .ref (r0)), (1, .int (iI ((a : Int)))), (2, .int (iI ((b : Int)))), (3, .int (iI ((tw : Int))))]) hx hb dX10_divisor_79 hl (by decide) rfl (fun ls hl => ?_)
        exact k81 A1 A1 B1 tw vs f g h _ _ _ (Nat.le_refl _) hk hA1 hB1 hA10 (by omega) hgc (by omega) hN hva hvb hvc hO hf hg hh hS (lv_sub hl [1, 2, 3, 4] rfl)
  have loop1 : ∀ (k A1 B1 tw : Nat) (vs f g h : Nat → Int) (H : Heap) (locs : List Loc) (ls : Array Slot), A1 ≤ k → A1 ≤ max A B → B1 ≤ max A B → 0 < A1 → Nat.gcd A1 B1 * 2 ^ tw = Nat.gcd A B → (∀ c, c < 80 → Num f g h c (vs c)) → vs a = (A1 : Int) → vs b = (B1 : Int) → (∀ c, c ≠ a ∧ c ≠ b ∧ c ≠ 52 → vs (c) = vs0 c) → RO D r0 o H → IA E (r0 + 8) 5120 f H → IA E (r0 + 9) 80 g H → IA E (r0 + 10) 80 h H → va_S (fun q => q = r0 + 8 ∨ q = r0 + 9 ∨ q = r0 + 10) s.heap H locs → lv_has ls 5 [(0, .ref (r0)), (1, .int (iI ((a : Int)))), (2, .int (iI ((b : Int)))), (3, .int (iI ((tw : Int))))] → W p l e ({ frames := 2, cells := 0, slots := 0, locals := 53 } : Room) s m args below meth c H locs (0) (0) (MQ below (pw_Q rvV (fun _ H => ∃ vs, BN E r0 vs H ∧ vs a = ((Nat.gcd A B : Nat) : Int) ∧ ∀ c, c ≠ a → c ≠ b → c ≠ 52 → vs c = vs0 c) (fun q => q = r0 + 8 ∨ q = r0 + 9 ∨ q = r0 + 10)) args s (0) (0) (fun q => q = r0 + 8 ∨ q = r0 + 9 ∨ q = r0 + 10)) (F0 m 2 ls []) := by
    intro k
    induction k with
    | zero =>
      intro A1 B1 tw vs f g h H locs ls h1 h2 h3 h4
      exact absurd h1 (by omega)
    | succ k ih =>
      intro A1 B1 tw vs f g h H locs ls hk hA1 hB1 hA10 hgc hN hva hvb hvc hO hf hg hh hS hl
      refine lv_aload_n hx hb dX10_divisor_2 rfl (lv_at hl 0 rfl) ?_
      refine pw_get (C := RX10) (T := TX10) (N := 20) hx hb hts hin10 hown hK hO rfl 15 (by decide) lk_44 rfl rfl dX10_divisor_3 ?_
      refine lv_iload_n hx hb dX10_divisor_6 rfl (lv_at hl 1 rfl) ?_
      refine pw_iald hx hb hK hh (a) rfl (by omega) (by omega) dX10_divisor_7 ?_
      refine pw_asi (min (A1 : Int) 1) ((num_sg (num_at (hN (a) (by omega)) hva)).trans (sgn_min _)) ?_
      refine pw_if_eq (tgt := 69) hx hb dX10_divisor_8 (by decide) (fun c_8 => absurd c_8 (by omega)) (fun c_8 => ?_)
      refine lv_aload_n hx hb dX10_divisor_11 rfl (lv_at hl 0 rfl) ?_
      refine pw_get (C := RX10) (T := TX10) (N := 20) hx hb hts hin10 hown hK hO rfl 15 (by decide) lk_44 rfl rfl dX10_divisor_12 ?_
      refine lv_iload_n hx hb dX10_divisor_15 rfl (lv_at hl 2 rfl) ?_
      refine pw_iald hx hb hK hh (b) rfl (by omega) (by omega) dX10_divisor_16 ?_
      refine pw_asi (min (B1 : Int) 1) ((num_sg (num_at (hN (b) (by omega)) hvb)).trans (sgn_min _)) ?_
      refine pw_if_eq (tgt := 69) hx hb dX10_divisor_17 (by decide) (fun c_17 => ?_) (fun c_17 => ?_)
      · exact loop2 (A1 + B1) A1 B1 tw vs f g h _ _ _ (Nat.le_refl _) hA1 hB1 hA10 hgc (by omega) hN hva hvb hvc hO hf hg hh hS (lv_sub hl [0, 1, 2, 3] rfl)
      · refine lv_aload_n hx hb dX10_divisor_20 rfl (lv_at hl 0 rfl) ?_
        refine pw_get (C := RX10) (T := TX10) (N := 20) hx hb hts hin10 hown hK hO rfl 13 (by decide) lk_38 rfl rfl dX10_divisor_21 ?_
        refine pw_bipush hx hb dX10_divisor_24 ?_
        refine lv_iload_n hx hb dX10_divisor_26 rfl (lv_at hl 1 rfl) ?_
        refine pw_imul hx hb dX10_divisor_27 ?_
        refine pw_iald hx hb hK hf (64 * a) (by omega) (by omega) (by omega) dX10_divisor_28 ?_
        refine pw_asi (((A1 % 268435456 : Nat) : Int)) (num_d0 (num_at (hN (a) (by omega)) hva) (by omega)) ?_
        refine pw_iconst hx hb dX10_divisor_29 ?_
        refine lv_iand hx hb dX10_divisor_30 ?_
        refine pw_eqi (((A1 % 268435456 % 2 : Nat) : Int)) (j_and1 _) ?_
        refine pw_asi (((A1 % 2 : Nat) : Int)) (by omega) ?_
        refine pw_if_ne (tgt := 69) hx hb dX10_divisor_31 (by decide) (fun c_31 => ?_) (fun c_31 => ?_)
        · exact loop2 (A1 + B1) A1 B1 tw vs f g h _ _ _ (Nat.le_refl _) hA1 hB1 hA10 hgc (by omega) hN hva hvb hvc hO hf hg hh hS (lv_sub hl [0, 1, 2, 3] rfl)
        · refine lv_aload_n hx hb dX10_divisor_34 rfl (lv_at hl 0 rfl) ?_
          refine pw_get (C := RX10) (T := TX10) (N := 20) hx hb hts hin10 hown hK hO rfl 13 (by decide) lk_38 rfl rfl dX10_divisor_35 ?_
          refine pw_bipush hx hb dX10_divisor_38 ?_
          refine lv_iload_n hx hb dX10_divisor_40 rfl (lv_at hl 2 rfl) ?_
          refine pw_imul hx hb dX10_divisor_41 ?_
          refine pw_iald hx hb hK hf (64 * b) (by omega) (by omega) (by omega) dX10_divisor_42 ?_
          refine pw_asi (((B1 % 268435456 : Nat) : Int)) (num_d0 (num_at (hN (b) (by omega)) hvb) (by omega)) ?_
          refine pw_iconst hx hb dX10_divisor_43 ?_
          refine lv_iand hx hb dX10_divisor_44 ?_
          refine pw_eqi (((B1 % 268435456 % 2 : Nat) : Int)) (j_and1 _) ?_
          refine pw_asi (((B1 % 2 : Nat) : Int)) (by omega) ?_
          refine pw_if_ne (tgt := 69) hx hb dX10_divisor_45 (by decide) (fun c_45 => ?_) (fun c_45 => ?_)
          · exact loop2 (A1 + B1) A1 B1 tw vs f g h _ _ _ (Nat.le_refl _) hA1 hB1 hA10 hgc (by omega) hN hva hvb hvc hO hf hg hh hS (lv_sub hl [0, 1, 2, 3] rfl)
          · refine lv_aload_n hx hb dX10_divisor_48 rfl (lv_at hl 0 rfl) ?_
            refine lv_iload_n hx hb dX10_divisor_49 rfl (lv_at hl 1 rfl) ?_
            refine pw_iconst hx hb dX10_divisor_50 ?_
            refine pw_callVi (As := [.int (iI ((a : Int))), .int (iI (2))]) (rest := []) ⟨hx, hb, hml, hown, hts⟩ (r_overSmall l D E r0 o f g h a A1 2 ha (by omega) (by omega) (num_at (hN (a) (by omega)) hva)) (cwV 2 hts gX10_divisor_X10_overSmall rfl rfl rfl (by decide +kernel) ⟨Nat.le_of_ble_eq_true rfl, Nat.le_of_ble_eq_true rfl⟩) hK hO rfl ⟨hO, hf, hg, hh⟩ rfl hl.1 rfl (Nat.le_of_ble_eq_true rfl) dX10_divisor_51 ⟨Nat.zero_le _, Nat.zero_le _⟩ hS (fun q h => h) (fun za H1 locs1 ⟨hzr, f, g, h, ⟨hf, hg, hh⟩, hn1, ho1⟩ hz1 hk1 hS => ?_)
            have hO := hO.k (hk1 _ hO.lt (by (try dsimp only); omega))
            obtain ⟨vs, hva0, hvo, hN⟩ := bn_np hN hn1 ho1
            clear hn1 ho1
            have hvb : vs (b) = (B1 : Int) := (hvo _ (by omega)).trans hvb
            have hvc : ∀ c, c ≠ a ∧ c ≠ b ∧ c ≠ 52 → vs (c) = vs0 c := fun c hq => (hvo _ (by omega)).trans (hvc c hq)
            have hva : vs (a) = ((A1 / 2 : Nat) : Int) := hva0
            clear hva0 hvo
            refine lv_aload_n hx hb dX10_divisor_54 rfl (lv_at hl 0 rfl) ?_
            refine lv_iload_n hx hb dX10_divisor_55 rfl (lv_at hl 2 rfl) ?_
            refine pw_iconst hx hb dX10_divisor_56 ?_
            refine pw_callVi (As := [.int (iI ((b : Int))), .int (iI (2))]) (rest := [.int (iI (za))]) ⟨hx, hb, hml, hown, hts⟩ (r_overSmall l D E r0 o f g h b B1 2 hb0 (by omega) (by omega) (num_at (hN (b) (by omega)) hvb)) (cwV 2 hts gX10_divisor_X10_overSmall rfl rfl rfl (by decide +kernel) ⟨Nat.le_of_ble_eq_true rfl, Nat.le_of_ble_eq_true rfl⟩) hK hO rfl ⟨hO, hf, hg, hh⟩ rfl hl.1 rfl (Nat.le_of_ble_eq_true rfl) dX10_divisor_57 ⟨Nat.zero_le _, Nat.zero_le _⟩ hS (fun q h => h) (fun zb H1 locs1 ⟨hzr, f, g, h, ⟨hf, hg, hh⟩, hn1, ho1⟩ hz1 hk1 hS => ?_)
            have hO := hO.k (hk1 _ hO.lt (by (try dsimp only); omega))
            obtain ⟨vs, hva0, hvo, hN⟩ := bn_np hN hn1 ho1
            clear hn1 ho1
            have hva : vs (a) = ((A1 / 2 : Nat) : Int) := (hvo _ (by omega)).trans hva
            have hvc : ∀ c, c ≠ a ∧ c ≠ b ∧ c ≠ 52 → vs (c) = vs0 c := fun c hq => (hvo _ (by omega)).trans (hvc c hq)
            have hvb : vs (b) = ((B1 / 2 : Nat) : Int) := hva0
            clear hva0 hvo
            refine pw_iadd hx hb dX10_divisor_60 ?_
            refine lv_istore (lv' := [(4, .int (iI ((za) + (zb)))), (0, .ref (r0)), (1, .int (iI ((a : Int)))), (2, .int (iI ((b : Int)))), (3, .int (iI ((tw : Int))))]) hx hb dX10_divisor_61 hl (by decide) rfl (fun ls hl => ?_)
            refine lv_iinc (v := iI (((tw + 1 : Nat) : Int))) (lv' := [(3, .int (iI (((tw + 1 : Nat) : Int)))), (4, .int (iI ((za) + (zb)))), (0, .ref (r0)), (1, .int (iI ((a : Int)))), (2, .int (iI ((b : Int))))]) hx hb dX10_divisor_63 hl (k := 4) rfl (by show iI _ + iI _ = _; exact (iI_add _ _).trans (by first | rfl | (congr 1; omega))) (by decide) rfl (fun ls hl => ?_)
            refine lv_goto (tgt := 2) hx hb dX10_divisor_66 (by decide) ?_
            exact ih (A1 / 2) (B1 / 2) (tw + 1) vs f g h _ _ _ (by omega) (by omega) (by omega) (by omega) (by rw [← hgc, gcd_ee (A := A1) (B := B1) (by omega) (by omega), Nat.pow_succ, Nat.mul_comm 2 (Nat.gcd _ _), Nat.mul_assoc, Nat.mul_comm 2]) hN hva hvb hvc hO hf hg hh hS (lv_sub hl [2, 3, 4, 0] rfl)
  refine pw_iconst hx hb dX10_divisor_0 ?_
  refine pw_asi (((0 : Nat) : Int)) rfl ?_
  refine lv_istore_n (lv' := [(3, .int (iI (((0 : Nat) : Int)))), (0, .ref (r0)), (1, .int (iI ((a : Int)))), (2, .int (iI ((b : Int))))]) hx hb dX10_divisor_1 rfl hl (by decide) rfl (fun ls hl => ?_)
  exact loop1 A A B 0 vs0 f g h _ _ _ (Nat.le_refl _) (by omega) (by omega) hA0 (by rw [Nat.pow_zero, Nat.mul_one]) hN hva hvb (fun _ _ => rfl) hO hf hg hh hS (lv_sub hl [1, 2, 3, 0] rfl)
