/-! the reference: tell -/
theorem gcd_cross {a b a' b' : Nat} (hb : 0 < b) (hb' : 0 < b') (h : a * b' = a' * b) : a / Nat.gcd a b = a' / Nat.gcd a' b' ∧ b / Nat.gcd a b = b' / Nat.gcd a' b' := by
  have hg : 0 < Nat.gcd a b := Nat.gcd_pos_of_pos_right _ hb
  have hg' : 0 < Nat.gcd a' b' := Nat.gcd_pos_of_pos_right _ hb'
  have e1 : Nat.gcd a b * b' = Nat.gcd a' b' * b := by
    rw [← Nat.gcd_mul_right, ← Nat.gcd_mul_right, h, Nat.mul_comm b b']
  have e2 : a * Nat.gcd a' b' = a' * Nat.gcd a b := by
    refine Nat.eq_of_mul_eq_mul_right hb ?_
    rw [Nat.mul_assoc, ← e1, Nat.mul_comm (Nat.gcd a b) b', ← Nat.mul_assoc, h, Nat.mul_assoc, Nat.mul_comm b, ← Nat.mul_assoc]
  have dv : ∀ {x y g g' : Nat}, 0 < g → 0 < g' → g ∣ x → g' ∣ y → x * g' = y * g → x / g = y / g' := by
    intro x y g g' p p' h1 h2 h3
    obtain ⟨q, rfl⟩ := h1
    obtain ⟨q', rfl⟩ := h2
    rw [Nat.mul_div_cancel_left _ p, Nat.mul_div_cancel_left _ p']
    refine Nat.eq_of_mul_eq_mul_left (Nat.mul_pos p p') ?_
    rw [Nat.mul_right_comm, h3, Nat.mul_right_comm, Nat.mul_comm g' g]
  exact ⟨dv hg hg' (Nat.gcd_dvd_left _ _) (Nat.gcd_dvd_left _ _) e2, dv hg hg' (Nat.gcd_dvd_right _ _) (Nat.gcd_dvd_right _ _) (by rw [Nat.mul_comm, ← e1, Nat.mul_comm])⟩
/-- the same fraction tells the same -/
theorem tellZ_eq {u w u' w' : Int} (hw : 0 < w) (hw' : 0 < w') (h : u * w' = u' * w) (part : Int) : tellZ u w part = tellZ u' w' part := by
  have hs : u.sign = u'.sign := by
    have e := congrArg Int.sign h
    rw [Int.sign_mul, Int.sign_mul, Int.sign_eq_one_of_pos hw, Int.sign_eq_one_of_pos hw', Int.mul_one, Int.mul_one] at e
    exact e
  have ha : u.natAbs * w'.natAbs = u'.natAbs * w.natAbs := by rw [← Int.natAbs_mul, ← Int.natAbs_mul, h]
  obtain ⟨g1, g2⟩ := gcd_cross (show 0 < w.natAbs by omega) (show 0 < w'.natAbs by omega) ha
  unfold tellZ gg
  rw [hs, g1, g2]
def sh (x k : Nat) : Nat := x / 1000000000000000000 ^ k
theorem sh_0 (x : Nat) : sh x 0 = x := by unfold sh; rw [Nat.pow_zero, Nat.div_one]
theorem sh_s (x k : Nat) : sh x (k + 1) = sh x k / 1000000000 / 1000000000 := by
  unfold sh
  rw [Nat.div_div_eq_div_mul, Nat.div_div_eq_div_mul, Nat.pow_succ]
theorem sh_z {x k : Nat} (h : sh x k = 0) : ∀ d, sh x (k + d) = 0
  | 0 => h
  | d + 1 => by
    show sh x (k + d + 1) = 0
    rw [sh_s, sh_z h d]
theorem e18_sh (x i : Nat) : e18 x i = sh x i % 1000000000000000000 := rfl
theorem e18_two (y : Nat) : ((y / 1000000000 % 1000000000 : Nat) : Int) * 1000000000 + ((y % 1000000000 : Nat) : Int) = ((y % 1000000000000000000 : Nat) : Int) := by omega
theorem num_abs {f g h : Nat → Int} {a : Nat} {v k : Int} (x : Num f g h a v) (h0 : v = 0 → k = 0) (h1 : v ≠ 0 → k = 1) : Num f g (ud h a k) a (v.natAbs : Int) := by
  obtain ⟨n, x1, x2, x3, x4⟩ := x
  refine ⟨n, by rw [Int.natAbs_natCast]; exact x1, x2, by rw [Int.natAbs_natCast]; exact x3, ?_⟩
  unfold ud
  rw [if_pos rfl]
  by_cases e : v = 0
  · rw [h0 e, e]; rfl
  · rw [h1 e, Int.sign_eq_one_of_pos (by omega)]
theorem oth_h (f g h : Nat → Int) (a : Nat) (k : Int) : Oth a f g h f g (ud h a k) := ⟨fun _ _ => rfl, fun b hb => ⟨rfl, by unfold ud; rw [if_neg hb]⟩⟩
theorem num_len {f g h : Nat → Int} {a : Nat} {v : Int} (x : Num f g h a v) : 0 ≤ g a ∧ (g a = 0 ↔ v = 0) ∧ g a ≤ 64 := by
  obtain ⟨n, x1, x2, _, _⟩ := x
  have := rk_z x1
  have := x1.1
  rw [x2]
  omega
theorem sg_b (u : Int) : -1 ≤ u.sign ∧ u.sign ≤ 1 ∧ (u.sign = 0 ↔ u = 0) := by
  rcases Int.lt_trichotomy u 0 with h | h | h
  · rw [Int.sign_eq_neg_one_of_neg h]; omega
  · subst h; decide
  · rw [Int.sign_eq_one_of_pos h]; omega
set_option maxHeartbeats 4000000 in
set_option maxRecDepth 100000 in
/-- tell(part) -/
theorem r_tell (l : Launch) (D : va_G) (E : Nat → ClassId) (r0 : Nat) (o vs0 : Nat → Int) (part : Int) (p1 : -2147483648 ≤ part) (p2 : part ≤ 2147483647) (hw0 : 0 < vs0 54) (hb53 : (vs0 53).natAbs < 268435456 ^ 62) (hb54 : (vs0 54).natAbs < 268435456 ^ 62) : pw_M rvL l D E yX10_tell wsX10_tell ({ frames := 3, cells := 0, slots := 0, locals := 81 } : Room) [.ref (r0), .int (iI (part))] (fun H => RO D r0 o H ∧ BN E r0 vs0 H) (fun z H => z = (if part < -1 then -1 else tellZ (vs0 53) (vs0 54) part) ∧ ∃ vs, BN E r0 vs H ∧ ∀ c, c < 49 ∨ 52 < c → vs c = vs0 c) (fun q => q = r0 + 8 ∨ q = r0 + 9 ∨ q = r0 + 10) (0) (0) := by
  refine pw_of (cc := cX10_tell) (maxL := 7) (ret := (some .long)) (by decide +kernel) rfl (Nat.le_of_ble_eq_true rfl) ?_
  intro p e s m args below meth c hx hb hr hml hts hown hlocks hini hK ⟨hO, f, g, h, ⟨hf, hg, hh⟩, hN⟩ ls hl
  have hown : s.vm.findClass RX10 = some m.cls := hown
  have hl : lv_has ls 7 [(0, .ref (r0)), (1, .int (iI (part)))] := hl
  have hS : va_S (fun q => q = r0 + 8 ∨ q = r0 + 9 ∨ q = r0 + 10) s.heap s.heap [] := va_S.rf
  have lk_41 := hts (.fieldLink RX10 41 "PolicyWorksModel" "lengths" "[I") (by decide +kernel)
  have lk_44 := hts (.fieldLink RX10 44 "PolicyWorksModel" "signs" "[I") (by decide +kernel)
  have kc_179 := hts (.constantLong RX10 179 (-1)) (by decide +kernel)
  have kc_184 := hts (.constant RX10 184 (1000000000)) (by decide +kernel)
  have kc_185 := hts (.constantLong RX10 185 (1000000000)) (by decide +kernel)
  have hin10 : ∀ w ∈ wsX100, w ∈ wsX10_tell := by decide +kernel
  have hgp : 0 < (gg (vs0 53) (vs0 54)) := gg_pos hw0
  have hsg := sg_b (vs0 53)
  have p62 : 268435456 ^ 62 < 268435456 ^ 63 := by decide +kernel
  have hgl : (gg (vs0 53) (vs0 54)) ≤ (vs0 54).natAbs := Nat.le_of_dvd (by omega) (Nat.gcd_dvd_right _ _)
  have k165 : ∀ (X Y : Nat) (vs f g h : Nat → Int) (H : Heap) (locs : List Loc) (ls : Array Slot), 0 ≤ part → (if part < -1 then -1 else tellZ (vs0 53) (vs0 54) part) = ((e18 X ((part / 2).toNat) : Nat) : Int) → Y % 1000000000000000000 = e18 X ((part / 2).toNat) → vs (49) = (Y : Int) → (∀ c, c < 49 ∨ 52 < c → vs (c) = vs0 c) → RO D r0 o H → IA E (r0 + 8) 5120 f H → IA E (r0 + 9) 80 g H → IA E (r0 + 10) 80 h H → (∀ c, c < 80 → Num f g h c (vs c)) → va_S (fun q => q = r0 + 8 ∨ q = r0 + 9 ∨ q = r0 + 10) s.heap H locs → lv_has ls 7 [(0, .ref (r0)), (1, .int (iI (part)))] → W p l e ({ frames := 3, cells := 0, slots := 0, locals := 81 } : Room) s m args below meth c H locs (0) (0) (MQ below (pw_Q rvL (fun z H => z = (if part < -1 then -1 else tellZ (vs0 53) (vs0 54) part) ∧ ∃ vs, BN E r0 vs H ∧ ∀ c, c < 49 ∨ 52 < c → vs c = vs0 c) (fun q => q = r0 + 8 ∨ q = r0 + 9 ∨ q = r0 + 10)) args s (0) (0) (fun q => q = r0 + 8 ∨ q = r0 + 9 ∨ q = r0 + 10)) (F0 m 165 ls []) := by
    intro X Y vs f g h H locs ls hp0 hres hY h49 hvc hO hf hg hh hN hS hl
    refine lv_aload_n hx hb dX10_tell_165 rfl (lv_at hl 0 rfl) ?_
    refine pw_bipush hx hb dX10_tell_166 ?_
    refine pw_ldc (z := 1000000000) hx hb hown kc_184 (by decide +kernel) dX10_tell_168 ?_
    refine pw_callVi (As := [.int (iI (49)), .int (iI (1000000000))]) (rest := []) ⟨hx, hb, hml, hown, hts⟩ (r_overSmall l D E r0 o f g h 49 (Y) 1000000000 (by omega) (by omega) (by omega) (num_at (hN (49) (by omega)) h49)) (cwV 2 hts gX10_tell_X10_overSmall rfl rfl rfl (by decide +kernel) ⟨Nat.le_of_ble_eq_true rfl, Nat.le_of_ble_eq_true rfl⟩) hK hO rfl ⟨hO, hf, hg, hh⟩ rfl hl.1 rfl (Nat.le_of_ble_eq_true rfl) dX10_tell_170 ⟨Nat.zero_le _, Nat.zero_le _⟩ hS (fun q h => h) (fun zr H1 locs1 ⟨hzr, f, g, h, ⟨hf, hg, hh⟩, hn1, ho1⟩ hz1 hk1 hS => ?_)
    have hO := hO.k (hk1 _ hO.lt (by (try dsimp only); omega))
    obtain ⟨vs, h49, hvo, hN⟩ := bn_np hN hn1 ho1
    clear hn1 ho1
    have hvc : ∀ c, c < 49 ∨ 52 < c → vs (c) = vs0 c := fun c hq => (hvo _ (by omega)).trans (hvc c hq)
    clear hvo
    subst hzr
    refine pw_i2l hx hb dX10_tell_173 ?_
    refine lv_lstore_n (lv' := [(3, .long (lI ((((Y) % 1000000000 : Nat) : Int)))), (0, .ref (r0)), (1, .int (iI (part)))]) hx hb dX10_tell_174 rfl hl (by decide) rfl (fun ls hl => ?_)
    refine lv_aload_n hx hb dX10_tell_175 rfl (lv_at hl 1 rfl) ?_
    refine pw_bipush hx hb dX10_tell_176 ?_
    refine pw_ldc (z := 1000000000) hx hb hown kc_184 (by decide +kernel) dX10_tell_178 ?_
    refine pw_callVi (As := [.int (iI (49)), .int (iI (1000000000))]) (rest := []) ⟨hx, hb, hml, hown, hts⟩ (r_overSmall l D E r0 o f g h 49 (Y / 1000000000) 1000000000 (by omega) (by omega) (by omega) (num_at (hN (49) (by omega)) h49)) (cwV 2 hts gX10_tell_X10_overSmall rfl rfl rfl (by decide +kernel) ⟨Nat.le_of_ble_eq_true rfl, Nat.le_of_ble_eq_true rfl⟩) hK hO rfl ⟨hO, hf, hg, hh⟩ rfl hl.1 rfl (Nat.le_of_ble_eq_true rfl) dX10_tell_180 ⟨Nat.zero_le _, Nat.zero_le _⟩ hS (fun q h => h) (fun zr H1 locs1 ⟨hzr, f, g, h, ⟨hf, hg, hh⟩, hn1, ho1⟩ hz1 hk1 hS => ?_)
    have hO := hO.k (hk1 _ hO.lt (by (try dsimp only); omega))
    obtain ⟨vs, h49, hvo, hN⟩ := bn_np hN hn1 ho1
    clear hn1 ho1
    have hvc : ∀ c, c < 49 ∨ 52 < c → vs (c) = vs0 c := fun c hq => (hvo _ (by omega)).trans (hvc c hq)
    clear hvo
    subst hzr
    refine pw_i2l hx hb dX10_tell_183 ?_
    refine lv_lstore (lv' := [(5, .long (lI ((((Y / 1000000000) % 1000000000 : Nat) : Int)))), (3, .long (lI ((((Y) % 1000000000 : Nat) : Int)))), (0, .ref (r0)), (1, .int (iI (part)))]) hx hb dX10_tell_184 hl (by decide) rfl (fun ls hl => ?_)
    refine lv_lload hx hb dX10_tell_186 (lv_at hl 0 rfl) ?_
    refine pw_ldc2 (z := 1000000000) hx hb hown kc_185 (by decide +kernel) dX10_tell_188 ?_
    refine pw_lmul hx hb dX10_tell_191 ?_
    refine lv_lload_n hx hb dX10_tell_192 rfl (lv_at hl 1 rfl) ?_
    refine pw_ladd hx hb dX10_tell_193 ?_
    exact pw_lret hx hb hr hlocks hS ⟨by rw [hres, ← hY]; exact e18_two Y, vs, ⟨f, g, h, ⟨hf, hg, hh⟩, hN⟩, hvc⟩ dX10_tell_194
  have loop : ∀ (X : Nat), 0 ≤ part → (if part < -1 then -1 else tellZ (vs0 53) (vs0 54) part) = ((e18 X ((part / 2).toNat) : Nat) : Int) → ∀ (kk k : Nat) (vs f g h : Nat → Int) (H : Heap) (locs : List Loc) (ls : Array Slot), k + kk = ((part / 2).toNat) → vs (49) = ((sh X k : Nat) : Int) → (∀ c, c < 49 ∨ 52 < c → vs (c) = vs0 c) → RO D r0 o H → IA E (r0 + 8) 5120 f H → IA E (r0 + 9) 80 g H → IA E (r0 + 10) 80 h H → (∀ c, c < 80 → Num f g h c (vs c)) → va_S (fun q => q = r0 + 8 ∨ q = r0 + 9 ∨ q = r0 + 10) s.heap H locs → lv_has ls 7 [(0, .ref (r0)), (1, .int (iI (part))), (3, .int (iI ((k : Int))))] → W p l e ({ frames := 3, cells := 0, slots := 0, locals := 81 } : Room) s m args below meth c H locs (0) (0) (MQ below (pw_Q rvL (fun z H => z = (if part < -1 then -1 else tellZ (vs0 53) (vs0 54) part) ∧ ∃ vs, BN E r0 vs H ∧ ∀ c, c < 49 ∨ 52 < c → vs c = vs0 c) (fun q => q = r0 + 8 ∨ q = r0 + 9 ∨ q = r0 + 10)) args s (0) (0) (fun q => q = r0 + 8 ∨ q = r0 + 9 ∨ q = r0 + 10)) (F0 m 122 ls []) := by
    intro X hp0 hres
    have e3 : part.tdiv 2 = (((part / 2).toNat) : Int) := by rw [Int.tdiv_eq_ediv_of_nonneg hp0]; omega
    intro kk
    induction kk with
    | zero =>
      intro k vs f g h H locs ls hk h49 hvc hO hf hg hh hN hS hl
      have ek : k = ((part / 2).toNat) := by omega
      refine lv_iload_n hx hb dX10_tell_122 rfl (lv_at hl 2 rfl) ?_
      refine lv_iload_n hx hb dX10_tell_123 rfl (lv_at hl 1 rfl) ?_
      refine pw_iconst hx hb dX10_tell_124 ?_
      refine pw_idiv hx hb dX10_tell_125 (by omega) ?_
      refine pw_asi ((((part / 2).toNat) : Int)) e3 ?_
      refine pw_icmp_ge (tgt := 165) hx hb dX10_tell_126 (by decide) (fun c_126 => ?_) (fun c_126 => absurd c_126 (by omega))
      exact k165 X (sh X k) vs f g h _ _ _ hp0 hres (by rw [ek]; rfl) h49 hvc hO hf hg hh hN hS (lv_sub hl [0, 1] rfl)
    | succ kk ih =>
      intro k vs f g h H locs ls hk h49 hvc hO hf hg hh hN hS hl
      have hle := num_len (hN 49 (by omega))
      refine lv_iload_n hx hb dX10_tell_122 rfl (lv_at hl 2 rfl) ?_
      refine lv_iload_n hx hb dX10_tell_123 rfl (lv_at hl 1 rfl) ?_
      refine pw_iconst hx hb dX10_tell_124 ?_
      refine pw_idiv hx hb dX10_tell_125 (by omega) ?_
      refine pw_asi ((((part / 2).toNat) : Int)) e3 ?_
      refine pw_icmp_ge (tgt := 165) hx hb dX10_tell_126 (by decide) (fun c_126 => absurd c_126 (by omega)) (fun c_126 => ?_)
      refine lv_aload_n hx hb dX10_tell_129 rfl (lv_at hl 0 rfl) ?_
      refine pw_get (C := RX10) (T := TX10) (N := 20) hx hb hts hin10 hown hK hO rfl 14 (by decide) lk_41 rfl rfl dX10_tell_130 ?_
      refine pw_bipush hx hb dX10_tell_133 ?_
      refine pw_iald hx hb hK hg (49) rfl (by omega) (by omega) dX10_tell_135 ?_
      refine pw_if_le (tgt := 165) hx hb dX10_tell_136 (by decide) (fun c_136 => ?_) (fun c_136 => ?_)
      · have h0 : sh X k = 0 := by have := hle.2.1.mp (by omega); rw [h49] at this; omega
        exact k165 X (sh X k) vs f g h _ _ _ hp0 hres (by rw [h0, e18_sh, show ((part / 2).toNat) = k + (((part / 2).toNat) - k) by omega, sh_z h0]) h49 hvc hO hf hg hh hN hS (lv_sub hl [0, 1] rfl)
      · refine lv_aload_n hx hb dX10_tell_139 rfl (lv_at hl 0 rfl) ?_
        refine pw_bipush hx hb dX10_tell_140 ?_
        refine pw_ldc (z := 1000000000) hx hb hown kc_184 (by decide +kernel) dX10_tell_142 ?_
        refine pw_callVi (As := [.int (iI (49)), .int (iI (1000000000))]) (rest := []) ⟨hx, hb, hml, hown, hts⟩ (r_overSmall l D E r0 o f g h 49 (sh X k) 1000000000 (by omega) (by omega) (by omega) (num_at (hN (49) (by omega)) h49)) (cwV 2 hts gX10_tell_X10_overSmall rfl rfl rfl (by decide +kernel) ⟨Nat.le_of_ble_eq_true rfl, Nat.le_of_ble_eq_true rfl⟩) hK hO rfl ⟨hO, hf, hg, hh⟩ rfl hl.1 rfl (Nat.le_of_ble_eq_true rfl) dX10_tell_144 ⟨Nat.zero_le _, Nat.zero_le _⟩ hS (fun q h => h) (fun zr H1 locs1 ⟨hzr, f, g, h, ⟨hf, hg, hh⟩, hn1, ho1⟩ hz1 hk1 hS => ?_)
        have hO := hO.k (hk1 _ hO.lt (by (try dsimp only); omega))
        obtain ⟨vs, h49, hvo, hN⟩ := bn_np hN hn1 ho1
        clear hn1 ho1
        have hvc : ∀ c, c < 49 ∨ 52 < c → vs (c) = vs0 c := fun c hq => (hvo _ (by omega)).trans (hvc c hq)
        clear hvo
        subst hzr
        refine lv_istore (lv' := [(4, .int (iI ((((sh X k) % 1000000000 : Nat) : Int)))), (0, .ref (r0)), (1, .int (iI (part))), (3, .int (iI ((k : Int))))]) hx hb dX10_tell_147 hl (by decide) rfl (fun ls hl => ?_)
        refine lv_aload_n hx hb dX10_tell_149 rfl (lv_at hl 1 rfl) ?_
        refine pw_bipush hx hb dX10_tell_150 ?_
        refine pw_ldc (z := 1000000000) hx hb hown kc_184 (by decide +kernel) dX10_tell_152 ?_
        refine pw_callVi (As := [.int (iI (49)), .int (iI (1000000000))]) (rest := []) ⟨hx, hb, hml, hown, hts⟩ (r_overSmall l D E r0 o f g h 49 (sh X k / 1000000000) 1000000000 (by omega) (by omega) (by omega) (num_at (hN (49) (by omega)) h49)) (cwV 2 hts gX10_tell_X10_overSmall rfl rfl rfl (by decide +kernel) ⟨Nat.le_of_ble_eq_true rfl, Nat.le_of_ble_eq_true rfl⟩) hK hO rfl ⟨hO, hf, hg, hh⟩ rfl hl.1 rfl (Nat.le_of_ble_eq_true rfl) dX10_tell_154 ⟨Nat.zero_le _, Nat.zero_le _⟩ hS (fun q h => h) (fun zr H1 locs1 ⟨hzr, f, g, h, ⟨hf, hg, hh⟩, hn1, ho1⟩ hz1 hk1 hS => ?_)
        have hO := hO.k (hk1 _ hO.lt (by (try dsimp only); omega))
        obtain ⟨vs, h49, hvo, hN⟩ := bn_np hN hn1 ho1
        clear hn1 ho1
        have hvc : ∀ c, c < 49 ∨ 52 < c → vs (c) = vs0 c := fun c hq => (hvo _ (by omega)).trans (hvc c hq)
        clear hvo
        subst hzr
        refine lv_istore (lv' := [(4, .int (iI ((((sh X k / 1000000000) % 1000000000 : Nat) : Int)))), (0, .ref (r0)), (1, .int (iI (part))), (3, .int (iI ((k : Int))))]) hx hb dX10_tell_157 hl (by decide) rfl (fun ls hl => ?_)
        refine lv_iinc (v := iI (((k + 1 : Nat) : Int))) (lv' := [(3, .int (iI (((k + 1 : Nat) : Int)))), (4, .int (iI ((((sh X k / 1000000000) % 1000000000 : Nat) : Int)))), (0, .ref (r0)), (1, .int (iI (part)))]) hx hb dX10_tell_159 hl (k := 3) rfl (by show iI _ + iI _ = _; exact (iI_add _ _).trans (by first | rfl | (congr 1; omega))) (by decide) rfl (fun ls hl => ?_)
        refine lv_goto (tgt := 122) hx hb dX10_tell_162 (by decide) ?_
        exact ih (k + 1) vs f g h _ _ _ (by omega) (by rw [h49, sh_s]) hvc hO hf hg hh hN hS (lv_sub hl [2, 3, 0] rfl)
  have k112 : ∀ (x : Nat) (vs f g h : Nat → Int) (H : Heap) (locs : List Loc) (ls : Array Slot), 0 ≤ part → (gg (vs0 53) (vs0 54)) ∣ x → (if part < -1 then -1 else tellZ (vs0 53) (vs0 54) part) = ((e18 (x / (gg (vs0 53) (vs0 54))) ((part / 2).toNat) : Nat) : Int) → vs (49) = (x : Int) → vs (50) = ((gg (vs0 53) (vs0 54)) : Int) → (∀ c, c < 49 ∨ 52 < c → vs (c) = vs0 c) → RO D r0 o H → IA E (r0 + 8) 5120 f H → IA E (r0 + 9) 80 g H → IA E (r0 + 10) 80 h H → (∀ c, c < 80 → Num f g h c (vs c)) → va_S (fun q => q = r0 + 8 ∨ q = r0 + 9 ∨ q = r0 + 10) s.heap H locs → lv_has ls 7 [(0, .ref (r0)), (1, .int (iI (part)))] → W p l e ({ frames := 3, cells := 0, slots := 0, locals := 81 } : Room) s m args below meth c H locs (0) (0) (MQ below (pw_Q rvL (fun z H => z = (if part < -1 then -1 else tellZ (vs0 53) (vs0 54) part) ∧ ∃ vs, BN E r0 vs H ∧ ∀ c, c < 49 ∨ 52 < c → vs c = vs0 c) (fun q => q = r0 + 8 ∨ q = r0 + 9 ∨ q = r0 + 10)) args s (0) (0) (fun q => q = r0 + 8 ∨ q = r0 + 9 ∨ q = r0 + 10)) (F0 m 112 ls []) := by
    intro x vs f g h H locs ls hp0 hdv hres h49 h50 hvc hO hf hg hh hN hS hl
    refine lv_aload_n hx hb dX10_tell_112 rfl (lv_at hl 0 rfl) ?_
    refine pw_bipush hx hb dX10_tell_113 ?_
    refine pw_bipush hx hb dX10_tell_115 ?_
    refine pw_callVv (As := [.int (iI (49)), .int (iI (50))]) (rest := []) ⟨hx, hb, hml, hown, hts⟩ (r_over l D E r0 o f g h 49 50 (x : Int) ((gg (vs0 53) (vs0 54)) : Int) ((x / (gg (vs0 53) (vs0 54)) : Nat) : Int) (by omega) (by omega) (by omega) (by omega) (by omega) (num_at (hN (49) (by omega)) h49) (num_at (hN (50) (by omega)) h50) (by omega) (by rw [← Int.natCast_mul, Nat.div_mul_cancel hdv]) (by omega)) (cwV 2 hts gX10_tell_X10_over rfl rfl rfl (by decide +kernel) ⟨Nat.le_of_ble_eq_true rfl, Nat.le_of_ble_eq_true rfl⟩) hK hO rfl ⟨hO, hf, hg, hh⟩ rfl hl.1 rfl (Nat.le_of_ble_eq_true rfl) dX10_tell_117 ⟨Nat.zero_le _, Nat.zero_le _⟩ hS (fun q h => h) (fun H1 locs1 ⟨f, g, h, ⟨hf, hg, hh⟩, hn1, hn4, ho1⟩ hz1 hk1 hS => ?_)
    have hO := hO.k (hk1 _ hO.lt (by (try dsimp only); omega))
    obtain ⟨vs, h49, hvo, hN⟩ := bn_nq hN hn1 hn4 ho1
    clear hn1 hn4 ho1
    have hvc : ∀ c, c < 49 ∨ 52 < c → vs (c) = vs0 c := fun c hq => (hvo _ (by omega) (by omega)).trans (hvc c hq)
    clear hvo
    refine pw_iconst hx hb dX10_tell_120 ?_
    refine pw_asi (((0 : Nat) : Int)) rfl ?_
    refine lv_istore_n (lv' := [(3, .int (iI (((0 : Nat) : Int)))), (0, .ref (r0)), (1, .int (iI (part)))]) hx hb dX10_tell_121 rfl hl (by decide) rfl (fun ls hl => ?_)
    exact loop (x / (gg (vs0 53) (vs0 54))) hp0 hres ((part / 2).toNat) 0 vs f g h _ _ _ (by omega) (by rw [h49, sh_0]) hvc hO hf hg hh hN hS (lv_sub hl [1, 2, 0] rfl)
  have k90 : ∀ (y : Int) (vs f g h : Nat → Int) (H : Heap) (locs : List Loc) (ls : Array Slot), 0 ≤ part → (gg (vs0 53) (vs0 54)) ∣ y.natAbs → (if part < -1 then -1 else tellZ (vs0 53) (vs0 54) part) = ((e18 (y.natAbs / (gg (vs0 53) (vs0 54))) ((part / 2).toNat) : Nat) : Int) → vs (49) = y → vs (50) = ((gg (vs0 53) (vs0 54)) : Int) → (∀ c, c < 49 ∨ 52 < c → vs (c) = vs0 c) → RO D r0 o H → IA E (r0 + 8) 5120 f H → IA E (r0 + 9) 80 g H → IA E (r0 + 10) 80 h H → (∀ c, c < 80 → Num f g h c (vs c)) → va_S (fun q => q = r0 + 8 ∨ q = r0 + 9 ∨ q = r0 + 10) s.heap H locs → lv_has ls 7 [(0, .ref (r0)), (1, .int (iI (part)))] → W p l e ({ frames := 3, cells := 0, slots := 0, locals := 81 } : Room) s m args below meth c H locs (0) (0) (MQ below (pw_Q rvL (fun z H => z = (if part < -1 then -1 else tellZ (vs0 53) (vs0 54) part) ∧ ∃ vs, BN E r0 vs H ∧ ∀ c, c < 49 ∨ 52 < c → vs c = vs0 c) (fun q => q = r0 + 8 ∨ q = r0 + 9 ∨ q = r0 + 10)) args s (0) (0) (fun q => q = r0 + 8 ∨ q = r0 + 9 ∨ q = r0 + 10)) (F0 m 90 ls []) := by
    intro y vs f g h H locs ls hp0 hdv hres h49 h50 hvc hO hf hg hh hN hS hl
    have hle := num_len (hN 49 (by omega))
    rw [h49] at hle
    refine lv_aload_n hx hb dX10_tell_90 rfl (lv_at hl 0 rfl) ?_
    refine pw_get (C := RX10) (T := TX10) (N := 20) hx hb hts hin10 hown hK hO rfl 15 (by decide) lk_44 rfl rfl dX10_tell_91 ?_
    refine pw_bipush hx hb dX10_tell_94 ?_
    refine lv_aload_n hx hb dX10_tell_96 rfl (lv_at hl 0 rfl) ?_
    refine pw_get (C := RX10) (T := TX10) (N := 20) hx hb hts hin10 hown hK hO rfl 14 (by decide) lk_41 rfl rfl dX10_tell_97 ?_
    refine pw_bipush hx hb dX10_tell_100 ?_
    refine pw_iald hx hb hK hg (49) rfl (by omega) (by omega) dX10_tell_102 ?_
    refine pw_if_ne (tgt := 110) hx hb dX10_tell_103 (by decide) (fun c_103 => ?_) (fun c_103 => ?_)
    · refine pw_iconst hx hb dX10_tell_110 ?_
      refine pw_iast hx hb hK hh hS (Or.inr (Or.inr rfl)) (49) rfl (by omega) (by omega) dX10_tell_111 (fun H1 locs1 hnew hz1 oq hS => ?_)
      have hO := hO.k (oq _ (by omega))
      have hf := hf.k (oq _ (by omega))
      have hg := hg.k (oq _ (by omega))
      have hh := hnew
      clear hnew oq hz1
      obtain ⟨vs, h49, hvo, hN⟩ := bn_np hN (num_abs (k := 1) (num_at (hN (49) (by omega)) h49) (fun e => by omega) (fun e => by omega)) (oth_h f g h 49 1)
      have h50 := (hvo 50 (by omega)).trans h50
      have hvc : ∀ c, c < 49 ∨ 52 < c → vs (c) = vs0 c := fun c hq => (hvo _ (by omega)).trans (hvc c hq)
      clear hvo
      exact k112 y.natAbs vs f g _ _ _ _ hp0 hdv hres h49 h50 hvc hO hf hg hh hN hS (lv_sub hl [0, 1] rfl)
    · refine pw_iconst hx hb dX10_tell_106 ?_
      refine lv_goto (tgt := 111) hx hb dX10_tell_107 (by decide) ?_
      refine pw_iast hx hb hK hh hS (Or.inr (Or.inr rfl)) (49) rfl (by omega) (by omega) dX10_tell_111 (fun H1 locs1 hnew hz1 oq hS => ?_)
      have hO := hO.k (oq _ (by omega))
      have hf := hf.k (oq _ (by omega))
      have hg := hg.k (oq _ (by omega))
      have hh := hnew
      clear hnew oq hz1
      obtain ⟨vs, h49, hvo, hN⟩ := bn_np hN (num_abs (k := 0) (num_at (hN (49) (by omega)) h49) (fun e => by omega) (fun e => by omega)) (oth_h f g h 49 0)
      have h50 := (hvo 50 (by omega)).trans h50
      have hvc : ∀ c, c < 49 ∨ 52 < c → vs (c) = vs0 c := fun c hq => (hvo _ (by omega)).trans (hvc c hq)
      clear hvo
      exact k112 y.natAbs vs f g _ _ _ _ hp0 hdv hres h49 h50 hvc hO hf hg hh hN hS (lv_sub hl [0, 1] rfl)
  have k55 : ∀ (vs f g h : Nat → Int) (H : Heap) (locs : List Loc) (ls : Array Slot), 0 ≤ part → vs (49) = ((vs0 53).natAbs : Int) → (∀ c, c < 49 ∨ 52 < c → vs (c) = vs0 c) → RO D r0 o H → IA E (r0 + 8) 5120 f H → IA E (r0 + 9) 80 g H → IA E (r0 + 10) 80 h H → (∀ c, c < 80 → Num f g h c (vs c)) → va_S (fun q => q = r0 + 8 ∨ q = r0 + 9 ∨ q = r0 + 10) s.heap H locs → lv_has ls 7 [(0, .ref (r0)), (1, .int (iI (part)))] → W p l e ({ frames := 3, cells := 0, slots := 0, locals := 81 } : Room) s m args below meth c H locs (0) (0) (MQ below (pw_Q rvL (fun z H => z = (if part < -1 then -1 else tellZ (vs0 53) (vs0 54) part) ∧ ∃ vs, BN E r0 vs H ∧ ∀ c, c < 49 ∨ 52 < c → vs c = vs0 c) (fun q => q = r0 + 8 ∨ q = r0 + 9 ∨ q = r0 + 10)) args s (0) (0) (fun q => q = r0 + 8 ∨ q = r0 + 9 ∨ q = r0 + 10)) (F0 m 55 ls []) := by
    intro vs f g h H locs ls hp0 h49 hvc hO hf hg hh hN hS hl
    have h54 := hvc 54 (by omega)
    have e2 : part.tmod 2 = part % 2 := Int.tmod_eq_emod_of_nonneg hp0
    refine lv_aload_n hx hb dX10_tell_55 rfl (lv_at hl 0 rfl) ?_
    refine pw_bipush hx hb dX10_tell_56 ?_
    refine pw_bipush hx hb dX10_tell_58 ?_
    refine pw_callVv (As := [.int (iI (54)), .int (iI (50))]) (rest := []) ⟨hx, hb, hml, hown, hts⟩ (r_copy l D E r0 o f g h 54 50 (vs0 54) (by omega) (by omega) (by omega) (num_at (hN (54) (by omega)) h54)) (cwV 2 hts gX10_tell_X10_copy rfl rfl rfl (by decide +kernel) ⟨Nat.le_of_ble_eq_true rfl, Nat.le_of_ble_eq_true rfl⟩) hK hO rfl ⟨hO, hf, hg, hh⟩ rfl hl.1 rfl (Nat.le_of_ble_eq_true rfl) dX10_tell_60 ⟨Nat.zero_le _, Nat.zero_le _⟩ hS (fun q h => h) (fun H1 locs1 ⟨f, g, h, ⟨hf, hg, hh⟩, hn1, ho1⟩ hz1 hk1 hS => ?_)
    have hO := hO.k (hk1 _ hO.lt (by (try dsimp only); omega))
    obtain ⟨vs, hva0, hvo, hN⟩ := bn_np hN hn1 ho1
    clear hn1 ho1
    have h49 : vs (49) = ((vs0 53).natAbs : Int) := (hvo _ (by omega)).trans h49
    have h54 : vs (54) = vs0 54 := (hvo _ (by omega)).trans h54
    have hvc : ∀ c, c < 49 ∨ 52 < c → vs (c) = vs0 c := fun c hq => (hvo _ (by omega)).trans (hvc c hq)
    have h50 : vs (50) = vs0 54 := hva0
    clear hva0 hvo
    refine lv_aload_n hx hb dX10_tell_63 rfl (lv_at hl 0 rfl) ?_
    refine pw_bipush hx hb dX10_tell_64 ?_
    refine pw_bipush hx hb dX10_tell_66 ?_
    refine pw_callVv (As := [.int (iI (50)), .int (iI (49))]) (rest := []) ⟨hx, hb, hml, hown, hts⟩ (r_divisor l D E r0 50 49 (vs0 54).natAbs (vs0 53).natAbs o vs (by omega) (by omega) (by omega) (by omega) (by omega) (by omega) (by omega) (by omega) (by rw [h50]; omega) h49) (cwV 2 hts gX10_tell_X10_divisor rfl rfl rfl (by decide +kernel) ⟨Nat.le_of_ble_eq_true rfl, Nat.le_of_ble_eq_true rfl⟩) hK hO rfl ⟨hO, f, g, h, ⟨hf, hg, hh⟩, hN⟩ rfl hl.1 rfl (Nat.le_of_ble_eq_true rfl) dX10_tell_68 ⟨Nat.zero_le _, Nat.zero_le _⟩ hS (fun q h => h) (fun H1 locs1 ⟨vs1, ⟨f, g, h, ⟨hf, hg, hh⟩, hN⟩, h50, hvo⟩ hz1 hk1 hS => ?_)
    have hO := hO.k (hk1 _ hO.lt (by (try dsimp only); omega))
    have h50 : vs1 (50) = ((gg (vs0 53) (vs0 54)) : Int) := by rw [h50, Nat.gcd_comm]; rfl
    have hvc : ∀ c, c < 49 ∨ 52 < c → vs1 (c) = vs0 c := fun c hq => (hvo _ (by omega) (by omega) (by omega)).trans (hvc c hq)
    have h54 := hvc 54 (by omega)
    have h53 := hvc 53 (by omega)
    clear hvo
    refine lv_aload_n hx hb dX10_tell_71 rfl (lv_at hl 0 rfl) ?_
    refine lv_iload_n hx hb dX10_tell_72 rfl (lv_at hl 1 rfl) ?_
    refine pw_iconst hx hb dX10_tell_73 ?_
    refine pw_irem hx hb dX10_tell_74 (by omega) ?_
    refine pw_asi (part % 2) e2 ?_
    refine pw_if_ne (tgt := 83) hx hb dX10_tell_75 (by decide) (fun c_75 => ?_) (fun c_75 => ?_)
    · refine pw_bipush hx hb dX10_tell_83 ?_
      refine pw_bipush hx hb dX10_tell_85 ?_
      refine pw_callVv (As := [.int (iI (54)), .int (iI (49))]) (rest := []) ⟨hx, hb, hml, hown, hts⟩ (r_copy l D E r0 o f g h 54 49 (vs0 54) (by omega) (by omega) (by omega) (num_at (hN (54) (by omega)) h54)) (cwV 2 hts gX10_tell_X10_copy rfl rfl rfl (by decide +kernel) ⟨Nat.le_of_ble_eq_true rfl, Nat.le_of_ble_eq_true rfl⟩) hK hO rfl ⟨hO, hf, hg, hh⟩ rfl hl.1 rfl (Nat.le_of_ble_eq_true rfl) dX10_tell_87 ⟨Nat.zero_le _, Nat.zero_le _⟩ hS (fun q h => h) (fun H1 locs1 ⟨f, g, h, ⟨hf, hg, hh⟩, hn1, ho1⟩ hz1 hk1 hS => ?_)
      have hO := hO.k (hk1 _ hO.lt (by (try dsimp only); omega))
      obtain ⟨vs, hva0, hvo, hN⟩ := bn_np hN hn1 ho1
      clear hn1 ho1
      have h50 : vs (50) = ((gg (vs0 53) (vs0 54)) : Int) := (hvo _ (by omega)).trans h50
      have hvc : ∀ c, c < 49 ∨ 52 < c → vs (c) = vs0 c := fun c hq => (hvo _ (by omega)).trans (hvc c hq)
      have hy : vs (49) = vs0 54 := hva0
      clear hva0 hvo
      exact k90 (vs0 54) vs f g h _ _ _ hp0 (Nat.gcd_dvd_right _ _) (by unfold tellZ; rw [if_neg (by omega), if_neg (by omega), if_neg (by omega)]) hy h50 hvc hO hf hg hh hN hS (lv_sub hl [0, 1] rfl)
    · refine pw_bipush hx hb dX10_tell_78 ?_
      refine lv_goto (tgt := 85) hx hb dX10_tell_80 (by decide) ?_
      refine pw_bipush hx hb dX10_tell_85 ?_
      refine pw_callVv (As := [.int (iI (53)), .int (iI (49))]) (rest := []) ⟨hx, hb, hml, hown, hts⟩ (r_copy l D E r0 o f g h 53 49 (vs0 53) (by omega) (by omega) (by omega) (num_at (hN (53) (by omega)) h53)) (cwV 2 hts gX10_tell_X10_copy rfl rfl rfl (by decide +kernel) ⟨Nat.le_of_ble_eq_true rfl, Nat.le_of_ble_eq_true rfl⟩) hK hO rfl ⟨hO, hf, hg, hh⟩ rfl hl.1 rfl (Nat.le_of_ble_eq_true rfl) dX10_tell_87 ⟨Nat.zero_le _, Nat.zero_le _⟩ hS (fun q h => h) (fun H1 locs1 ⟨f, g, h, ⟨hf, hg, hh⟩, hn1, ho1⟩ hz1 hk1 hS => ?_)
      have hO := hO.k (hk1 _ hO.lt (by (try dsimp only); omega))
      obtain ⟨vs, hva0, hvo, hN⟩ := bn_np hN hn1 ho1
      clear hn1 ho1
      have h50 : vs (50) = ((gg (vs0 53) (vs0 54)) : Int) := (hvo _ (by omega)).trans h50
      have hvc : ∀ c, c < 49 ∨ 52 < c → vs (c) = vs0 c := fun c hq => (hvo _ (by omega)).trans (hvc c hq)
      have hy : vs (49) = vs0 53 := hva0
      clear hva0 hvo
      exact k90 (vs0 53) vs f g h _ _ _ hp0 (Nat.gcd_dvd_left _ _) (by unfold tellZ; rw [if_neg (by omega), if_neg (by omega), if_pos (by omega)]) hy h50 hvc hO hf hg hh hN hS (lv_sub hl [0, 1] rfl)
  have h53 : vs0 (53) = vs0 53 := rfl
  have hs53 := num_sg (hN 53 (by omega))
  have hvc : ∀ c, c < 49 ∨ 52 < c → vs0 (c) = vs0 c := fun _ _ => rfl
  refine lv_iload_n hx hb dX10_tell_0 rfl (lv_at hl 1 rfl) ?_
  refine pw_iconst hx hb dX10_tell_1 ?_
  refine pw_icmp_ge (tgt := 9) hx hb dX10_tell_2 (by decide) (fun c_2 => ?_) (fun c_2 => ?_)
  · refine lv_iload_n hx hb dX10_tell_9 rfl (lv_at hl 1 rfl) ?_
    refine pw_iconst hx hb dX10_tell_10 ?_
    refine pw_icmp_ne (tgt := 23) hx hb dX10_tell_11 (by decide) (fun c_11 => ?_) (fun c_11 => ?_)
    · refine lv_aload_n hx hb dX10_tell_23 rfl (lv_at hl 0 rfl) ?_
      refine pw_get (C := RX10) (T := TX10) (N := 20) hx hb hts hin10 hown hK hO rfl 15 (by decide) lk_44 rfl rfl dX10_tell_24 ?_
      refine pw_bipush hx hb dX10_tell_27 ?_
      refine pw_iald hx hb hK hh (53) rfl (by omega) (by omega) dX10_tell_29 ?_
      refine pw_asi ((vs0 53).sign) hs53 ?_
      refine lv_istore_n (lv' := [(2, .int (iI ((vs0 53).sign))), (0, .ref (r0)), (1, .int (iI (part)))]) hx hb dX10_tell_30 rfl hl (by decide) rfl (fun ls hl => ?_)
      refine lv_aload_n hx hb dX10_tell_31 rfl (lv_at hl 1 rfl) ?_
      refine pw_bipush hx hb dX10_tell_32 ?_
      refine pw_bipush hx hb dX10_tell_34 ?_
      refine pw_callVv (As := [.int (iI (53)), .int (iI (49))]) (rest := []) ⟨hx, hb, hml, hown, hts⟩ (r_copy l D E r0 o f g h 53 49 (vs0 53) (by omega) (by omega) (by omega) (num_at (hN (53) (by omega)) h53)) (cwV 2 hts gX10_tell_X10_copy rfl rfl rfl (by decide +kernel) ⟨Nat.le_of_ble_eq_true rfl, Nat.le_of_ble_eq_true rfl⟩) hK hO rfl ⟨hO, hf, hg, hh⟩ rfl hl.1 rfl (Nat.le_of_ble_eq_true rfl) dX10_tell_36 ⟨Nat.zero_le _, Nat.zero_le _⟩ hS (fun q h => h) (fun H1 locs1 ⟨f, g, h, ⟨hf, hg, hh⟩, hn1, ho1⟩ hz1 hk1 hS => ?_)
      have hO := hO.k (hk1 _ hO.lt (by (try dsimp only); omega))
      obtain ⟨vs, hva0, hvo, hN⟩ := bn_np hN hn1 ho1
      clear hn1 ho1
      have hvc : ∀ c, c < 49 ∨ 52 < c → vs (c) = vs0 c := fun c hq => (hvo _ (by omega)).trans (hvc c hq)
      have h49 : vs (49) = vs0 53 := hva0
      clear hva0 hvo
      refine lv_aload_n hx hb dX10_tell_39 rfl (lv_at hl 1 rfl) ?_
      refine pw_get (C := RX10) (T := TX10) (N := 20) hx hb hts hin10 hown hK hO rfl 15 (by decide) lk_44 rfl rfl dX10_tell_40 ?_
      refine pw_bipush hx hb dX10_tell_43 ?_
      refine lv_iload_n hx hb dX10_tell_45 rfl (lv_at hl 0 rfl) ?_
      refine pw_if_ne (tgt := 53) hx hb dX10_tell_46 (by decide) (fun c_46 => ?_) (fun c_46 => ?_)
      · refine pw_iconst hx hb dX10_tell_53 ?_
        refine pw_iast hx hb hK hh hS (Or.inr (Or.inr rfl)) (49) rfl (by omega) (by omega) dX10_tell_54 (fun H1 locs1 hnew hz1 oq hS => ?_)
        have hO := hO.k (oq _ (by omega))
        have hf := hf.k (oq _ (by omega))
        have hg := hg.k (oq _ (by omega))
        have hh := hnew
        clear hnew oq hz1
        obtain ⟨vs, h49, hvo, hN⟩ := bn_np hN (num_abs (k := 1) (num_at (hN (49) (by omega)) h49) (fun e => by omega) (fun e => by omega)) (oth_h f g h 49 1)
        have hvc : ∀ c, c < 49 ∨ 52 < c → vs (c) = vs0 c := fun c hq => (hvo _ (by omega)).trans (hvc c hq)
        clear hvo
        exact k55 vs f g _ _ _ _ (by omega) h49 hvc hO hf hg hh hN hS (lv_sub hl [1, 2] rfl)
      · refine pw_iconst hx hb dX10_tell_49 ?_
        refine lv_goto (tgt := 54) hx hb dX10_tell_50 (by decide) ?_
        refine pw_iast hx hb hK hh hS (Or.inr (Or.inr rfl)) (49) rfl (by omega) (by omega) dX10_tell_54 (fun H1 locs1 hnew hz1 oq hS => ?_)
        have hO := hO.k (oq _ (by omega))
        have hf := hf.k (oq _ (by omega))
        have hg := hg.k (oq _ (by omega))
        have hh := hnew
        clear hnew oq hz1
        obtain ⟨vs, h49, hvo, hN⟩ := bn_np hN (num_abs (k := 0) (num_at (hN (49) (by omega)) h49) (fun e => by omega) (fun e => by omega)) (oth_h f g h 49 0)
        have hvc : ∀ c, c < 49 ∨ 52 < c → vs (c) = vs0 c := fun c hq => (hvo _ (by omega)).trans (hvc c hq)
        clear hvo
        exact k55 vs f g _ _ _ _ (by omega) h49 hvc hO hf hg hh hN hS (lv_sub hl [1, 2] rfl)
    · refine lv_aload_n hx hb dX10_tell_14 rfl (lv_at hl 0 rfl) ?_
      refine pw_get (C := RX10) (T := TX10) (N := 20) hx hb hts hin10 hown hK hO rfl 15 (by decide) lk_44 rfl rfl dX10_tell_15 ?_
      refine pw_bipush hx hb dX10_tell_18 ?_
      refine pw_iald hx hb hK hh (53) rfl (by omega) (by omega) dX10_tell_20 ?_
      refine pw_asi ((vs0 53).sign) hs53 ?_
      refine pw_i2l hx hb dX10_tell_21 ?_
      exact pw_lret hx hb hr hlocks hS ⟨by unfold tellZ; rw [if_neg (by omega), if_pos (by omega)], vs0, ⟨f, g, h, ⟨hf, hg, hh⟩, hN⟩, fun _ _ => rfl⟩ dX10_tell_22
  · refine pw_ldc2 (z := -1) hx hb hown kc_179 (by decide +kernel) dX10_tell_5 ?_
    exact pw_lret hx hb hr hlocks hS ⟨by rw [if_pos (by omega)], vs0, ⟨f, g, h, ⟨hf, hg, hh⟩, hN⟩, fun _ _ => rfl⟩ dX10_tell_8
set_option maxHeartbeats 4000000 in
set_option maxRecDepth 100000 in
/-- none(part) -/
theorem r_none (l : Launch) (D : va_G) (E : Nat → ClassId) (part : Int) (p1 : -2147483648 ≤ part) (p2 : part ≤ 2147483647) : pw_M rvI l D E yX10_none wsX10_none ({ frames := 0, cells := 0, slots := 0, locals := 0 } : Room) [.int (iI (part))] (fun H => True) (fun z H => z = (if part = -1 then -2 else -1)) (fun _ => False) (0) (0) := by
  refine pw_of (cc := cX10_none) (maxL := 1) (ret := (some .int)) (by decide +kernel) rfl (Nat.le_of_ble_eq_true rfl) ?_
  intro p e s m args below meth c hx hb hr hml hts hown hlocks hini hK hPre ls hl
  have hown : s.vm.findClass RX10 = some m.cls := hown
  have hl : lv_has ls 1 [(0, .int (iI (part)))] := hl
  have hS : va_S (fun _ => False) s.heap s.heap [] := va_S.rf
  refine lv_iload_n hx hb dX10_none_0 rfl (lv_at hl 0 rfl) ?_
  refine pw_iconst hx hb dX10_none_1 ?_
  refine pw_icmp_ne (tgt := 10) hx hb dX10_none_2 (by decide) (fun c_2 => ?_) (fun c_2 => ?_)
  · refine pw_iconst hx hb dX10_none_10 ?_
    exact pw_iret hx hb hr hlocks hS (by rw [if_neg (by omega)]) dX10_none_11
  · refine pw_bipush hx hb dX10_none_5 ?_
    refine lv_goto (tgt := 11) hx hb dX10_none_7 (by decide) ?_
    exact pw_iret hx hb hr hlocks hS (by rw [if_pos (by omega)]) dX10_none_11
