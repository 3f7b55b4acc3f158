/-! the reference: its numbers' small methods -/
def dv (x n : Nat) : Nat := x / 268435456 ^ n
theorem dv_next (x n : Nat) : dv x n / 268435456 = dv x (n + 1) := dv_s x n
theorem dv_le (x n : Nat) : dv x n ≤ x := Nat.div_le_self _ _
theorem dv_0 (x : Nat) : dv x 0 = x := by unfold dv; rw [Nat.pow_zero, Nat.div_one]
theorem dv_z {x n : Nat} : dv x n = 0 ↔ x < 268435456 ^ n := by
  unfold dv
  rw [Nat.div_eq_zero_iff]
  have := rb_pos n
  omega
abbrev RO (D : va_G) (r0 : Nat) (o : Nat → Int) (H : Heap) : Prop := OA D r0 10 [.int (iI (o 0)), .int (iI (o 1)), .ref (r0 + 1), .ref (r0 + 2), .ref (r0 + 3), .ref (r0 + 4), .int (iI (o 2)), .int (iI (o 3)), .int (iI (o 4)), .int (iI (o 5)), .ref (r0 + 5), .ref (r0 + 6), .ref (r0 + 7), .ref (r0 + 8), .ref (r0 + 9), .ref (r0 + 10), .ref (r0 + 11), .ref (r0 + 12), .ref (r0 + 13), .int (iI (o 6))] H
def NA (E : Nat → ClassId) (r0 : Nat) (f g h : Nat → Int) (H : Heap) : Prop := IA E (r0 + 8) 5120 f H ∧ IA E (r0 + 9) 80 g H ∧ IA E (r0 + 10) 80 h H
/-- number a is v, and all else stays -/
def NP (E : Nat → ClassId) (r0 a : Nat) (v : Int) (f g h : Nat → Int) (H : Heap) : Prop := ∃ f' g' h', NA E r0 f' g' h' H ∧ Num f' g' h' a v ∧ Oth a f g h f' g' h'
theorem np_fin {E : Nat → ClassId} {r0 a n : Nat} {v sg : Int} {f f0 g h : Nat → Int} {H : Heap} (hf : IA E (r0 + 8) 5120 f H) (hg : IA E (r0 + 9) 80 (ud g a (n : Int)) H) (hh : IA E (r0 + 10) 80 (ud h a sg) H) (hrk : rk v.natAbs n) (hD : DG f a v.natAbs n) (hs : sg = v.sign) (hof : ∀ q, q < 64 * a ∨ 64 * a + 64 ≤ q → f q = f0 q) : NP E r0 a v f0 g h H :=
  ⟨f, ud g a (n : Int), ud h a sg, ⟨hf, hg, hh⟩, ⟨n, hrk, ud_s _ _ _, hD, by rw [ud_s]; exact hs⟩, hof, fun b hb => ⟨ud_n _ _ hb, ud_n _ _ hb⟩⟩
theorem NP.tr {E : Nat → ClassId} {r0 a : Nat} {v : Int} {f g h f1 g1 h1 : Nat → Int} {H : Heap} (x : NP E r0 a v f1 g1 h1 H) (y : Oth a f g h f1 g1 h1) : NP E r0 a v f g h H := by
  obtain ⟨f', g', h', p1, p2, p3⟩ := x
  exact ⟨f', g', h', p1, p2, y.tr p3⟩
theorem sgn_c (u : Int) : (u.sign = 1 ∧ 0 < u) ∨ (u.sign = 0 ∧ u = 0) ∨ (u.sign = -1 ∧ u < 0) := by
  rcases Int.lt_trichotomy u 0 with hu | hu | hu
  · exact Or.inr (Or.inr ⟨Int.sign_eq_neg_one_of_neg hu, hu⟩)
  · exact Or.inr (Or.inl ⟨by rw [hu]; rfl, hu⟩)
  · exact Or.inl ⟨Int.sign_eq_one_of_pos hu, hu⟩
theorem sgn_b (u : Int) : -1 ≤ u.sign ∧ u.sign ≤ 1 := by
  rcases sgn_c u with h | h | h <;> omega
def cz (x y : Nat) : Int := if x < y then -1 else if x = y then 0 else 1
def cI (x y : Int) : Int := if x < y then -1 else if x = y then 0 else 1
theorem cz_b (x y : Nat) : -1 ≤ cz x y ∧ cz x y ≤ 1 := by unfold cz; split; omega; split <;> omega
theorem cz_lt {x y : Nat} (h : x < y) : cz x y = -1 := if_pos h
theorem cz_gt {x y : Nat} (h : y < x) : cz x y = 1 := by unfold cz; rw [if_neg (by omega), if_neg (by omega)]
theorem cz_eq {x y : Nat} (h : x = y) : cz x y = 0 := by unfold cz; rw [if_neg (by omega), if_pos h]
theorem cI_sgn {u v : Int} (h : u.sign ≠ v.sign) : cI u v = if u.sign < v.sign then -1 else 1 := by
  unfold cI
  rcases sgn_c u with h1 | h1 | h1 <;> rcases sgn_c v with h2 | h2 | h2 <;> split <;> split <;> (try split) <;> omega
theorem cI_same {u v : Int} (h : u.sign = v.sign) : cI u v = u.sign * cz u.natAbs v.natAbs := by
  unfold cI cz
  rcases sgn_c u with h1 | h1 | h1 <;> rcases sgn_c v with h2 | h2 | h2 <;> rw [h1.1] <;> (try omega) <;> split <;> (try split) <;> split <;> (try split) <;> omega
set_option maxHeartbeats 4000000 in
set_option maxRecDepth 100000 in
/-- limb(a, k) -/
theorem r_limb (l : Launch) (D : va_G) (E : Nat → ClassId) (r0 : Nat) (o f g h : Nat → Int) (a k n : Nat) (ha : a < 80) (hk : k < 64) (hn : n ≤ 64) (hga : g a = (n : Int)) : pw_M rvI l D E yX10_limb wsX10_limb ({ frames := 0, cells := 0, slots := 0, locals := 0 } : Room) [.ref (r0), .int (iI ((a : Int))), .int (iI ((k : Int)))] (fun H => RO D r0 o H ∧ NA E r0 f g h H) (fun z _ => z = if k < n then f (64 * a + k) else 0) (fun _ => False) (0) (0) := by
  refine pw_of (cc := cX10_limb) (maxL := 3) (ret := (some .int)) (by decide +kernel) rfl (Nat.le_of_ble_eq_true rfl) ?_
  intro p e s m args below meth c hx hb hr hml hts hown hlocks hini hK ⟨hO, hf, hg, hh⟩ ls hl
  have hown : s.vm.findClass RX10 = some m.cls := hown
  have hl : lv_has ls 3 [(0, .ref (r0)), (1, .int (iI ((a : Int)))), (2, .int (iI ((k : Int))))] := hl
  have hS : va_S (fun _ => False) s.heap s.heap [] := va_S.rf
  have lk_38 := hts (.fieldLink RX10 38 "PolicyWorksModel" "limbs" "[I") (by decide +kernel)
  have lk_41 := hts (.fieldLink RX10 41 "PolicyWorksModel" "lengths" "[I") (by decide +kernel)
  have hin10 : ∀ w ∈ wsX100, w ∈ wsX10_limb := by decide +kernel
  refine lv_iload_n hx hb dX10_limb_0 rfl (lv_at hl 2 rfl) ?_
  refine lv_aload_n hx hb dX10_limb_1 rfl (lv_at hl 0 rfl) ?_
  refine pw_get (C := RX10) (T := TX10) (N := 20) hx hb hts hin10 hown hK hO rfl 14 (by decide) lk_41 rfl rfl dX10_limb_2 ?_
  refine lv_iload_n hx hb dX10_limb_5 rfl (lv_at hl 1 rfl) ?_
  refine pw_iald hx hb hK hg (a) rfl (by omega) (by omega) dX10_limb_6 ?_
  refine pw_asi ((n : Int)) hga ?_
  refine pw_icmp_ge (tgt := 24) hx hb dX10_limb_7 (by decide) (fun c_7 => ?_) (fun c_7 => ?_)
  · refine pw_iconst hx hb dX10_limb_24 ?_
    exact pw_iret hx hb hr hlocks hS (by rw [if_neg (by omega)]) dX10_limb_25
  · refine lv_aload_n hx hb dX10_limb_10 rfl (lv_at hl 0 rfl) ?_
    refine pw_get (C := RX10) (T := TX10) (N := 20) hx hb hts hin10 hown hK hO rfl 13 (by decide) lk_38 rfl rfl dX10_limb_11 ?_
    refine pw_bipush hx hb dX10_limb_14 ?_
    refine lv_iload_n hx hb dX10_limb_16 rfl (lv_at hl 1 rfl) ?_
    refine pw_imul hx hb dX10_limb_17 ?_
    refine lv_iload_n hx hb dX10_limb_18 rfl (lv_at hl 2 rfl) ?_
    refine pw_iadd hx hb dX10_limb_19 ?_
    refine pw_iald hx hb hK hf (((64) * ((a))) + ((k))) (by omega) (by omega) (by omega) dX10_limb_20 ?_
    refine lv_goto (tgt := 25) hx hb dX10_limb_21 (by decide) ?_
    exact pw_iret hx hb hr hlocks hS (by rw [if_pos (by omega)]) dX10_limb_25
set_option maxHeartbeats 4000000 in
set_option maxRecDepth 100000 in
/-- trim(a, n) -/
theorem r_trim (l : Launch) (D : va_G) (E : Nat → ClassId) (r0 : Nat) (o f g h : Nat → Int) (a n x : Nat) (v : Int) (ha : a < 80) (hn : n ≤ 64) (hx0 : x < 268435456 ^ n) (hD : DG f a x n) (hv : v.natAbs = x) (hsg : x ≠ 0 → h a = v.sign) : pw_M rvV l D E yX10_trim wsX10_trim ({ frames := 0, cells := 0, slots := 0, locals := 0 } : Room) [.ref (r0), .int (iI ((a : Int))), .int (iI ((n : Int)))] (fun H => RO D r0 o H ∧ NA E r0 f g h H) (fun _ H => NP E r0 a v f g h H) (fun q => q = r0 + 8 ∨ q = r0 + 9 ∨ q = r0 + 10) (0) (0) := by
  refine pw_of (cc := cX10_trim) (maxL := 4) (ret := none) (by decide +kernel) rfl (Nat.le_of_ble_eq_true rfl) ?_
  intro p e s m args below meth c hx hb hr hml hts hown hlocks hini hK ⟨hO, hf, hg, hh⟩ ls hl
  have hown : s.vm.findClass RX10 = some m.cls := hown
  have hl : lv_has ls 4 [(0, .ref (r0)), (1, .int (iI ((a : Int)))), (2, .int (iI ((n : Int))))] := hl
  have hS : va_S (fun q => q = r0 + 8 ∨ q = r0 + 9 ∨ q = r0 + 10) s.heap s.heap [] := va_S.rf
  have lk_38 := hts (.fieldLink RX10 38 "PolicyWorksModel" "limbs" "[I") (by decide +kernel)
  have lk_41 := hts (.fieldLink RX10 41 "PolicyWorksModel" "lengths" "[I") (by decide +kernel)
  have lk_44 := hts (.fieldLink RX10 44 "PolicyWorksModel" "signs" "[I") (by decide +kernel)
  have hin10 : ∀ w ∈ wsX100, w ∈ wsX10_trim := by decide +kernel
  have loop : ∀ (k : Nat) (H : Heap) (locs : List Loc) (ls : Array Slot), k ≤ n → x < 268435456 ^ k → RO D r0 o H → IA E (r0 + 8) 5120 f H → IA E (r0 + 9) 80 g H → IA E (r0 + 10) 80 h H → va_S (fun q => q = r0 + 8 ∨ q = r0 + 9 ∨ q = r0 + 10) s.heap H locs → lv_has ls 4 [(0, .ref (r0)), (1, .int (iI ((a : Int)))), (2, .int (iI ((n : Int)))), (3, .int (iI ((k : Int))))] → W p l e ({ frames := 0, cells := 0, slots := 0, locals := 0 } : Room) s m args below meth c H locs (0) (0) (MQ below (pw_Q rvV (fun _ H => NP E r0 a v f g h H) (fun q => q = r0 + 8 ∨ q = r0 + 9 ∨ q = r0 + 10)) args s (0) (0) (fun q => q = r0 + 8 ∨ q = r0 + 9 ∨ q = r0 + 10)) (F0 m 2 ls []) := by
    intro k
    induction k with
    | zero =>
      intro H locs ls hk hxk hO hf hg hh hS hl
      have hx00 : x = 0 := by rw [Nat.pow_zero] at hxk; omega
      have hv0 : v = 0 := by omega
      refine lv_iload_n hx hb dX10_trim_2 rfl (lv_at hl 3 rfl) ?_
      refine pw_if_le (tgt := 28) hx hb dX10_trim_3 (by decide) (fun c_3 => ?_) (fun c_3 => absurd c_3 (by omega))
      refine lv_aload_n hx hb dX10_trim_28 rfl (lv_at hl 0 rfl) ?_
      refine pw_get (C := RX10) (T := TX10) (N := 20) hx hb hts hin10 hown hK hO rfl 14 (by decide) lk_41 rfl rfl dX10_trim_29 ?_
      refine lv_iload_n hx hb dX10_trim_32 rfl (lv_at hl 1 rfl) ?_
      refine lv_iload_n hx hb dX10_trim_33 rfl (lv_at hl 3 rfl) ?_
      refine pw_iast hx hb hK hg hS (Or.inr (Or.inl rfl)) (a) rfl (by omega) (by omega) dX10_trim_34 (fun H1 locs1 hnew hz1 oq hS => ?_)
      have hO := hO.k (oq _ (by omega))
      have hf := hf.k (oq _ (by omega))
      have hh := hh.k (oq _ (by omega))
      have hg := hnew
      clear hnew oq hz1
      refine lv_aload_n hx hb dX10_trim_35 rfl (lv_at hl 0 rfl) ?_
      refine pw_get (C := RX10) (T := TX10) (N := 20) hx hb hts hin10 hown hK hO rfl 15 (by decide) lk_44 rfl rfl dX10_trim_36 ?_
      refine lv_iload_n hx hb dX10_trim_39 rfl (lv_at hl 1 rfl) ?_
      refine lv_iload_n hx hb dX10_trim_40 rfl (lv_at hl 3 rfl) ?_
      refine pw_if_ne (tgt := 48) hx hb dX10_trim_41 (by decide) (fun c_41 => absurd c_41 (by omega)) (fun c_41 => ?_)
      refine pw_iconst hx hb dX10_trim_44 ?_
      refine lv_goto (tgt := 54) hx hb dX10_trim_45 (by decide) ?_
      refine pw_iast hx hb hK hh hS (Or.inr (Or.inr rfl)) (a) rfl (by omega) (by omega) dX10_trim_54 (fun H1 locs1 hnew hz1 oq hS => ?_)
      have hO := hO.k (oq _ (by omega))
      have hf := hf.k (oq _ (by omega))
      have hg := hg.k (oq _ (by omega))
      have hh := hnew
      clear hnew oq hz1
      exact pw_vret hx hb hr hlocks hS (np_fin (n := 0) hf hg hh (by rw [hv]; exact ⟨by omega, hxk, fun h => by omega⟩) (fun k hk => by omega) (by rw [hv0]; rfl) (fun _ _ => rfl)) dX10_trim_55
    | succ k ih =>
      intro H locs ls hk hxk hO hf hg hh hS hl
      have hbd := bd_lt x k
      have hix : ((64 : Int) * (a : Int) + ((k + 1 : Nat) : Int)) - 1 = ((64 * a + k : Nat) : Int) := by omega
      refine lv_iload_n hx hb dX10_trim_2 rfl (lv_at hl 3 rfl) ?_
      refine pw_if_le (tgt := 28) hx hb dX10_trim_3 (by decide) (fun c_3 => absurd c_3 (by omega)) (fun c_3 => ?_)
      refine lv_aload_n hx hb dX10_trim_6 rfl (lv_at hl 0 rfl) ?_
      refine pw_get (C := RX10) (T := TX10) (N := 20) hx hb hts hin10 hown hK hO rfl 13 (by decide) lk_38 rfl rfl dX10_trim_7 ?_
      refine pw_bipush hx hb dX10_trim_10 ?_
      refine lv_iload_n hx hb dX10_trim_12 rfl (lv_at hl 1 rfl) ?_
      refine pw_imul hx hb dX10_trim_13 ?_
      refine lv_iload_n hx hb dX10_trim_14 rfl (lv_at hl 3 rfl) ?_
      refine pw_iadd hx hb dX10_trim_15 ?_
      refine pw_iconst hx hb dX10_trim_16 ?_
      refine pw_isub hx hb dX10_trim_17 ?_
      refine pw_iald hx hb hK hf (64 * a + k) hix (by omega) (by omega) dX10_trim_18 ?_
      refine pw_asi ((bd x k : Int)) (hD k (by omega)) ?_
      refine pw_if_ne (tgt := 28) hx hb dX10_trim_19 (by decide) (fun c_19 => ?_) (fun c_19 => ?_)
      · refine lv_aload_n hx hb dX10_trim_28 rfl (lv_at hl 0 rfl) ?_
        refine pw_get (C := RX10) (T := TX10) (N := 20) hx hb hts hin10 hown hK hO rfl 14 (by decide) lk_41 rfl rfl dX10_trim_29 ?_
        refine lv_iload_n hx hb dX10_trim_32 rfl (lv_at hl 1 rfl) ?_
        refine lv_iload_n hx hb dX10_trim_33 rfl (lv_at hl 3 rfl) ?_
        refine pw_iast hx hb hK hg hS (Or.inr (Or.inl rfl)) (a) rfl (by omega) (by omega) dX10_trim_34 (fun H1 locs1 hnew hz1 oq hS => ?_)
        have hO := hO.k (oq _ (by omega))
        have hf := hf.k (oq _ (by omega))
        have hh := hh.k (oq _ (by omega))
        have hg := hnew
        clear hnew oq hz1
        refine lv_aload_n hx hb dX10_trim_35 rfl (lv_at hl 0 rfl) ?_
        refine pw_get (C := RX10) (T := TX10) (N := 20) hx hb hts hin10 hown hK hO rfl 15 (by decide) lk_44 rfl rfl dX10_trim_36 ?_
        refine lv_iload_n hx hb dX10_trim_39 rfl (lv_at hl 1 rfl) ?_
        refine lv_iload_n hx hb dX10_trim_40 rfl (lv_at hl 3 rfl) ?_
        refine pw_if_ne (tgt := 48) hx hb dX10_trim_41 (by decide) (fun c_41 => ?_) (fun c_41 => absurd c_41 (by omega))
        refine lv_aload_n hx hb dX10_trim_48 rfl (lv_at hl 0 rfl) ?_
        refine pw_get (C := RX10) (T := TX10) (N := 20) hx hb hts hin10 hown hK hO rfl 15 (by decide) lk_44 rfl rfl dX10_trim_49 ?_
        refine lv_iload_n hx hb dX10_trim_52 rfl (lv_at hl 1 rfl) ?_
        refine pw_iald hx hb hK hh (a) rfl (by omega) (by omega) dX10_trim_53 ?_
        refine pw_iast hx hb hK hh hS (Or.inr (Or.inr rfl)) (a) rfl (by omega) (by omega) dX10_trim_54 (fun H1 locs1 hnew hz1 oq hS => ?_)
        have hO := hO.k (oq _ (by omega))
        have hf := hf.k (oq _ (by omega))
        have hg := hg.k (oq _ (by omega))
        have hh := hnew
        clear hnew oq hz1
        have hrk : rk x (k + 1) := rk_of (by omega) hxk (fun _ => by rw [Nat.add_sub_cancel]; omega)
        have hx1 : x ≠ 0 := fun e => by have := (rk_z hrk).mpr e; omega
        exact pw_vret hx hb hr hlocks hS (np_fin (n := k + 1) hf hg hh (by rw [hv]; exact hrk) (by rw [hv]; exact hD.le hk) (hsg hx1) (fun _ _ => rfl)) dX10_trim_55
      · refine lv_iinc (v := iI ((k : Int))) (lv' := [(3, .int (iI ((k : Int)))), (0, .ref (r0)), (1, .int (iI ((a : Int)))), (2, .int (iI ((n : Int))))]) hx hb dX10_trim_22 hl (k := 3) rfl (by show iI _ + iI _ = _; exact (iI_add _ _).trans (by first | rfl | (congr 1; omega))) (by decide) rfl (fun ls hl => ?_)
        refine lv_goto (tgt := 2) hx hb dX10_trim_25 (by decide) ?_
        exact ih _ _ _ (by omega) (rk_dn hxk (by omega)) hO hf hg hh hS (lv_sub hl [1, 2, 3, 0] rfl)
  refine lv_iload_n hx hb dX10_trim_0 rfl (lv_at hl 2 rfl) ?_
  refine lv_istore_n (lv' := [(3, .int (iI ((n : Int)))), (0, .ref (r0)), (1, .int (iI ((a : Int)))), (2, .int (iI ((n : Int))))]) hx hb dX10_trim_1 rfl hl (by decide) rfl (fun ls hl => ?_)
  exact loop n _ _ _ (Nat.le_refl n) hx0 hO hf hg hh hS (lv_sub hl [1, 2, 3, 0] rfl)
set_option maxHeartbeats 4000000 in
set_option maxRecDepth 100000 in
/-- setSmall(a, z) -/
theorem r_setSmall (l : Launch) (D : va_G) (E : Nat → ClassId) (r0 : Nat) (o f g h : Nat → Int) (a : Nat) (z : Int) (ha : a < 80) (z1 : -4611686018427387904 ≤ z) (z2 : z ≤ 4611686018427387904) : pw_M rvV l D E yX10_setSmall wsX10_setSmall ({ frames := 0, cells := 0, slots := 0, locals := 0 } : Room) [.ref (r0), .int (iI ((a : Int))), .long (lI (z))] (fun H => RO D r0 o H ∧ NA E r0 f g h H) (fun _ H => NP E r0 a z f g h H) (fun q => q = r0 + 8 ∨ q = r0 + 9 ∨ q = r0 + 10) (0) (0) := by
  refine pw_of (cc := cX10_setSmall) (maxL := 7) (ret := none) (by decide +kernel) rfl (Nat.le_of_ble_eq_true rfl) ?_
  intro p e s m args below meth c hx hb hr hml hts hown hlocks hini hK ⟨hO, hf, hg, hh⟩ ls hl
  have hown : s.vm.findClass RX10 = some m.cls := hown
  have hl : lv_has ls 7 [(0, .ref (r0)), (1, .int (iI ((a : Int)))), (2, .long (lI (z)))] := hl
  have hS : va_S (fun q => q = r0 + 8 ∨ q = r0 + 9 ∨ q = r0 + 10) s.heap s.heap [] := va_S.rf
  have lk_38 := hts (.fieldLink RX10 38 "PolicyWorksModel" "limbs" "[I") (by decide +kernel)
  have lk_41 := hts (.fieldLink RX10 41 "PolicyWorksModel" "lengths" "[I") (by decide +kernel)
  have lk_44 := hts (.fieldLink RX10 44 "PolicyWorksModel" "signs" "[I") (by decide +kernel)
  have kc_59 := hts (.constantLong RX10 59 (268435455)) (by decide +kernel)
  have hin10 : ∀ w ∈ wsX100, w ∈ wsX10_setSmall := by decide +kernel
  have hX : z.natAbs < 9223372036854775808 := by omega
  have loop : ∀ (kk n : Nat) (f1 : Nat → Int) (H : Heap) (locs : List Loc) (ls : Array Slot), n + kk = 3 → (0 < n → 0 < dv z.natAbs (n - 1)) → DG f1 a z.natAbs n → (∀ q, q < 64 * a ∨ 64 * a + 64 ≤ q → f1 q = f q) → RO D r0 o H → IA E (r0 + 8) 5120 f1 H → IA E (r0 + 9) 80 g H → IA E (r0 + 10) 80 (ud h a z.sign) H → va_S (fun q => q = r0 + 8 ∨ q = r0 + 9 ∨ q = r0 + 10) s.heap H locs → lv_has ls 7 [(0, .ref (r0)), (1, .int (iI ((a : Int)))), (2, .long (lI (z))), (4, .long (lI (((dv z.natAbs n : Nat) : Int)))), (6, .int (iI ((n : Int))))] → W p l e ({ frames := 0, cells := 0, slots := 0, locals := 0 } : Room) s m args below meth c H locs (0) (0) (MQ below (pw_Q rvV (fun _ H => NP E r0 a z f g h H) (fun q => q = r0 + 8 ∨ q = r0 + 9 ∨ q = r0 + 10)) args s (0) (0) (fun q => q = r0 + 8 ∨ q = r0 + 9 ∨ q = r0 + 10)) (F0 m 44 ls []) := by
    intro kk
    induction kk with
    | zero =>
      intro n f1 H locs ls hn hp hD hof hO hf hg hh hS hl
      have hn3 : n = 3 := by omega
      have hz0 : dv z.natAbs n = 0 := by rw [hn3]; exact dv_z.mpr (by omega)
      refine lv_lload hx hb dX10_setSmall_44 (lv_at hl 3 rfl) ?_
      refine pw_lconst (z := 0) hx hb dX10_setSmall_46 ?_
      refine pw_lcmp_le (tgt := 83) hx hb dX10_setSmall_47 dX10_setSmall_48 (by decide) (fun c_47 => ?_) (fun c_47 => absurd c_47 (by omega))
      refine lv_aload_n hx hb dX10_setSmall_83 rfl (lv_at hl 0 rfl) ?_
      refine pw_get (C := RX10) (T := TX10) (N := 20) hx hb hts hin10 hown hK hO rfl 14 (by decide) lk_41 rfl rfl dX10_setSmall_84 ?_
      refine lv_iload_n hx hb dX10_setSmall_87 rfl (lv_at hl 1 rfl) ?_
      refine lv_iload hx hb dX10_setSmall_88 (lv_at hl 4 rfl) ?_
      refine pw_iast hx hb hK hg hS (Or.inr (Or.inl rfl)) (a) rfl (by omega) (by omega) dX10_setSmall_90 (fun H1 locs1 hnew hz1 oq hS => ?_)
      have hO := hO.k (oq _ (by omega))
      have hf := hf.k (oq _ (by omega))
      have hh := hh.k (oq _ (by omega))
      have hg := hnew
      clear hnew oq hz1
      have hrk : rk z.natAbs n := by
        refine ⟨by omega, ?_, fun h0 => ?_⟩
        · exact dv_z.mp hz0
        · rcases Nat.lt_or_ge z.natAbs (268435456 ^ (n - 1)) with hh | hh
          · have := hp h0; rw [dv_z.mpr hh] at this; omega
          · exact hh
      exact pw_vret hx hb hr hlocks hS (np_fin hf hg hh hrk hD rfl hof) dX10_setSmall_91
    | succ kk ih =>
      intro n f1 H locs ls hn hp hD hof hO hf hg hh hS hl
      have hle := dv_le z.natAbs n
      refine lv_lload hx hb dX10_setSmall_44 (lv_at hl 3 rfl) ?_
      refine pw_lconst (z := 0) hx hb dX10_setSmall_46 ?_
      refine pw_lcmp_le (tgt := 83) hx hb dX10_setSmall_47 dX10_setSmall_48 (by decide) (fun c_47 => ?_) (fun c_47 => ?_)
      · have hz0 : dv z.natAbs n = 0 := by omega
        refine lv_aload_n hx hb dX10_setSmall_83 rfl (lv_at hl 0 rfl) ?_
        refine pw_get (C := RX10) (T := TX10) (N := 20) hx hb hts hin10 hown hK hO rfl 14 (by decide) lk_41 rfl rfl dX10_setSmall_84 ?_
        refine lv_iload_n hx hb dX10_setSmall_87 rfl (lv_at hl 1 rfl) ?_
        refine lv_iload hx hb dX10_setSmall_88 (lv_at hl 4 rfl) ?_
        refine pw_iast hx hb hK hg hS (Or.inr (Or.inl rfl)) (a) rfl (by omega) (by omega) dX10_setSmall_90 (fun H1 locs1 hnew hz1 oq hS => ?_)
        have hO := hO.k (oq _ (by omega))
        have hf := hf.k (oq _ (by omega))
        have hh := hh.k (oq _ (by omega))
        have hg := hnew
        clear hnew oq hz1
        have hrk : rk z.natAbs n := by
          refine ⟨by omega, ?_, fun h0 => ?_⟩
          · exact dv_z.mp hz0
          · rcases Nat.lt_or_ge z.natAbs (268435456 ^ (n - 1)) with hh | hh
            · have := hp h0; rw [dv_z.mpr hh] at this; omega
            · exact hh
        exact pw_vret hx hb hr hlocks hS (np_fin hf hg hh hrk hD rfl hof) dX10_setSmall_91
      · refine lv_aload_n hx hb dX10_setSmall_51 rfl (lv_at hl 0 rfl) ?_
        refine pw_get (C := RX10) (T := TX10) (N := 20) hx hb hts hin10 hown hK hO rfl 13 (by decide) lk_38 rfl rfl dX10_setSmall_52 ?_
        refine pw_bipush hx hb dX10_setSmall_55 ?_
        refine lv_iload_n hx hb dX10_setSmall_57 rfl (lv_at hl 1 rfl) ?_
        refine pw_imul hx hb dX10_setSmall_58 ?_
        refine lv_iload hx hb dX10_setSmall_59 (lv_at hl 4 rfl) ?_
        refine pw_iadd hx hb dX10_setSmall_61 ?_
        refine lv_lload hx hb dX10_setSmall_62 (lv_at hl 3 rfl) ?_
        refine pw_ldc2 (z := 268435455) hx hb hown kc_59 (by decide +kernel) dX10_setSmall_64 ?_
        refine lv_land hx hb dX10_setSmall_67 ?_
        refine pw_eql (((dv z.natAbs n % 268435456 : Nat) : Int)) (j_land _) ?_
        refine pw_l2i hx hb dX10_setSmall_68 ?_
        refine pw_iast hx hb hK hf hS (Or.inl rfl) (((64) * ((a))) + ((n))) (by omega) (by omega) (by omega) dX10_setSmall_69 (fun H1 locs1 hnew hz1 oq hS => ?_)
        have hO := hO.k (oq _ (by omega))
        have hg := hg.k (oq _ (by omega))
        have hh := hh.k (oq _ (by omega))
        have hf := hnew
        clear hnew oq hz1
        refine lv_lload hx hb dX10_setSmall_70 (lv_at hl 3 rfl) ?_
        refine pw_bipush hx hb dX10_setSmall_72 ?_
        refine lv_lshr hx hb dX10_setSmall_74 rfl ?_
        refine pw_eql (((dv z.natAbs n / 268435456 : Nat) : Int)) (j_lshr (by omega)) ?_
        refine pw_asl (((dv z.natAbs (n + 1) : Nat) : Int)) (by rw [dv_next]) ?_
        refine lv_lstore (lv' := [(4, .long (lI (((dv z.natAbs (n + 1) : Nat) : Int)))), (0, .ref (r0)), (1, .int (iI ((a : Int)))), (2, .long (lI (z))), (6, .int (iI ((n : Int))))]) hx hb dX10_setSmall_75 hl (by decide) rfl (fun ls hl => ?_)
        refine lv_iinc (v := iI (((n + 1 : Nat) : Int))) (lv' := [(6, .int (iI (((n + 1 : Nat) : Int)))), (4, .long (lI (((dv z.natAbs (n + 1) : Nat) : Int)))), (0, .ref (r0)), (1, .int (iI ((a : Int)))), (2, .long (lI (z)))]) hx hb dX10_setSmall_77 hl (k := 4) rfl (by show iI _ + iI _ = _; exact (iI_add _ _).trans (by first | rfl | (congr 1; omega))) (by decide) rfl (fun ls hl => ?_)
        refine lv_goto (tgt := 44) hx hb dX10_setSmall_80 (by decide) ?_
        exact ih (n + 1) _ _ _ _ (by omega) (fun _ => by rw [Nat.add_sub_cancel]; omega) (hD.up rfl) (ud_o (by omega) hof) hO hf hg hh hS (lv_sub hl [2, 3, 4, 1, 0] rfl)
  refine lv_aload_n hx hb dX10_setSmall_0 rfl (lv_at hl 0 rfl) ?_
  refine pw_get (C := RX10) (T := TX10) (N := 20) hx hb hts hin10 hown hK hO rfl 15 (by decide) lk_44 rfl rfl dX10_setSmall_1 ?_
  refine lv_iload_n hx hb dX10_setSmall_4 rfl (lv_at hl 1 rfl) ?_
  refine lv_lload_n hx hb dX10_setSmall_5 rfl (lv_at hl 2 rfl) ?_
  refine pw_lconst (z := 0) hx hb dX10_setSmall_6 ?_
  refine pw_lcmp_ge (tgt := 15) hx hb dX10_setSmall_7 dX10_setSmall_8 (by decide) (fun c_7 => ?_) (fun c_7 => ?_)
  · refine lv_lload_n hx hb dX10_setSmall_15 rfl (lv_at hl 2 rfl) ?_
    refine pw_lconst (z := 0) hx hb dX10_setSmall_16 ?_
    refine pw_lcmp_le (tgt := 25) hx hb dX10_setSmall_17 dX10_setSmall_18 (by decide) (fun c_17 => ?_) (fun c_17 => ?_)
    · refine pw_iconst hx hb dX10_setSmall_25 ?_
      refine pw_asi (z.sign) (by rw [show z = 0 by omega]; rfl) ?_
      refine pw_iast hx hb hK hh hS (Or.inr (Or.inr rfl)) (a) rfl (by omega) (by omega) dX10_setSmall_26 (fun H1 locs1 hnew hz1 oq hS => ?_)
      have hO := hO.k (oq _ (by omega))
      have hf := hf.k (oq _ (by omega))
      have hg := hg.k (oq _ (by omega))
      have hh := hnew
      clear hnew oq hz1
      refine lv_lload_n hx hb dX10_setSmall_27 rfl (lv_at hl 2 rfl) ?_
      refine pw_lconst (z := 0) hx hb dX10_setSmall_28 ?_
      refine pw_lcmp_ge (tgt := 38) hx hb dX10_setSmall_29 dX10_setSmall_30 (by decide) (fun c_29 => ?_) (fun c_29 => absurd c_29 (by omega))
      refine lv_lload_n hx hb dX10_setSmall_38 rfl (lv_at hl 2 rfl) ?_
      refine pw_asl (((dv z.natAbs 0 : Nat) : Int)) (by rw [dv_0]; omega) ?_
      refine lv_lstore (lv' := [(4, .long (lI (((dv z.natAbs 0 : Nat) : Int)))), (0, .ref (r0)), (1, .int (iI ((a : Int)))), (2, .long (lI (z)))]) hx hb dX10_setSmall_39 hl (by decide) rfl (fun ls hl => ?_)
      refine pw_iconst hx hb dX10_setSmall_41 ?_
      refine lv_istore (lv' := [(6, .int (iI (0))), (4, .long (lI (((dv z.natAbs 0 : Nat) : Int)))), (0, .ref (r0)), (1, .int (iI ((a : Int)))), (2, .long (lI (z)))]) hx hb dX10_setSmall_42 hl (by decide) rfl (fun ls hl => ?_)
      exact loop 3 0 f _ _ _ (by omega) (fun h => by omega) (fun k hk => by omega) (fun _ _ => rfl) hO hf hg hh hS (lv_sub hl [2, 3, 4, 1, 0] rfl)
    · refine pw_iconst hx hb dX10_setSmall_21 ?_
      refine pw_asi (z.sign) (Int.sign_eq_one_of_pos (by omega)).symm ?_
      refine lv_goto (tgt := 26) hx hb dX10_setSmall_22 (by decide) ?_
      refine pw_iast hx hb hK hh hS (Or.inr (Or.inr rfl)) (a) rfl (by omega) (by omega) dX10_setSmall_26 (fun H1 locs1 hnew hz1 oq hS => ?_)
      have hO := hO.k (oq _ (by omega))
      have hf := hf.k (oq _ (by omega))
      have hg := hg.k (oq _ (by omega))
      have hh := hnew
      clear hnew oq hz1
      refine lv_lload_n hx hb dX10_setSmall_27 rfl (lv_at hl 2 rfl) ?_
      refine pw_lconst (z := 0) hx hb dX10_setSmall_28 ?_
      refine pw_lcmp_ge (tgt := 38) hx hb dX10_setSmall_29 dX10_setSmall_30 (by decide) (fun c_29 => ?_) (fun c_29 => absurd c_29 (by omega))
      refine lv_lload_n hx hb dX10_setSmall_38 rfl (lv_at hl 2 rfl) ?_
      refine pw_asl (((dv z.natAbs 0 : Nat) : Int)) (by rw [dv_0]; omega) ?_
      refine lv_lstore (lv' := [(4, .long (lI (((dv z.natAbs 0 : Nat) : Int)))), (0, .ref (r0)), (1, .int (iI ((a : Int)))), (2, .long (lI (z)))]) hx hb dX10_setSmall_39 hl (by decide) rfl (fun ls hl => ?_)
      refine pw_iconst hx hb dX10_setSmall_41 ?_
      refine lv_istore (lv' := [(6, .int (iI (0))), (4, .long (lI (((dv z.natAbs 0 : Nat) : Int)))), (0, .ref (r0)), (1, .int (iI ((a : Int)))), (2, .long (lI (z)))]) hx hb dX10_setSmall_42 hl (by decide) rfl (fun ls hl => ?_)
      exact loop 3 0 f _ _ _ (by omega) (fun h => by omega) (fun k hk => by omega) (fun _ _ => rfl) hO hf hg hh hS (lv_sub hl [2, 3, 4, 1, 0] rfl)
  · refine pw_iconst hx hb dX10_setSmall_11 ?_
    refine pw_asi (z.sign) (Int.sign_eq_neg_one_of_neg (by omega)).symm ?_
    refine lv_goto (tgt := 26) hx hb dX10_setSmall_12 (by decide) ?_
    refine pw_iast hx hb hK hh hS (Or.inr (Or.inr rfl)) (a) rfl (by omega) (by omega) dX10_setSmall_26 (fun H1 locs1 hnew hz1 oq hS => ?_)
    have hO := hO.k (oq _ (by omega))
    have hf := hf.k (oq _ (by omega))
    have hg := hg.k (oq _ (by omega))
    have hh := hnew
    clear hnew oq hz1
    refine lv_lload_n hx hb dX10_setSmall_27 rfl (lv_at hl 2 rfl) ?_
    refine pw_lconst (z := 0) hx hb dX10_setSmall_28 ?_
    refine pw_lcmp_ge (tgt := 38) hx hb dX10_setSmall_29 dX10_setSmall_30 (by decide) (fun c_29 => absurd c_29 (by omega)) (fun c_29 => ?_)
    refine lv_lload_n hx hb dX10_setSmall_33 rfl (lv_at hl 2 rfl) ?_
    refine pw_lneg hx hb dX10_setSmall_34 ?_
    refine pw_asl (((dv z.natAbs 0 : Nat) : Int)) (by rw [dv_0]; omega) ?_
    refine lv_goto (tgt := 39) hx hb dX10_setSmall_35 (by decide) ?_
    refine lv_lstore (lv' := [(4, .long (lI (((dv z.natAbs 0 : Nat) : Int)))), (0, .ref (r0)), (1, .int (iI ((a : Int)))), (2, .long (lI (z)))]) hx hb dX10_setSmall_39 hl (by decide) rfl (fun ls hl => ?_)
    refine pw_iconst hx hb dX10_setSmall_41 ?_
    refine lv_istore (lv' := [(6, .int (iI (0))), (4, .long (lI (((dv z.natAbs 0 : Nat) : Int)))), (0, .ref (r0)), (1, .int (iI ((a : Int)))), (2, .long (lI (z)))]) hx hb dX10_setSmall_42 hl (by decide) rfl (fun ls hl => ?_)
    exact loop 3 0 f _ _ _ (by omega) (fun h => by omega) (fun k hk => by omega) (fun _ _ => rfl) hO hf hg hh hS (lv_sub hl [2, 3, 4, 1, 0] rfl)
set_option maxHeartbeats 4000000 in
set_option maxRecDepth 100000 in
/-- copy(b, a) -/
theorem r_copy (l : Launch) (D : va_G) (E : Nat → ClassId) (r0 : Nat) (o f g h : Nat → Int) (b a : Nat) (v : Int) (ha : a < 80) (hb0 : b < 80) (hba : b ≠ a) (hN : Num f g h b v) : pw_M rvV l D E yX10_copy wsX10_copy ({ frames := 0, cells := 0, slots := 0, locals := 0 } : Room) [.ref (r0), .int (iI ((b : Int))), .int (iI ((a : Int)))] (fun H => RO D r0 o H ∧ NA E r0 f g h H) (fun _ H => NP E r0 a v f g h H) (fun q => q = r0 + 8 ∨ q = r0 + 9 ∨ q = r0 + 10) (0) (0) := by
  refine pw_of (cc := cX10_copy) (maxL := 4) (ret := none) (by decide +kernel) rfl (Nat.le_of_ble_eq_true rfl) ?_
  intro p e s m args below meth c hx hb hr hml hts hown hlocks hini hK ⟨hO, hf, hg, hh⟩ ls hl
  have hown : s.vm.findClass RX10 = some m.cls := hown
  have hl : lv_has ls 4 [(0, .ref (r0)), (1, .int (iI ((b : Int)))), (2, .int (iI ((a : Int))))] := hl
  have hS : va_S (fun q => q = r0 + 8 ∨ q = r0 + 9 ∨ q = r0 + 10) s.heap s.heap [] := va_S.rf
  have lk_38 := hts (.fieldLink RX10 38 "PolicyWorksModel" "limbs" "[I") (by decide +kernel)
  have lk_41 := hts (.fieldLink RX10 41 "PolicyWorksModel" "lengths" "[I") (by decide +kernel)
  have lk_44 := hts (.fieldLink RX10 44 "PolicyWorksModel" "signs" "[I") (by decide +kernel)
  have hin10 : ∀ w ∈ wsX100, w ∈ wsX10_copy := by decide +kernel
  obtain ⟨n, hrk, hgb, hDb, hsb⟩ := hN
  have hn := hrk.1
  have loop : ∀ (kk k : Nat) (f1 : Nat → Int) (H : Heap) (locs : List Loc) (ls : Array Slot), k + kk = n → DG f1 a v.natAbs k → (∀ q, q < 64 * a ∨ 64 * a + 64 ≤ q → f1 q = f q) → RO D r0 o H → IA E (r0 + 8) 5120 f1 H → IA E (r0 + 9) 80 (ud g a (n : Int)) H → IA E (r0 + 10) 80 (ud h a v.sign) H → va_S (fun q => q = r0 + 8 ∨ q = r0 + 9 ∨ q = r0 + 10) s.heap H locs → lv_has ls 4 [(0, .ref (r0)), (1, .int (iI ((b : Int)))), (2, .int (iI ((a : Int)))), (3, .int (iI ((k : Int))))] → W p l e ({ frames := 0, cells := 0, slots := 0, locals := 0 } : Room) s m args below meth c H locs (0) (0) (MQ below (pw_Q rvV (fun _ H => NP E r0 a v f g h H) (fun q => q = r0 + 8 ∨ q = r0 + 9 ∨ q = r0 + 10)) args s (0) (0) (fun q => q = r0 + 8 ∨ q = r0 + 9 ∨ q = r0 + 10)) (F0 m 26 ls []) := by
    intro kk
    induction kk with
    | zero =>
      intro k f1 H locs ls hk hD hof hO hf hg hh hS hl
      have ek : k = n := by omega
      refine lv_iload_n hx hb dX10_copy_26 rfl (lv_at hl 3 rfl) ?_
      refine lv_aload_n hx hb dX10_copy_27 rfl (lv_at hl 0 rfl) ?_
      refine pw_get (C := RX10) (T := TX10) (N := 20) hx hb hts hin10 hown hK hO rfl 14 (by decide) lk_41 rfl rfl dX10_copy_28 ?_
      refine lv_iload_n hx hb dX10_copy_31 rfl (lv_at hl 1 rfl) ?_
      refine pw_iald hx hb hK hg (b) rfl (by omega) (by omega) dX10_copy_32 ?_
      refine pw_asi ((n : Int)) (ud_n _ _ hba |>.trans hgb) ?_
      refine pw_icmp_ge (tgt := 64) hx hb dX10_copy_33 (by decide) (fun c_33 => ?_) (fun c_33 => absurd c_33 (by omega))
      exact pw_vret hx hb hr hlocks hS (np_fin hf hg hh hrk (ek ▸ hD) rfl hof) dX10_copy_64
    | succ kk ih =>
      intro k f1 H locs ls hk hD hof hO hf hg hh hS hl
      have hrd : f1 (64 * b + k) = (bd v.natAbs k : Int) := (hof _ (by omega)).trans (hDb k (by omega))
      refine lv_iload_n hx hb dX10_copy_26 rfl (lv_at hl 3 rfl) ?_
      refine lv_aload_n hx hb dX10_copy_27 rfl (lv_at hl 0 rfl) ?_
      refine pw_get (C := RX10) (T := TX10) (N := 20) hx hb hts hin10 hown hK hO rfl 14 (by decide) lk_41 rfl rfl dX10_copy_28 ?_
      refine lv_iload_n hx hb dX10_copy_31 rfl (lv_at hl 1 rfl) ?_
      refine pw_iald hx hb hK hg (b) rfl (by omega) (by omega) dX10_copy_32 ?_
      refine pw_asi ((n : Int)) ((ud_n _ _ hba).trans hgb) ?_
      refine pw_icmp_ge (tgt := 64) hx hb dX10_copy_33 (by decide) (fun c_33 => absurd c_33 (by omega)) (fun c_33 => ?_)
      refine lv_aload_n hx hb dX10_copy_36 rfl (lv_at hl 0 rfl) ?_
      refine pw_get (C := RX10) (T := TX10) (N := 20) hx hb hts hin10 hown hK hO rfl 13 (by decide) lk_38 rfl rfl dX10_copy_37 ?_
      refine pw_bipush hx hb dX10_copy_40 ?_
      refine lv_iload_n hx hb dX10_copy_42 rfl (lv_at hl 2 rfl) ?_
      refine pw_imul hx hb dX10_copy_43 ?_
      refine lv_iload_n hx hb dX10_copy_44 rfl (lv_at hl 3 rfl) ?_
      refine pw_iadd hx hb dX10_copy_45 ?_
      refine lv_aload_n hx hb dX10_copy_46 rfl (lv_at hl 0 rfl) ?_
      refine pw_get (C := RX10) (T := TX10) (N := 20) hx hb hts hin10 hown hK hO rfl 13 (by decide) lk_38 rfl rfl dX10_copy_47 ?_
      refine pw_bipush hx hb dX10_copy_50 ?_
      refine lv_iload_n hx hb dX10_copy_52 rfl (lv_at hl 1 rfl) ?_
      refine pw_imul hx hb dX10_copy_53 ?_
      refine lv_iload_n hx hb dX10_copy_54 rfl (lv_at hl 3 rfl) ?_
      refine pw_iadd hx hb dX10_copy_55 ?_
      refine pw_iald hx hb hK hf (((64) * ((b))) + ((k))) (by omega) (by omega) (by omega) dX10_copy_56 ?_
      refine pw_asi ((bd v.natAbs k : Int)) hrd ?_
      refine pw_iast hx hb hK hf hS (Or.inl rfl) (((64) * ((a))) + ((k))) (by omega) (by omega) (by omega) dX10_copy_57 (fun H1 locs1 hnew hz1 oq hS => ?_)
      have hO := hO.k (oq _ (by omega))
      have hg := hg.k (oq _ (by omega))
      have hh := hh.k (oq _ (by omega))
      have hf := hnew
      clear hnew oq hz1
      refine lv_iinc (v := iI (((k + 1 : Nat) : Int))) (lv' := [(3, .int (iI (((k + 1 : Nat) : Int)))), (0, .ref (r0)), (1, .int (iI ((b : Int)))), (2, .int (iI ((a : Int))))]) hx hb dX10_copy_58 hl (k := 3) rfl (by show iI _ + iI _ = _; exact (iI_add _ _).trans (by first | rfl | (congr 1; omega))) (by decide) rfl (fun ls hl => ?_)
      refine lv_goto (tgt := 26) hx hb dX10_copy_61 (by decide) ?_
      exact ih (k + 1) _ _ _ _ (by omega) (hD.up rfl) (ud_o (by omega) hof) hO hf hg hh hS (lv_sub hl [1, 2, 3, 0] rfl)
  refine lv_aload_n hx hb dX10_copy_0 rfl (lv_at hl 0 rfl) ?_
  refine pw_get (C := RX10) (T := TX10) (N := 20) hx hb hts hin10 hown hK hO rfl 15 (by decide) lk_44 rfl rfl dX10_copy_1 ?_
  refine lv_iload_n hx hb dX10_copy_4 rfl (lv_at hl 2 rfl) ?_
  refine lv_aload_n hx hb dX10_copy_5 rfl (lv_at hl 0 rfl) ?_
  refine pw_get (C := RX10) (T := TX10) (N := 20) hx hb hts hin10 hown hK hO rfl 15 (by decide) lk_44 rfl rfl dX10_copy_6 ?_
  refine lv_iload_n hx hb dX10_copy_9 rfl (lv_at hl 1 rfl) ?_
  refine pw_iald hx hb hK hh (b) rfl (by omega) (by omega) dX10_copy_10 ?_
  refine pw_asi (v.sign) hsb ?_
  refine pw_iast hx hb hK hh hS (Or.inr (Or.inr rfl)) (a) rfl (by omega) (by omega) dX10_copy_11 (fun H1 locs1 hnew hz1 oq hS => ?_)
  have hO := hO.k (oq _ (by omega))
  have hf := hf.k (oq _ (by omega))
  have hg := hg.k (oq _ (by omega))
  have hh := hnew
  clear hnew oq hz1
  refine lv_aload_n hx hb dX10_copy_12 rfl (lv_at hl 0 rfl) ?_
  refine pw_get (C := RX10) (T := TX10) (N := 20) hx hb hts hin10 hown hK hO rfl 14 (by decide) lk_41 rfl rfl dX10_copy_13 ?_
  refine lv_iload_n hx hb dX10_copy_16 rfl (lv_at hl 2 rfl) ?_
  refine lv_aload_n hx hb dX10_copy_17 rfl (lv_at hl 0 rfl) ?_
  refine pw_get (C := RX10) (T := TX10) (N := 20) hx hb hts hin10 hown hK hO rfl 14 (by decide) lk_41 rfl rfl dX10_copy_18 ?_
  refine lv_iload_n hx hb dX10_copy_21 rfl (lv_at hl 1 rfl) ?_
  refine pw_iald hx hb hK hg (b) rfl (by omega) (by omega) dX10_copy_22 ?_
  refine pw_asi ((n : Int)) hgb ?_
  refine pw_iast hx hb hK hg hS (Or.inr (Or.inl rfl)) (a) rfl (by omega) (by omega) dX10_copy_23 (fun H1 locs1 hnew hz1 oq hS => ?_)
  have hO := hO.k (oq _ (by omega))
  have hf := hf.k (oq _ (by omega))
  have hh := hh.k (oq _ (by omega))
  have hg := hnew
  clear hnew oq hz1
  refine pw_iconst hx hb dX10_copy_24 ?_
  refine lv_istore_n (lv' := [(3, .int (iI (0))), (0, .ref (r0)), (1, .int (iI ((b : Int)))), (2, .int (iI ((a : Int))))]) hx hb dX10_copy_25 rfl hl (by decide) rfl (fun ls hl => ?_)
  exact loop n 0 f _ _ _ (by omega) (fun k hk => by omega) (fun _ _ => rfl) hO hf hg hh hS (lv_sub hl [1, 2, 3, 0] rfl)
set_option maxHeartbeats 4000000 in
set_option maxRecDepth 100000 in
/-- compareSizes(a, b) -/
theorem r_compareSizes (l : Launch) (D : va_G) (E : Nat → ClassId) (r0 : Nat) (o f g h : Nat → Int) (a b : Nat) (u v : Int) (ha : a < 80) (hb0 : b < 80) (hA : Num f g h a u) (hB : Num f g h b v) : pw_M rvI l D E yX10_compareSizes wsX10_compareSizes ({ frames := 0, cells := 0, slots := 0, locals := 0 } : Room) [.ref (r0), .int (iI ((a : Int))), .int (iI ((b : Int)))] (fun H => RO D r0 o H ∧ NA E r0 f g h H) (fun z _ => z = cz u.natAbs v.natAbs) (fun _ => False) (0) (0) := by
  refine pw_of (cc := cX10_compareSizes) (maxL := 4) (ret := (some .int)) (by decide +kernel) rfl (Nat.le_of_ble_eq_true rfl) ?_
  intro p e s m args below meth c hx hb hr hml hts hown hlocks hini hK ⟨hO, hf, hg, hh⟩ ls hl
  have hown : s.vm.findClass RX10 = some m.cls := hown
  have hl : lv_has ls 4 [(0, .ref (r0)), (1, .int (iI ((a : Int)))), (2, .int (iI ((b : Int))))] := hl
  have hS : va_S (fun _ => False) s.heap s.heap [] := va_S.rf
  have lk_38 := hts (.fieldLink RX10 38 "PolicyWorksModel" "limbs" "[I") (by decide +kernel)
  have lk_41 := hts (.fieldLink RX10 41 "PolicyWorksModel" "lengths" "[I") (by decide +kernel)
  have hin10 : ∀ w ∈ wsX100, w ∈ wsX10_compareSizes := by decide +kernel
  obtain ⟨n, hrk, hga, hDa, hsa⟩ := hA
  obtain ⟨m0, hrk2, hgb, hDb, hsb⟩ := hB
  have hn := hrk.1
  have hm0 := hrk2.1
  have loop : n = m0 → ∀ (k : Nat) (H : Heap) (locs : List Loc) (ls : Array Slot), k ≤ n → u.natAbs / 268435456 ^ k = v.natAbs / 268435456 ^ k → RO D r0 o H → IA E (r0 + 8) 5120 f H → IA E (r0 + 9) 80 g H → IA E (r0 + 10) 80 h H → va_S (fun _ => False) s.heap H locs → lv_has ls 4 [(0, .ref (r0)), (1, .int (iI ((a : Int)))), (2, .int (iI ((b : Int)))), (3, .int (iI ((k : Int) - 1)))] → W p l e ({ frames := 0, cells := 0, slots := 0, locals := 0 } : Room) s m args below meth c H locs (0) (0) (MQ below (pw_Q rvI (fun z _ => z = cz u.natAbs v.natAbs) (fun _ => False)) args s (0) (0) (fun _ => False)) (F0 m 45 ls []) := by
    intro hnm k
    induction k with
    | zero =>
      intro H locs ls hk he hO hf hg hh hS hl
      rw [Nat.pow_zero, Nat.div_one, Nat.div_one] at he
      refine lv_iload_n hx hb dX10_compareSizes_45 rfl (lv_at hl 3 rfl) ?_
      refine pw_if_lt (tgt := 80) hx hb dX10_compareSizes_46 (by decide) (fun c_46 => ?_) (fun c_46 => absurd c_46 (by omega))
      refine lv_iload_n hx hb dX10_compareSizes_80 rfl (lv_at hl 3 rfl) ?_
      refine pw_if_ge (tgt := 88) hx hb dX10_compareSizes_81 (by decide) (fun c_81 => absurd c_81 (by omega)) (fun c_81 => ?_)
      refine pw_iconst hx hb dX10_compareSizes_84 ?_
      refine lv_goto (tgt := 118) hx hb dX10_compareSizes_85 (by decide) ?_
      exact pw_iret hx hb hr hlocks hS (cz_eq he).symm dX10_compareSizes_118
    | succ k ih =>
      intro H locs ls hk he hO hf hg hh hS hl
      have b1 := bd_lt u.natAbs k
      have b2 := bd_lt v.natAbs k
      have x1 : (64 : Int) * (a : Int) + (((k + 1 : Nat) : Int) - 1) = ((64 * a + k : Nat) : Int) := by omega
      have x2 : (64 : Int) * (b : Int) + (((k + 1 : Nat) : Int) - 1) = ((64 * b + k : Nat) : Int) := by omega
      refine lv_iload_n hx hb dX10_compareSizes_45 rfl (lv_at hl 3 rfl) ?_
      refine pw_if_lt (tgt := 80) hx hb dX10_compareSizes_46 (by decide) (fun c_46 => absurd c_46 (by omega)) (fun c_46 => ?_)
      refine lv_aload_n hx hb dX10_compareSizes_49 rfl (lv_at hl 0 rfl) ?_
      refine pw_get (C := RX10) (T := TX10) (N := 20) hx hb hts hin10 hown hK hO rfl 13 (by decide) lk_38 rfl rfl dX10_compareSizes_50 ?_
      refine pw_bipush hx hb dX10_compareSizes_53 ?_
      refine lv_iload_n hx hb dX10_compareSizes_55 rfl (lv_at hl 1 rfl) ?_
      refine pw_imul hx hb dX10_compareSizes_56 ?_
      refine lv_iload_n hx hb dX10_compareSizes_57 rfl (lv_at hl 3 rfl) ?_
      refine pw_iadd hx hb dX10_compareSizes_58 ?_
      refine pw_iald hx hb hK hf (64 * a + k) x1 (by omega) (by omega) dX10_compareSizes_59 ?_
      refine pw_asi ((bd u.natAbs k : Int)) (hDa k (by omega)) ?_
      refine lv_aload_n hx hb dX10_compareSizes_60 rfl (lv_at hl 0 rfl) ?_
      refine pw_get (C := RX10) (T := TX10) (N := 20) hx hb hts hin10 hown hK hO rfl 13 (by decide) lk_38 rfl rfl dX10_compareSizes_61 ?_
      refine pw_bipush hx hb dX10_compareSizes_64 ?_
      refine lv_iload_n hx hb dX10_compareSizes_66 rfl (lv_at hl 2 rfl) ?_
      refine pw_imul hx hb dX10_compareSizes_67 ?_
      refine lv_iload_n hx hb dX10_compareSizes_68 rfl (lv_at hl 3 rfl) ?_
      refine pw_iadd hx hb dX10_compareSizes_69 ?_
      refine pw_iald hx hb hK hf (64 * b + k) x2 (by omega) (by omega) dX10_compareSizes_70 ?_
      refine pw_asi ((bd v.natAbs k : Int)) (hDb k (by omega)) ?_
      refine pw_icmp_ne (tgt := 80) hx hb dX10_compareSizes_71 (by decide) (fun c_71 => ?_) (fun c_71 => ?_)
      · refine lv_iload_n hx hb dX10_compareSizes_80 rfl (lv_at hl 3 rfl) ?_
        refine pw_if_ge (tgt := 88) hx hb dX10_compareSizes_81 (by decide) (fun c_81 => ?_) (fun c_81 => absurd c_81 (by omega))
        refine lv_aload_n hx hb dX10_compareSizes_88 rfl (lv_at hl 0 rfl) ?_
        refine pw_get (C := RX10) (T := TX10) (N := 20) hx hb hts hin10 hown hK hO rfl 13 (by decide) lk_38 rfl rfl dX10_compareSizes_89 ?_
        refine pw_bipush hx hb dX10_compareSizes_92 ?_
        refine lv_iload_n hx hb dX10_compareSizes_94 rfl (lv_at hl 1 rfl) ?_
        refine pw_imul hx hb dX10_compareSizes_95 ?_
        refine lv_iload_n hx hb dX10_compareSizes_96 rfl (lv_at hl 3 rfl) ?_
        refine pw_iadd hx hb dX10_compareSizes_97 ?_
        refine pw_iald hx hb hK hf (64 * a + k) x1 (by omega) (by omega) dX10_compareSizes_98 ?_
        refine pw_asi ((bd u.natAbs k : Int)) (hDa k (by omega)) ?_
        refine lv_aload_n hx hb dX10_compareSizes_99 rfl (lv_at hl 0 rfl) ?_
        refine pw_get (C := RX10) (T := TX10) (N := 20) hx hb hts hin10 hown hK hO rfl 13 (by decide) lk_38 rfl rfl dX10_compareSizes_100 ?_
        refine pw_bipush hx hb dX10_compareSizes_103 ?_
        refine lv_iload_n hx hb dX10_compareSizes_105 rfl (lv_at hl 2 rfl) ?_
        refine pw_imul hx hb dX10_compareSizes_106 ?_
        refine lv_iload_n hx hb dX10_compareSizes_107 rfl (lv_at hl 3 rfl) ?_
        refine pw_iadd hx hb dX10_compareSizes_108 ?_
        refine pw_iald hx hb hK hf (64 * b + k) x2 (by omega) (by omega) dX10_compareSizes_109 ?_
        refine pw_asi ((bd v.natAbs k : Int)) (hDb k (by omega)) ?_
        refine pw_icmp_ge (tgt := 117) hx hb dX10_compareSizes_110 (by decide) (fun c_110 => ?_) (fun c_110 => ?_)
        · refine pw_iconst hx hb dX10_compareSizes_117 ?_
          exact pw_iret hx hb hr hlocks hS (cz_gt (cp_lt he.symm (by omega))).symm dX10_compareSizes_118
        · refine pw_iconst hx hb dX10_compareSizes_113 ?_
          refine lv_goto (tgt := 118) hx hb dX10_compareSizes_114 (by decide) ?_
          exact pw_iret hx hb hr hlocks hS (cz_lt (cp_lt he (by omega))).symm dX10_compareSizes_118
      · refine lv_iinc (v := iI ((k : Int) - 1)) (lv' := [(3, .int (iI ((k : Int) - 1))), (0, .ref (r0)), (1, .int (iI ((a : Int)))), (2, .int (iI ((b : Int))))]) hx hb dX10_compareSizes_74 hl (k := 3) rfl (by show iI _ + iI _ = _; exact (iI_add _ _).trans (by first | rfl | (congr 1; omega))) (by decide) rfl (fun ls hl => ?_)
        refine lv_goto (tgt := 45) hx hb dX10_compareSizes_77 (by decide) ?_
        exact ih _ _ _ (by omega) (cp_eq he (by omega)) hO hf hg hh hS (lv_sub hl [1, 2, 3, 0] rfl)
  refine lv_aload_n hx hb dX10_compareSizes_0 rfl (lv_at hl 0 rfl) ?_
  refine pw_get (C := RX10) (T := TX10) (N := 20) hx hb hts hin10 hown hK hO rfl 14 (by decide) lk_41 rfl rfl dX10_compareSizes_1 ?_
  refine lv_iload_n hx hb dX10_compareSizes_4 rfl (lv_at hl 1 rfl) ?_
  refine pw_iald hx hb hK hg (a) rfl (by omega) (by omega) dX10_compareSizes_5 ?_
  refine pw_asi ((n : Int)) hga ?_
  refine lv_aload_n hx hb dX10_compareSizes_6 rfl (lv_at hl 0 rfl) ?_
  refine pw_get (C := RX10) (T := TX10) (N := 20) hx hb hts hin10 hown hK hO rfl 14 (by decide) lk_41 rfl rfl dX10_compareSizes_7 ?_
  refine lv_iload_n hx hb dX10_compareSizes_10 rfl (lv_at hl 2 rfl) ?_
  refine pw_iald hx hb hK hg (b) rfl (by omega) (by omega) dX10_compareSizes_11 ?_
  refine pw_asi ((m0 : Int)) hgb ?_
  refine pw_icmp_eq (tgt := 36) hx hb dX10_compareSizes_12 (by decide) (fun c_12 => ?_) (fun c_12 => ?_)
  · refine lv_aload_n hx hb dX10_compareSizes_36 rfl (lv_at hl 0 rfl) ?_
    refine pw_get (C := RX10) (T := TX10) (N := 20) hx hb hts hin10 hown hK hO rfl 14 (by decide) lk_41 rfl rfl dX10_compareSizes_37 ?_
    refine lv_iload_n hx hb dX10_compareSizes_40 rfl (lv_at hl 1 rfl) ?_
    refine pw_iald hx hb hK hg (a) rfl (by omega) (by omega) dX10_compareSizes_41 ?_
    refine pw_asi ((n : Int)) hga ?_
    refine pw_iconst hx hb dX10_compareSizes_42 ?_
    refine pw_isub hx hb dX10_compareSizes_43 ?_
    refine lv_istore_n (lv' := [(3, .int (iI (((n : Int)) - (1)))), (0, .ref (r0)), (1, .int (iI ((a : Int)))), (2, .int (iI ((b : Int))))]) hx hb dX10_compareSizes_44 rfl hl (by decide) rfl (fun ls hl => ?_)
    have hnm : n = m0 := by omega
    exact loop hnm n _ _ _ (Nat.le_refl n) (by rw [Nat.div_eq_of_lt hrk.2.1, Nat.div_eq_of_lt (by rw [hnm]; exact hrk2.2.1)]) hO hf hg hh hS (lv_sub hl [1, 2, 3, 0] rfl)
  · refine lv_aload_n hx hb dX10_compareSizes_15 rfl (lv_at hl 0 rfl) ?_
    refine pw_get (C := RX10) (T := TX10) (N := 20) hx hb hts hin10 hown hK hO rfl 14 (by decide) lk_41 rfl rfl dX10_compareSizes_16 ?_
    refine lv_iload_n hx hb dX10_compareSizes_19 rfl (lv_at hl 1 rfl) ?_
    refine pw_iald hx hb hK hg (a) rfl (by omega) (by omega) dX10_compareSizes_20 ?_
    refine pw_asi ((n : Int)) hga ?_
    refine lv_aload_n hx hb dX10_compareSizes_21 rfl (lv_at hl 0 rfl) ?_
    refine pw_get (C := RX10) (T := TX10) (N := 20) hx hb hts hin10 hown hK hO rfl 14 (by decide) lk_41 rfl rfl dX10_compareSizes_22 ?_
    refine lv_iload_n hx hb dX10_compareSizes_25 rfl (lv_at hl 2 rfl) ?_
    refine pw_iald hx hb hK hg (b) rfl (by omega) (by omega) dX10_compareSizes_26 ?_
    refine pw_asi ((m0 : Int)) hgb ?_
    refine pw_icmp_ge (tgt := 34) hx hb dX10_compareSizes_27 (by decide) (fun c_27 => ?_) (fun c_27 => ?_)
    · refine pw_iconst hx hb dX10_compareSizes_34 ?_
      exact pw_iret hx hb hr hlocks hS (cz_gt (rk_lt hrk2 hrk (by omega))).symm dX10_compareSizes_35
    · refine pw_iconst hx hb dX10_compareSizes_30 ?_
      refine lv_goto (tgt := 35) hx hb dX10_compareSizes_31 (by decide) ?_
      exact pw_iret hx hb hr hlocks hS (cz_lt (rk_lt hrk hrk2 (by omega))).symm dX10_compareSizes_35
set_option maxHeartbeats 4000000 in
set_option maxRecDepth 100000 in
/-- compare(a, b) -/
theorem r_compare (l : Launch) (D : va_G) (E : Nat → ClassId) (r0 : Nat) (o f g h : Nat → Int) (a b : Nat) (u v : Int) (ha : a < 80) (hb0 : b < 80) (hA : Num f g h a u) (hB : Num f g h b v) : pw_M rvI l D E yX10_compare wsX10_compare ({ frames := 1, cells := 0, slots := 0, locals := 23 } : Room) [.ref (r0), .int (iI ((a : Int))), .int (iI ((b : Int)))] (fun H => RO D r0 o H ∧ NA E r0 f g h H) (fun z _ => z = cI u v) (fun _ => False) (0) (0) := by
  refine pw_of (cc := cX10_compare) (maxL := 3) (ret := (some .int)) (by decide +kernel) rfl (Nat.le_of_ble_eq_true rfl) ?_
  intro p e s m args below meth c hx hb hr hml hts hown hlocks hini hK ⟨hO, hf, hg, hh⟩ ls hl
  have hown : s.vm.findClass RX10 = some m.cls := hown
  have hl : lv_has ls 3 [(0, .ref (r0)), (1, .int (iI ((a : Int)))), (2, .int (iI ((b : Int))))] := hl
  have hS : va_S (fun _ => False) s.heap s.heap [] := va_S.rf
  have lk_44 := hts (.fieldLink RX10 44 "PolicyWorksModel" "signs" "[I") (by decide +kernel)
  have hin10 : ∀ w ∈ wsX100, w ∈ wsX10_compare := by decide +kernel
  have hsa : h a = u.sign := hA.choose_spec.2.2.2
  have hsb : h b = v.sign := hB.choose_spec.2.2.2
  have b1 := sgn_b u
  have b2 := sgn_b v
  refine lv_aload_n hx hb dX10_compare_0 rfl (lv_at hl 0 rfl) ?_
  refine pw_get (C := RX10) (T := TX10) (N := 20) hx hb hts hin10 hown hK hO rfl 15 (by decide) lk_44 rfl rfl dX10_compare_1 ?_
  refine lv_iload_n hx hb dX10_compare_4 rfl (lv_at hl 1 rfl) ?_
  refine pw_iald hx hb hK hh (a) rfl (by omega) (by omega) dX10_compare_5 ?_
  refine pw_asi (u.sign) hsa ?_
  refine lv_aload_n hx hb dX10_compare_6 rfl (lv_at hl 0 rfl) ?_
  refine pw_get (C := RX10) (T := TX10) (N := 20) hx hb hts hin10 hown hK hO rfl 15 (by decide) lk_44 rfl rfl dX10_compare_7 ?_
  refine lv_iload_n hx hb dX10_compare_10 rfl (lv_at hl 2 rfl) ?_
  refine pw_iald hx hb hK hh (b) rfl (by omega) (by omega) dX10_compare_11 ?_
  refine pw_asi (v.sign) hsb ?_
  refine pw_icmp_eq (tgt := 36) hx hb dX10_compare_12 (by decide) (fun c_12 => ?_) (fun c_12 => ?_)
  · refine lv_aload_n hx hb dX10_compare_36 rfl (lv_at hl 0 rfl) ?_
    refine pw_get (C := RX10) (T := TX10) (N := 20) hx hb hts hin10 hown hK hO rfl 15 (by decide) lk_44 rfl rfl dX10_compare_37 ?_
    refine lv_iload_n hx hb dX10_compare_40 rfl (lv_at hl 1 rfl) ?_
    refine pw_iald hx hb hK hh (a) rfl (by omega) (by omega) dX10_compare_41 ?_
    refine pw_asi (u.sign) hsa ?_
    refine lv_aload_n hx hb dX10_compare_42 rfl (lv_at hl 0 rfl) ?_
    refine lv_iload_n hx hb dX10_compare_43 rfl (lv_at hl 1 rfl) ?_
    refine lv_iload_n hx hb dX10_compare_44 rfl (lv_at hl 2 rfl) ?_
    refine pw_callVi (As := [.int (iI ((a : Int))), .int (iI ((b : Int)))]) (rest := [.int (iI (u.sign))]) ⟨hx, hb, hml, hown, hts⟩ (r_compareSizes l D E r0 o f g h a b u v ha hb0 hA hB) (cwV 2 hts gX10_compare_X10_compareSizes rfl rfl rfl (by decide +kernel) ⟨Nat.le_of_ble_eq_true rfl, Nat.le_of_ble_eq_true rfl⟩) hK hO rfl ⟨hO, hf, hg, hh⟩ rfl hl.1 rfl (Nat.le_of_ble_eq_true rfl) dX10_compare_45 ⟨Nat.zero_le _, Nat.zero_le _⟩ hS (fun q h => h.elim) (fun z H1 locs1 hz hz1 hk1 hS => ?_)
    have hO := hO.k (hk1 _ hO.lt (fun h => h))
    have hf := hf.k (hk1 _ hf.lt (fun h => h))
    have hg := hg.k (hk1 _ hg.lt (fun h => h))
    have hh := hh.k (hk1 _ hh.lt (fun h => h))
    refine pw_imul hx hb dX10_compare_48 ?_
    exact pw_iret hx hb hr hlocks hS (by rw [hz, cI_same c_12]) dX10_compare_49
  · refine lv_aload_n hx hb dX10_compare_15 rfl (lv_at hl 0 rfl) ?_
    refine pw_get (C := RX10) (T := TX10) (N := 20) hx hb hts hin10 hown hK hO rfl 15 (by decide) lk_44 rfl rfl dX10_compare_16 ?_
    refine lv_iload_n hx hb dX10_compare_19 rfl (lv_at hl 1 rfl) ?_
    refine pw_iald hx hb hK hh (a) rfl (by omega) (by omega) dX10_compare_20 ?_
    refine pw_asi (u.sign) hsa ?_
    refine lv_aload_n hx hb dX10_compare_21 rfl (lv_at hl 0 rfl) ?_
    refine pw_get (C := RX10) (T := TX10) (N := 20) hx hb hts hin10 hown hK hO rfl 15 (by decide) lk_44 rfl rfl dX10_compare_22 ?_
    refine lv_iload_n hx hb dX10_compare_25 rfl (lv_at hl 2 rfl) ?_
    refine pw_iald hx hb hK hh (b) rfl (by omega) (by omega) dX10_compare_26 ?_
    refine pw_asi (v.sign) hsb ?_
    refine pw_icmp_ge (tgt := 34) hx hb dX10_compare_27 (by decide) (fun c_27 => ?_) (fun c_27 => ?_)
    · refine pw_iconst hx hb dX10_compare_34 ?_
      exact pw_iret hx hb hr hlocks hS (by rw [cI_sgn c_12, if_neg (by omega)]) dX10_compare_35
    · refine pw_iconst hx hb dX10_compare_30 ?_
      refine lv_goto (tgt := 35) hx hb dX10_compare_31 (by decide) ?_
      exact pw_iret hx hb hr hlocks hS (by rw [cI_sgn c_12, if_pos (by omega)]) dX10_compare_35
