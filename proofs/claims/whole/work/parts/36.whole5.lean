/-! the class's whole numbers: divide, eighteen, the constructor -/
section PZ
variable {p : Program} {l : Launch} {e : Env} {R : Room} {s : State} {m : MethodId} {args : Array Value} {below : List Frame} {meth : Method} {c : Code} {H : Heap} {locs : List Loc} {cells slots : Nat} {Q : State → Prop}
variable {cc : ByteArray} {pc : Nat} {ls : Array Slot} {rest : List Value}
theorem pw_mmaxl (hx : p.tables.exec = Jvm.exec) (hb : c.code = cc) (hml : c.maxLocals = ls.size) {own : String} {index : Nat} (hown : s.vm.findClass own = some m.cls) {Ts : List Cond} (hts : ∀ w ∈ Ts, w.before args s = true) (hin : ∀ w ∈ ([.methodLink own index Lib.MathLoose.max_long.x, .static Lib.MathLoose.max_long.x, .initialized "java/lang/Math", .code Lib.MathLoose.max_long.x Lib.MathLoose.max_long.code 4 (some .long)] : List Cond), w ∈ Ts)
    (hframes : 1 ≤ R.frames) (hlocals : (rest.map fun v => v.category).sum + 15 ≤ R.locals) (hc : cells ≤ R.cells) (hs : slots ≤ R.slots) {x y : Int} (d : decode cc pc = .ok (.invokestatic index, 3))
    (kk : W p l e R s m args below meth c H locs cells slots Q (F0 m (pc + 3) ls (.long (lI (max x y)) :: rest))) (x1 : -9223372036854775808 ≤ x := by omega) (x2 : x ≤ 9223372036854775807 := by omega) (y1 : -9223372036854775808 ≤ y := by omega) (y2 : y ≤ 9223372036854775807 := by omega) : W p l e R s m args below meth c H locs cells slots Q (F0 m pc ls (.long (lI y) :: .long (lI x) :: rest)) := by
  have w1 := hts (.methodLink own index Lib.MathLoose.max_long.x) (hin _ (by simp))
  have w2 := hts (.static Lib.MathLoose.max_long.x) (hin _ (by simp))
  have w3 := hts (.initialized "java/lang/Math") (hin _ (by simp))
  have w4 := hts (.code Lib.MathLoose.max_long.x Lib.MathLoose.max_long.code 4 (some .long)) (hin _ (by simp))
  refine va_mmax_long hx hb hml hown w1 w2 w3 w4 hframes hlocals hc hs d ?_
  have e1 : (if lI y < lI x then lI x else lI y) = lI (max x y) := by
    by_cases h : y < x
    · rw [if_pos ((lI_lt y1 y2 x1 x2).mpr h)]; congr 1; omega
    · rw [if_neg (fun q => h ((lI_lt y1 y2 x1 x2).mp q))]; congr 1; omega
  rw [e1]
  exact kk
end PZ
theorem inner_step {xr Y gz t x0 gs : Int} {u : Nat} (hY : 0 < Y) (hr : Y ≤ xr) (h0 : gs * Y + xr = x0) (hx0 : x0 < 1000000 * Y) (hgs : 0 ≤ gs) (g1 : 0 ≤ gz) (g2 : gz * Y ≤ xr) (g3 : xr < (gz + 3) * Y) (ht : t = max gz 1) (hu : u = 0 ∨ xr < (4 - (u : Int)) * Y) : 1 ≤ t ∧ t ≤ 1000000 ∧ t * Y ≤ xr ∧ 0 ≤ xr - t * Y ∧ (gs + t) * Y + (xr - t * Y) = x0 ∧ xr - t * Y < (4 - ((u + 1 : Nat) : Int)) * Y := by
  have hp : 0 ≤ gs * Y := Int.mul_nonneg hgs (by omega)
  have a1 : t * Y ≤ xr := by
    rcases Int.lt_or_le gz 1 with h | h
    · rw [show t = 1 by omega]; omega
    · rw [show t = gz by omega]; exact g2
  have a2 : t < 1000000 := Int.lt_of_mul_lt_mul_right (a := Y) (by omega) (by omega)
  have a3 : gz * Y ≤ t * Y := Int.mul_le_mul_of_nonneg_right (by omega) (by omega)
  have a4 : 1 * Y ≤ t * Y := Int.mul_le_mul_of_nonneg_right (by omega) (by omega)
  rw [Int.add_mul] at g3
  refine ⟨by omega, by omega, a1, by omega, by rw [Int.add_mul]; omega, ?_⟩
  rcases hu with h | h
  · subst h
    show xr - t * Y < 3 * Y
    omega
  · have e : (4 - ((u + 1 : Nat) : Int)) * Y = (4 - (u : Int)) * Y - Y := by
      rw [show (4 - ((u + 1 : Nat) : Int)) = (4 - (u : Int)) - 1 by omega, Int.sub_mul, Int.one_mul]
    rw [e]
    omega
theorem div_first {x y : Int} {m1 m2 ka kb : Nat} (hx : 0 ≤ x) (hy : 0 < y) (h1 : wk x m1 ka) (h2 : wk y m2 kb) : x < y * 1000000 ^ (ka + 1 - kb) := by
  have h := reach_lt hx hy h1 h2 (s := ka + 1 - kb) (by omega)
  omega
theorem div_last {x y q r : Int} (hy : 0 < y) (h : q * y + r = x) (h1 : 0 ≤ r) (h2 : r < y) : x / y = q ∧ x % y = r := by
  refine (Int.ediv_emod_unique hy).mpr ⟨?_, h1, h2⟩
  rw [Int.mul_comm y q]
  omega
/-- eighteen digits -/
def e18 (x i : Nat) : Nat := x / 1000000000000000000 ^ i % 1000000000000000000
theorem e18_pow (i : Nat) : 1000000000000000000 ^ i = 1000000 ^ (3 * i) := by rw [Nat.pow_mul]
theorem e18_lb {v : Int} (h : 0 ≤ v) (i : Nat) : ((0 * 1000000 + lb v ((i : Int) * 3 + 2)) * 1000000 + lb v ((i : Int) * 3 + 1)) * 1000000 + lb v ((i : Int) * 3 + 0) = ((e18 v.natAbs i : Nat) : Int) := by
  have c0 : lb v ((i : Int) * 3 + 0) = (nd v.natAbs (3 * i) : Int) := by rw [show (i : Int) * 3 + 0 = ((3 * i : Nat) : Int) by omega, lb_n, wdig_nn h]
  have c1 : lb v ((i : Int) * 3 + 1) = (nd v.natAbs (3 * i + 1) : Int) := by rw [show (i : Int) * 3 + 1 = ((3 * i + 1 : Nat) : Int) by omega, lb_n, wdig_nn h]
  have c2 : lb v ((i : Int) * 3 + 2) = (nd v.natAbs (3 * i + 2) : Int) := by rw [show (i : Int) * 3 + 2 = ((3 * i + 2 : Nat) : Int) by omega, lb_n, wdig_nn h]
  rw [c0, c1, c2]
  unfold e18 nd
  rw [e18_pow]
  have e1 : v.natAbs / 1000000 ^ (3 * i + 1) = v.natAbs / 1000000 ^ (3 * i) / 1000000 := by rw [Nat.pow_succ, Nat.div_div_eq_div_mul]
  have e2 : v.natAbs / 1000000 ^ (3 * i + 2) = v.natAbs / 1000000 ^ (3 * i) / 1000000 / 1000000 := by rw [Nat.pow_succ, Nat.pow_succ, Nat.div_div_eq_div_mul, Nat.div_div_eq_div_mul, Nat.mul_assoc]
  rw [e1, e2]
  generalize v.natAbs / 1000000 ^ (3 * i) = X
  omega
theorem e18_big {x n i : Nat} (h : x < 1000000 ^ n) (hi : n ≤ 3 * i) : e18 x i = 0 := by
  unfold e18
  rw [e18_pow, Nat.div_eq_of_lt (Nat.lt_of_lt_of_le h (bp_mono hi))]
set_option maxHeartbeats 4000000 in
set_option maxRecDepth 100000 in
/-- divide(by, quotient): leaves the rest -/
theorem c_divide (l : Launch) (D : va_G) (E : Nat → ClassId) (a n b nb c0 nc : Nat) (f : Nat → Int) (sz sg x y : Int) (hn : n < 1000) (hnb : nb < 1000) (hnc : nc < 1000) (hle : n ≤ nc) (hx0 : 0 ≤ x) (hy0 : 0 < y) (hab : a + 1 < b ∨ b + 1 < a) (hac : a + 1 < c0 ∨ c0 + 1 < a) (hbc : b + 1 < c0 ∨ c0 + 1 < b) : pw_M rvV l D E yX8_divide wsX8_divide ({ frames := 2, cells := 0, slots := 0, locals := 54 } : Room) [.ref (a), .ref (b), .ref (c0)] (fun H => WH D E a n x H ∧ WH D E b nb y H ∧ WR D E c0 nc f sz sg H) (fun _ H => WH D E a n (x % y) H ∧ WH D E c0 nc (x / y) H) (fun q => q = a ∨ q = a + 1 ∨ q = c0 ∨ q = c0 + 1) (0) (0) := by
  refine pw_of (cc := cX8_divide) (maxL := 7) (ret := none) (by decide +kernel) rfl (Nat.le_of_ble_eq_true rfl) ?_
  intro p e s m args below meth c hx hb hr hml hts hown hlocks hini hK ⟨hA, ⟨kb, ⟨hOb, hLb⟩, hkb⟩, hOc, hLc⟩ ls hl
  have hown : s.vm.findClass RX8 = some m.cls := hown
  have hl : lv_has ls 7 [(0, .ref (a)), (1, .ref (b)), (2, .ref (c0))] := hl
  have hS : va_S (fun q => q = a ∨ q = a + 1 ∨ q = c0 ∨ q = c0 + 1) s.heap s.heap [] := va_S.rf
  have lk_7 := hts (.fieldLink RX8 7 "PolicyWorks$Whole" "limbs" "[J") (by decide +kernel)
  have lk_13 := hts (.fieldLink RX8 13 "PolicyWorks$Whole" "size" "I") (by decide +kernel)
  have hin8 : ∀ w ∈ wsX80, w ∈ wsX8_divide := by decide +kernel
  have hkb1 := hkb.1
  have hkb0 : 0 < kb := Nat.pos_of_ne_zero (fun e => by have := (wk_z hkb).mp e; omega)
  have fin : ∀ (xr z3 : Int) (g : Nat → Int) (H : Heap) (locs : List Loc) (ls : Array Slot), 0 ≤ xr → xr < y → wv g nc * y + xr = x → (∀ j, j < nc → 0 ≤ g j ∧ g j < 1000000) → WH D E a n xr H → OA D (b) 8 [.ref (b + 1), .int (iI ((kb : Int))), .int (iI (y.sign))] H → LA E (b + 1) nb (wdig y) H → OA D (c0) 8 [.ref (c0 + 1), .int (iI (0)), .int (iI (0))] H → LA E (c0 + 1) nc g H → va_S (fun q => q = a ∨ q = a + 1 ∨ q = c0 ∨ q = c0 + 1) s.heap H locs → lv_has ls 7 [(0, .ref (a)), (1, .ref (b)), (2, .ref (c0)), (3, .int (iI (z3)))] → W p l e ({ frames := 2, cells := 0, slots := 0, locals := 54 } : Room) s m args below meth c H locs (0) (0) (MQ below (pw_Q rvV (fun _ H => WH D E a n (x % y) H ∧ WH D E c0 nc (x / y) H) (fun q => q = a ∨ q = a + 1 ∨ q = c0 ∨ q = c0 + 1)) args s (0) (0) (fun q => q = a ∨ q = a + 1 ∨ q = c0 ∨ q = c0 + 1)) (F0 m 88 ls []) := by
    intro xr z3 g H locs ls h0 h1 h2 h3 hA hOb hLb hOc hLc hS hl
    obtain ⟨dq, dr⟩ := div_last hy0 h2 h0 h1
    obtain ⟨d1, d2, d3⟩ := dig_pos h3
    refine lv_aload_n hx hb dX8_divide_88 rfl (lv_at hl 2 rfl) ?_
    refine pw_callVv (As := []) (rest := []) ⟨hx, hb, hml, hown, hts⟩ (c_measure l D E c0 nc g 0 0 hnc (fun j hj => by have := h3 j hj; omega)) (cwV 0 hts gX8_divide_X8_measure rfl rfl rfl (by decide +kernel) ⟨Nat.le_of_ble_eq_true rfl, Nat.le_of_ble_eq_true rfl⟩) hK hOc rfl ⟨hOc, hLc⟩ rfl hl.1 rfl (Nat.le_of_ble_eq_true rfl) dX8_divide_89 ⟨Nat.zero_le _, Nat.zero_le _⟩ hS (fun q h => by rcases h with h | h <;> simp [h]) (fun H1 locs1 ⟨k, hk, h4, h5, hW⟩ hz1 hk1 hS => ?_)
    have hOb := hOb.k (hk1 _ hOb.lt (by (try dsimp only); omega))
    have hLb := hLb.k (hk1 _ hLb.lt (by (try dsimp only); omega))
    have hA := hA.k (hk1 _ (by have := hA.lt; omega) (by (try dsimp only); omega)) (hk1 _ hA.lt (by (try dsimp only); omega))
    exact pw_vret hx hb hr hlocks hS ⟨by rw [dr]; exact hA, by rw [dq]; exact wh_of (by omega) d2 d3 hk h4 h5 hW⟩ dX8_divide_92
  have inner : ∀ (sh : Nat), sh < n → (∀ (xr : Int) (g : Nat → Int) (H : Heap) (locs : List Loc) (ls : Array Slot), 0 ≤ xr → xr < y * 1000000 ^ sh → wv g nc * y + xr = x → (∀ j, j < nc → 0 ≤ g j ∧ g j < 1000000) → (∀ j, j < sh → g j = 0) → WH D E a n xr H → OA D (b) 8 [.ref (b + 1), .int (iI ((kb : Int))), .int (iI (y.sign))] H → LA E (b + 1) nb (wdig y) H → OA D (c0) 8 [.ref (c0 + 1), .int (iI (0)), .int (iI (0))] H → LA E (c0 + 1) nc g H → va_S (fun q => q = a ∨ q = a + 1 ∨ q = c0 ∨ q = c0 + 1) s.heap H locs → lv_has ls 7 [(0, .ref (a)), (1, .ref (b)), (2, .ref (c0)), (3, .int (iI (((sh : Nat) : Int) - 1)))] → W p l e ({ frames := 2, cells := 0, slots := 0, locals := 54 } : Room) s m args below meth c H locs (0) (0) (MQ below (pw_Q rvV (fun _ H => WH D E a n (x % y) H ∧ WH D E c0 nc (x / y) H) (fun q => q = a ∨ q = a + 1 ∨ q = c0 ∨ q = c0 + 1)) args s (0) (0) (fun q => q = a ∨ q = a + 1 ∨ q = c0 ∨ q = c0 + 1)) (F0 m 22 ls [])) → ∀ (x0 : Int), x0 < 1000000 * (y * 1000000 ^ sh) → ∀ (k u : Nat) (xr : Int) (g : Nat → Int) (H : Heap) (locs : List Loc) (ls : Array Slot), u + k = 4 → 0 ≤ xr → g sh * (y * 1000000 ^ sh) + xr = x0 → (u = 0 ∨ xr < (4 - (u : Int)) * (y * 1000000 ^ sh)) → wv g nc * y + xr = x → (∀ j, j < nc → j ≠ sh → 0 ≤ g j ∧ g j < 1000000) → 0 ≤ g sh → (∀ j, j < sh → g j = 0) → WH D E a n xr H → OA D (b) 8 [.ref (b + 1), .int (iI ((kb : Int))), .int (iI (y.sign))] H → LA E (b + 1) nb (wdig y) H → OA D (c0) 8 [.ref (c0 + 1), .int (iI (0)), .int (iI (0))] H → LA E (c0 + 1) nc g H → va_S (fun q => q = a ∨ q = a + 1 ∨ q = c0 ∨ q = c0 + 1) s.heap H locs → lv_has ls 7 [(0, .ref (a)), (1, .ref (b)), (2, .ref (c0)), (3, .int (iI ((sh : Int)))), (4, .int (iI ((u : Int))))] → W p l e ({ frames := 2, cells := 0, slots := 0, locals := 54 } : Room) s m args below meth c H locs (0) (0) (MQ below (pw_Q rvV (fun _ H => WH D E a n (x % y) H ∧ WH D E c0 nc (x / y) H) (fun q => q = a ∨ q = a + 1 ∨ q = c0 ∨ q = c0 + 1)) args s (0) (0) (fun q => q = a ∨ q = a + 1 ∨ q = c0 ∨ q = c0 + 1)) (F0 m 29 ls []) := by
    intro sh hsh next x0 hx0b k
    have hY : 0 < y * 1000000 ^ sh := Int.mul_pos hy0 (bp_posI sh)
    have hY2 : y * 1000000 ^ (sh + 1) = 1000000 * (y * 1000000 ^ sh) := by rw [bp_sI, Int.mul_left_comm]
    induction k with
    | zero =>
      intro u xr g H locs ls hu h0 hgx hux hwx hdg hgs hlo hA hOb hLb hOc hLc hS hl
      have e4 : u = 4 := by omega
      subst e4
      exfalso
      rcases hux with h | h
      · omega
      · have : xr < 0 * (y * 1000000 ^ sh) := h
        omega
    | succ k ih =>
      intro u xr g H locs ls hu h0 hgx hux hwx hdg hgs hlo hA hOb hLb hOc hLc hS hl
      have hgY : 0 ≤ g sh * (y * 1000000 ^ sh) := Int.mul_nonneg hgs (by omega)
      obtain ⟨ka, ⟨hO, hL⟩, hka⟩ := hA
      have hka1 := hka.1
      refine lv_iload hx hb dX8_divide_29 (lv_at hl 4 rfl) ?_
      refine pw_bipush hx hb dX8_divide_31 ?_
      refine pw_icmp_ge (tgt := 82) hx hb dX8_divide_33 (by decide) (fun c_33 => absurd c_33 (by omega)) (fun c_33 => ?_)
      refine lv_aload_n hx hb dX8_divide_36 rfl (lv_at hl 0 rfl) ?_
      refine lv_aload_n hx hb dX8_divide_37 rfl (lv_at hl 1 rfl) ?_
      refine lv_iload_n hx hb dX8_divide_38 rfl (lv_at hl 3 rfl) ?_
      refine pw_callVi (As := [.ref (b), .int (iI ((sh : Int)))]) (rest := []) ⟨hx, hb, hml, hown, hts⟩ (c_reaches l D E a n b nb sh xr y hn hnb (by omega) h0 hy0) (cwV 2 hts gX8_divide_X8_reaches rfl rfl rfl (by decide +kernel) ⟨Nat.le_of_ble_eq_true rfl, Nat.le_of_ble_eq_true rfl⟩) hK hO rfl ⟨⟨ka, ⟨hO, hL⟩, hka⟩, ⟨kb, ⟨hOb, hLb⟩, hkb⟩⟩ rfl hl.1 rfl (Nat.le_of_ble_eq_true rfl) dX8_divide_39 ⟨Nat.zero_le _, Nat.zero_le _⟩ hS (fun q h => h.elim) (fun rz H1 locs1 hz hz1 hk1 hS => ?_)
      have hO := hO.k (hk1 _ hO.lt (fun h => h))
      have hL := hL.k (hk1 _ hL.lt (fun h => h))
      have hOb := hOb.k (hk1 _ hOb.lt (fun h => h))
      have hLb := hLb.k (hk1 _ hLb.lt (fun h => h))
      have hOc := hOc.k (hk1 _ hOc.lt (fun h => h))
      have hLc := hLc.k (hk1 _ hLc.lt (fun h => h))
      have hz := hz.1
      have hrz : 0 ≤ rz ∧ rz ≤ 1 := by rw [hz]; split <;> omega
      refine pw_if_eq (tgt := 82) hx hb dX8_divide_42 (by decide) (fun c_42 => ?_) (fun c_42 => ?_)
      · have hlt : xr < y * 1000000 ^ sh := by
          rcases Int.lt_or_le xr (y * 1000000 ^ sh) with h | h
          · exact h
          · rw [if_pos h] at hz; omega
        refine lv_iinc (v := iI (((sh : Nat) : Int) - 1)) (lv' := [(3, .int (iI (((sh : Nat) : Int) - 1))), (0, .ref (a)), (1, .ref (b)), (2, .ref (c0)), (4, .int (iI ((u : Int))))]) hx hb dX8_divide_82 hl (k := 3) rfl (by show iI _ + iI _ = _; rw [iI_add]; first | rfl | (congr 1; omega)) (by decide) rfl (fun ls hl => ?_)
        refine lv_goto (tgt := 22) hx hb dX8_divide_85 (by decide) ?_
        refine next xr g _ _ _ h0 hlt hwx (fun j hj => ?_) hlo ⟨ka, ⟨hO, hL⟩, hka⟩ hOb hLb hOc hLc hS (lv_sub hl [1, 2, 3, 0] rfl)
        by_cases e : j = sh
        · rw [e]
          exact ⟨hgs, Int.lt_of_mul_lt_mul_right (a := y * 1000000 ^ sh) (by omega) (by omega)⟩
        · exact hdg j hj e
      · have hge : y * 1000000 ^ sh ≤ xr := by
          rcases Int.lt_or_le xr (y * 1000000 ^ sh) with h | h
          · rw [if_neg (by omega)] at hz; omega
          · exact h
        refine lv_aload_n hx hb dX8_divide_45 rfl (lv_at hl 0 rfl) ?_
        refine lv_aload_n hx hb dX8_divide_46 rfl (lv_at hl 1 rfl) ?_
        refine lv_iload_n hx hb dX8_divide_47 rfl (lv_at hl 3 rfl) ?_
        refine pw_callVl (As := [.ref (b), .int (iI ((sh : Int)))]) (rest := []) ⟨hx, hb, hml, hown, hts⟩ (c_guess l D E a n b nb sh xr y hn hnb (by omega) h0 hy0 (by rw [hY2]; omega)) (cwV 2 hts gX8_divide_X8_guess rfl rfl rfl (by decide +kernel) ⟨Nat.le_of_ble_eq_true rfl, Nat.le_of_ble_eq_true rfl⟩) hK hO rfl ⟨⟨ka, ⟨hO, hL⟩, hka⟩, ⟨kb, ⟨hOb, hLb⟩, hkb⟩⟩ rfl hl.1 rfl (Nat.le_of_ble_eq_true rfl) dX8_divide_48 ⟨Nat.zero_le _, Nat.zero_le _⟩ hS (fun q h => h.elim) (fun gz H1 locs1 ⟨g1, g2, g3⟩ hz1 hk1 hS => ?_)
        have hO := hO.k (hk1 _ hO.lt (fun h => h))
        have hL := hL.k (hk1 _ hL.lt (fun h => h))
        have hOb := hOb.k (hk1 _ hOb.lt (fun h => h))
        have hLb := hLb.k (hk1 _ hLb.lt (fun h => h))
        have hOc := hOc.k (hk1 _ hOc.lt (fun h => h))
        have hLc := hLc.k (hk1 _ hLc.lt (fun h => h))
        obtain ⟨t, ht⟩ : ∃ t, t = max gz 1 := ⟨_, rfl⟩
        obtain ⟨t1, t2, t3, t4, t5, t6⟩ := inner_step hY hge hgx hx0b hgs g1 g2 g3 ht hux
        refine pw_lconst (z := 1) hx hb dX8_divide_51 ?_
        refine pw_mmaxl hx hb (hml.trans hl.1.symm) hown hts (by decide +kernel) (Nat.le_of_ble_eq_true rfl) (Nat.le_of_ble_eq_true rfl) (Nat.le_of_ble_eq_true rfl) (Nat.le_of_ble_eq_true rfl) dX8_divide_52 ?_ (by omega) (by omega)
        refine pw_asl (t) ht.symm ?_
        refine lv_lstore (lv' := [(5, .long (lI (t))), (0, .ref (a)), (1, .ref (b)), (2, .ref (c0)), (3, .int (iI ((sh : Int)))), (4, .int (iI ((u : Int))))]) hx hb dX8_divide_55 hl (by decide) rfl (fun ls hl => ?_)
        refine lv_aload_n hx hb dX8_divide_57 rfl (lv_at hl 1 rfl) ?_
        refine lv_aload_n hx hb dX8_divide_58 rfl (lv_at hl 2 rfl) ?_
        refine lv_iload_n hx hb dX8_divide_59 rfl (lv_at hl 4 rfl) ?_
        refine lv_lload hx hb dX8_divide_60 (lv_at hl 0 rfl) ?_
        refine pw_callVv (As := [.ref (b), .int (iI ((sh : Int))), .long (lI (t))]) (rest := []) ⟨hx, hb, hml, hown, hts⟩ (c_takeAway l D E a n b nb sh xr y t hn hnb (by omega) h0 hy0 t1 t2 t3 hab) (cwV 3 hts gX8_divide_X8_takeAway rfl rfl rfl (by decide +kernel) ⟨Nat.le_of_ble_eq_true rfl, Nat.le_of_ble_eq_true rfl⟩) hK hO rfl ⟨⟨ka, ⟨hO, hL⟩, hka⟩, ⟨kb, ⟨hOb, hLb⟩, hkb⟩⟩ rfl hl.1 rfl (Nat.le_of_ble_eq_true rfl) dX8_divide_62 ⟨Nat.zero_le _, Nat.zero_le _⟩ hS (fun q h => by rcases h with h | h <;> simp [h]) (fun H1 locs1 hA hz1 hk1 hS => ?_)
        have hOb := hOb.k (hk1 _ hOb.lt (by (try dsimp only); omega))
        have hLb := hLb.k (hk1 _ hLb.lt (by (try dsimp only); omega))
        have hOc := hOc.k (hk1 _ hOc.lt (by (try dsimp only); omega))
        have hLc := hLc.k (hk1 _ hLc.lt (by (try dsimp only); omega))
        refine lv_aload_n hx hb dX8_divide_65 rfl (lv_at hl 3 rfl) ?_
        refine pw_get (C := RX8) (T := TX8) (N := 3) hx hb hts hin8 hown hK hOc rfl 0 (by decide) lk_7 rfl rfl dX8_divide_66 ?_
        refine lv_iload_n hx hb dX8_divide_69 rfl (lv_at hl 4 rfl) ?_
        refine lv_dup2_11 hx hb dX8_divide_70 rfl rfl ?_
        refine pw_lald hx hb hK hLc (sh) rfl (by omega) (by omega) dX8_divide_71 ?_
        refine lv_lload hx hb dX8_divide_72 (lv_at hl 0 rfl) ?_
        refine pw_ladd hx hb dX8_divide_74 ?_
        refine pw_last hx hb hK hLc hS (Or.inr (Or.inr (Or.inr rfl))) (sh) rfl (by omega) (by omega) dX8_divide_75 (fun H1 locs1 hnew hz1 oq hS => ?_)
        have hOb := hOb.k (oq _ (by omega))
        have hLb := hLb.k (oq _ (by omega))
        have hOc := hOc.k (oq _ (by omega))
        have hA := hA.k (oq _ (by omega)) (oq _ (by omega))
        have hLc := hnew
        clear hnew oq hz1
        refine lv_iinc (v := iI (((u + 1 : Nat) : Int))) (lv' := [(4, .int (iI (((u + 1 : Nat) : Int)))), (5, .long (lI (t))), (0, .ref (a)), (1, .ref (b)), (2, .ref (c0)), (3, .int (iI ((sh : Int))))]) hx hb dX8_divide_76 hl (k := 5) rfl (by show iI _ + iI _ = _; rw [iI_add]; first | rfl | (congr 1; omega)) (by decide) rfl (fun ls hl => ?_)
        refine lv_goto (tgt := 29) hx hb dX8_divide_79 (by decide) ?_
        refine ih (u + 1) (xr - t * (y * 1000000 ^ sh)) _ _ _ _ (by omega) t4 (by rw [ud_s]; exact t5) (Or.inr t6) ?_ (fun j hj e => by rw [ud_n _ _ e]; exact hdg j hj e) (by rw [ud_s]; omega) (fun j hj => by rw [ud_n _ _ (by omega)]; exact hlo j hj) hA hOb hLb hOc hLc hS (lv_sub hl [2, 3, 4, 5, 0] rfl)
        rw [wv_ud _ _ _ _ (by omega), show g sh + t - g sh = t by omega, Int.add_mul, Int.mul_assoc t, Int.mul_comm (1000000 ^ sh) y]
        omega
  have outer : ∀ (k : Nat) (xr : Int) (g : Nat → Int) (H : Heap) (locs : List Loc) (ls : Array Slot), k ≤ n → 0 ≤ xr → xr < y * 1000000 ^ k → wv g nc * y + xr = x → (∀ j, j < nc → 0 ≤ g j ∧ g j < 1000000) → (∀ j, j < k → g j = 0) → WH D E a n xr H → OA D (b) 8 [.ref (b + 1), .int (iI ((kb : Int))), .int (iI (y.sign))] H → LA E (b + 1) nb (wdig y) H → OA D (c0) 8 [.ref (c0 + 1), .int (iI (0)), .int (iI (0))] H → LA E (c0 + 1) nc g H → va_S (fun q => q = a ∨ q = a + 1 ∨ q = c0 ∨ q = c0 + 1) s.heap H locs → lv_has ls 7 [(0, .ref (a)), (1, .ref (b)), (2, .ref (c0)), (3, .int (iI ((k : Int) - 1)))] → W p l e ({ frames := 2, cells := 0, slots := 0, locals := 54 } : Room) s m args below meth c H locs (0) (0) (MQ below (pw_Q rvV (fun _ H => WH D E a n (x % y) H ∧ WH D E c0 nc (x / y) H) (fun q => q = a ∨ q = a + 1 ∨ q = c0 ∨ q = c0 + 1)) args s (0) (0) (fun q => q = a ∨ q = a + 1 ∨ q = c0 ∨ q = c0 + 1)) (F0 m 22 ls []) := by
    intro k
    induction k with
    | zero =>
      intro xr g H locs ls hk h0 h1 h2 h3 h4 hA hOb hLb hOc hLc hS hl
      refine lv_iload_n hx hb dX8_divide_22 rfl (lv_at hl 3 rfl) ?_
      refine pw_if_lt (tgt := 88) hx hb dX8_divide_23 (by decide) (fun c_23 => ?_) (fun c_23 => absurd c_23 (by omega))
      exact fin xr _ g _ _ _ h0 (by simpa using h1) h2 h3 hA hOb hLb hOc hLc hS hl
    | succ k ih =>
      intro xr g H locs ls hk h0 h1 h2 h3 h4 hA hOb hLb hOc hLc hS hl
      refine lv_iload_n hx hb dX8_divide_22 rfl (lv_at hl 3 rfl) ?_
      refine pw_if_lt (tgt := 88) hx hb dX8_divide_23 (by decide) (fun c_23 => absurd c_23 (by omega)) (fun c_23 => ?_)
      refine pw_iconst hx hb dX8_divide_26 ?_
      refine lv_istore (lv' := [(4, .int (iI (0))), (0, .ref (a)), (1, .ref (b)), (2, .ref (c0)), (3, .int (iI (((k + 1 : Nat) : Int) - 1)))]) hx hb dX8_divide_27 hl (by decide) rfl (fun ls hl => ?_)
      have hl : lv_has ls 7 [(0, .ref (a)), (1, .ref (b)), (2, .ref (c0)), (3, .int (iI ((k : Int)))), (4, .int (iI (((0 : Nat) : Int))))] := by rw [show (k : Int) = ((k + 1 : Nat) : Int) - 1 by omega]; exact lv_sub hl [1, 2, 3, 4, 0] rfl
      exact inner k (by omega) (fun xr g H locs ls a1 a2 a3 a4 a5 hA hOb hLb hOc hLc hS hl => ih xr g H locs ls (by omega) a1 a2 a3 a4 a5 hA hOb hLb hOc hLc hS hl) xr (by rw [bp_sI, Int.mul_left_comm] at h1; exact h1) 4 0 xr g _ _ _ (by omega) h0 (by rw [h4 k (by omega)]; omega) (Or.inl rfl) h2 (fun j hj _ => h3 j hj) (by rw [h4 k (by omega)]; omega) (fun j hj => h4 j (by omega)) hA hOb hLb hOc hLc hS hl
  obtain ⟨ka, ⟨hO, hL⟩, hka⟩ := hA
  have hka1 := hka.1
  refine lv_aload_n hx hb dX8_divide_0 rfl (lv_at hl 2 rfl) ?_
  refine pw_callVv (As := []) (rest := []) ⟨hx, hb, hml, hown, hts⟩ (c_clear l D E c0 nc f sz sg hnc) (cwV 0 hts gX8_divide_X8_clear rfl rfl rfl (by decide +kernel) ⟨Nat.le_of_ble_eq_true rfl, Nat.le_of_ble_eq_true rfl⟩) hK hOc rfl ⟨hOc, hLc⟩ rfl hl.1 rfl (Nat.le_of_ble_eq_true rfl) dX8_divide_1 ⟨Nat.zero_le _, Nat.zero_le _⟩ hS (fun q h => by rcases h with h | h <;> simp [h]) (fun H1 locs1 ⟨hOc, hLc⟩ hz1 hk1 hS => ?_)
  have hO := hO.k (hk1 _ hO.lt (by (try dsimp only); omega))
  have hL := hL.k (hk1 _ hL.lt (by (try dsimp only); omega))
  have hOb := hOb.k (hk1 _ hOb.lt (by (try dsimp only); omega))
  have hLb := hLb.k (hk1 _ hLb.lt (by (try dsimp only); omega))
  refine lv_aload_n hx hb dX8_divide_4 rfl (lv_at hl 1 rfl) ?_
  refine pw_get (C := RX8) (T := TX8) (N := 3) hx hb hts hin8 hown hK hOb rfl 1 (by decide) lk_13 rfl rfl dX8_divide_5 ?_
  refine pw_if_ne (tgt := 12) hx hb dX8_divide_8 (by decide) (fun c_8 => ?_) (fun c_8 => absurd c_8 (by omega))
  refine lv_aload_n hx hb dX8_divide_12 rfl (lv_at hl 0 rfl) ?_
  refine pw_get (C := RX8) (T := TX8) (N := 3) hx hb hts hin8 hown hK hO rfl 1 (by decide) lk_13 rfl rfl dX8_divide_13 ?_
  refine lv_aload_n hx hb dX8_divide_16 rfl (lv_at hl 1 rfl) ?_
  refine pw_get (C := RX8) (T := TX8) (N := 3) hx hb hts hin8 hown hK hOb rfl 1 (by decide) lk_13 rfl rfl dX8_divide_17 ?_
  refine pw_isub hx hb dX8_divide_20 ?_
  refine lv_istore_n (lv' := [(3, .int (iI (((ka : Int)) - ((kb : Int))))), (0, .ref (a)), (1, .ref (b)), (2, .ref (c0))]) hx hb dX8_divide_21 rfl hl (by decide) rfl (fun ls hl => ?_)
  rcases Nat.lt_or_ge ka kb with hlt | hge
  · have hxy : x < y := by
      have h1 := reach_lt hx0 hy0 hka hkb (s := 0) (by omega)
      simp at h1
      omega
    have hl : lv_has ls 7 [(0, .ref (a)), (1, .ref (b)), (2, .ref (c0)), (3, .int (iI ((ka : Int) - (kb : Int))))] := lv_sub hl [1, 2, 3, 0] rfl
    refine lv_iload_n hx hb dX8_divide_22 rfl (lv_at hl 3 rfl) ?_
    refine pw_if_lt (tgt := 88) hx hb dX8_divide_23 (by decide) (fun c_23 => ?_) (fun c_23 => absurd c_23 (by omega))
    exact fin x _ _ _ _ _ hx0 hxy (by rw [wv_zero]; omega) (fun j _ => by simp) ⟨ka, ⟨hO, hL⟩, hka⟩ hOb hLb hOc hLc hS hl
  · have hl : lv_has ls 7 [(0, .ref (a)), (1, .ref (b)), (2, .ref (c0)), (3, .int (iI (((ka + 1 - kb : Nat) : Int) - 1)))] := by rw [show ((ka + 1 - kb : Nat) : Int) - 1 = (ka : Int) - (kb : Int) by omega]; exact lv_sub hl [1, 2, 3, 0] rfl
    exact outer (ka + 1 - kb) x _ _ _ _ (by omega) hx0 (div_first hx0 hy0 hka hkb) (by rw [wv_zero]; omega) (fun j _ => by simp) (fun j _ => rfl) ⟨ka, ⟨hO, hL⟩, hka⟩ hOb hLb hOc hLc hS hl
