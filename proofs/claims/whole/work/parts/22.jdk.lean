/-! the JDK's own methods that the class calls, and rows for them -/
section PX
variable {p : Program} {l : Launch} {e : Env} {R : Room} {s : State} {m : MethodId} {args : Array Value} {below : List Frame} {meth : Method} {c : Code} {H : Heap} {locs : List Loc} {cells slots : Nat} {Q : State → Prop}
variable {cc : ByteArray} {pc : Nat} {ls : Array Slot} {rest : List Value} {D : va_G} {E : Nat → ClassId} {A : Nat → Prop} {H0 : Heap}
theorem pw_topi {x : Int} (k : ∀ y : Int, y = x → W p l e R s m args below meth c H locs cells slots Q (F0 m pc ls (.int (iI y) :: rest))) : W p l e R s m args below meth c H locs cells slots Q (F0 m pc ls (.int (iI x) :: rest)) := k x rfl
theorem pw_topl {x : Int} (k : ∀ y : Int, y = x → W p l e R s m args below meth c H locs cells slots Q (F0 m pc ls (.long (lI y) :: rest))) : W p l e R s m args below meth c H locs cells slots Q (F0 m pc ls (.long (lI x) :: rest)) := k x rfl
theorem pw_asi {x : Int} (y : Int) (h : x = y) (k : W p l e R s m args below meth c H locs cells slots Q (F0 m pc ls (.int (iI y) :: rest))) : W p l e R s m args below meth c H locs cells slots Q (F0 m pc ls (.int (iI x) :: rest)) := by rw [h]; exact k
theorem pw_asl {x : Int} (y : Int) (h : x = y) (k : W p l e R s m args below meth c H locs cells slots Q (F0 m pc ls (.long (lI y) :: rest))) : W p l e R s m args below meth c H locs cells slots Q (F0 m pc ls (.long (lI x) :: rest)) := by rw [h]; exact k
theorem pw_ldcw (hx : p.tables.exec = Jvm.exec) (hb : c.code = cc) {own : String} {index : Nat} {v : Int32} {z : Int} (hown : s.vm.findClass own = some m.cls) (hc : (Jvm.Cond.constant own index v).before args s = true) (hv : v = iI z) (d : decode cc pc = .ok (.ldc_w index, 3)) (k : W p l e R s m args below meth c H locs cells slots Q (F0 m (pc + 3) ls (.int (iI z) :: rest))) : W p l e R s m args below meth c H locs cells slots Q (F0 m pc ls rest) := lv_ldcw hx hb hown hc d (hv ▸ k)
theorem ud_le {g : Nat → Int} {v : Int} {i : Nat} (hg : ∀ j, j < i → g j = v) : ∀ j, j < i + 1 → ud g i v j = v := fun j hj => by
  by_cases e : j = i
  · rw [e, ud_s]
  · rw [ud_n _ _ e]; exact hg j (by omega)
def xorZ (x y : Int) : Int := (lI x ^^^ lI y).toInt
theorem pw_lxor (hx : p.tables.exec = Jvm.exec) (hb : c.code = cc) {x y : Int} (d : decode cc pc = .ok (.lxor, 1)) (k : W p l e R s m args below meth c H locs cells slots Q (F0 m (pc + 1) ls (.long (lI (xorZ x y)) :: rest))) : W p l e R s m args below meth c H locs cells slots Q (F0 m pc ls (.long (lI y) :: .long (lI x) :: rest)) := lv_lxor hx hb d (by rw [lI_of (lI x ^^^ lI y)]; exact k)
theorem xorZ_lt {x y : Int} (x1 : -9223372036854775808 ≤ x) (x2 : x ≤ 9223372036854775807) (y1 : 0 ≤ y) (y2 : y ≤ 9223372036854775807) : xorZ x y < 0 ↔ x < 0 := by
  have hx := lI_t x1 x2
  have hy := lI_t (z := y) (by omega) y2
  have key : ∀ b : Int64, (b.toInt < 0) ↔ b.toBitVec.msb = true := fun b => by
    rw [BitVec.msb_eq_toInt]
    show _ ↔ decide (b.toInt < 0) = true
    simp
  unfold xorZ
  rw [key, Int64.toBitVec_xor, BitVec.msb_xor]
  have a1 := key (lI x)
  have a2 := key (lI y)
  rw [hx] at a1
  rw [hy] at a2
  have a3 : (lI y).toBitVec.msb = false := by
    cases h : (lI y).toBitVec.msb with
    | false => rfl
    | true => exact absurd (a2.mpr h) (by omega)
  rw [a3, Bool.xor_false]
  exact a1.symm
theorem pw_mmax (hx : p.tables.exec = Jvm.exec) (hb : c.code = cc) (hml : c.maxLocals = ls.size) {own : String} {index : Nat} (hown : s.vm.findClass own = some m.cls) {Ts : List Cond} (hts : ∀ w ∈ Ts, w.before args s = true) (hin : ∀ w ∈ ([.methodLink own index Lib.Math.max.name, .static Lib.Math.max.name, .initialized "java/lang/Math", .code Lib.Math.max.name Lib.Math.max.code 2 (some .int)] : List Cond), w ∈ Ts)
    (hframes : 1 ≤ R.frames) (hlocals : (rest.map fun v => v.category).sum + 13 ≤ R.locals) (hc : cells ≤ R.cells) (hs : slots ≤ R.slots) {x y : Int} (d : decode cc pc = .ok (.invokestatic index, 3))
    (kk : W p l e R s m args below meth c H locs cells slots Q (F0 m (pc + 3) ls (.int (iI (max x y)) :: rest))) (x1 : -2147483648 ≤ x := by omega) (x2 : x ≤ 2147483647 := by omega) (y1 : -2147483648 ≤ y := by omega) (y2 : y ≤ 2147483647 := by omega) : W p l e R s m args below meth c H locs cells slots Q (F0 m pc ls (.int (iI y) :: .int (iI x) :: rest)) := by
  refine va_mmax hx hb hml hown (hts _ (hin _ (by simp))) (hts _ (hin _ (by simp))) (hts _ (hin _ (by simp))) (hts _ (hin _ (by simp))) hframes hlocals hc hs d ?_
  have e1 : (if iI x < iI y then iI y else iI x) = iI (max x y) := by
    by_cases h : x < y
    · rw [if_pos ((iI_lt x1 x2 y1 y2).mpr h)]; congr 1; omega
    · rw [if_neg (fun q => h ((iI_lt x1 x2 y1 y2).mp q))]; congr 1; omega
  rw [e1]
  exact kk
theorem pw_mmin (hx : p.tables.exec = Jvm.exec) (hb : c.code = cc) (hml : c.maxLocals = ls.size) {own : String} {index : Nat} (hown : s.vm.findClass own = some m.cls) {Ts : List Cond} (hts : ∀ w ∈ Ts, w.before args s = true) (hin : ∀ w ∈ ([.methodLink own index Lib.Math.min.name, .static Lib.Math.min.name, .initialized "java/lang/Math", .code Lib.Math.min.name Lib.Math.min.code 2 (some .int)] : List Cond), w ∈ Ts)
    (hframes : 1 ≤ R.frames) (hlocals : (rest.map fun v => v.category).sum + 13 ≤ R.locals) (hc : cells ≤ R.cells) (hs : slots ≤ R.slots) {x y : Int} (d : decode cc pc = .ok (.invokestatic index, 3))
    (kk : W p l e R s m args below meth c H locs cells slots Q (F0 m (pc + 3) ls (.int (iI (min x y)) :: rest))) (x1 : -2147483648 ≤ x := by omega) (x2 : x ≤ 2147483647 := by omega) (y1 : -2147483648 ≤ y := by omega) (y2 : y ≤ 2147483647 := by omega) : W p l e R s m args below meth c H locs cells slots Q (F0 m pc ls (.int (iI y) :: .int (iI x) :: rest)) := by
  refine va_mmin hx hb hml hown (hts _ (hin _ (by simp))) (hts _ (hin _ (by simp))) (hts _ (hin _ (by simp))) (hts _ (hin _ (by simp))) hframes hlocals hc hs d ?_
  have e1 : (if iI x < iI y then iI x else iI y) = iI (min x y) := by
    by_cases h : x < y
    · rw [if_pos ((iI_lt x1 x2 y1 y2).mpr h)]; congr 1; omega
    · rw [if_neg (fun q => h ((iI_lt x1 x2 y1 y2).mp q))]; congr 1; omega
  first | (rw [e1]; exact kk) | (have e2 : (if iI y < iI x then iI y else iI x) = iI (min x y) := by
                                  by_cases h : y < x
                                  · rw [if_pos ((iI_lt y1 y2 x1 x2).mpr h)]; congr 1; omega
                                  · rw [if_neg (fun q => h ((iI_lt y1 y2 x1 x2).mp q))]; congr 1; omega
                                 rw [e2]; exact kk)
end PX
set_option maxHeartbeats 4000000 in
set_option maxRecDepth 100000 in
/-- floorDiv by a divisor above 0 -/
theorem c_floorDiv (l : Launch) (D : va_G) (E : Nat → ClassId) (x y : Int) (x1 : -9223372036854775808 < x) (x2 : x ≤ 9223372036854775807) (y1 : 0 < y) (y2 : y ≤ 9223372036854775807) : pw_M rvL l D E yJ9_floorDiv_f86c9 wsJ9_floorDiv_f86c9 ({ frames := 0, cells := 0, slots := 0, locals := 0 } : Room) [.long (lI (x)), .long (lI (y))] (fun H => True) (fun z H => z = x / y ∧ True) (fun _ => False) (0) (0) := by
  refine pw_of (cc := cJ9_floorDiv_f86c9) (maxL := 6) (ret := (some .long)) (by decide +kernel) rfl (Nat.le_of_ble_eq_true rfl) ?_
  intro p e s m args below meth c hx hb hr hml hts hown hlocks hini hK hPre ls hl
  have hown : s.vm.findClass RJ9 = some m.cls := hown
  have hl : lv_has ls 6 [(0, .long (lI (x))), (2, .long (lI (y)))] := hl
  have hS : va_S (fun _ => False) s.heap s.heap [] := va_S.rf
  have hq : (x.tdiv y) = x / y + (if 0 ≤ x ∨ y ∣ x then 0 else 1) := by rw [Int.tdiv_eq_ediv, Int.sign_eq_one_of_pos y1]
  have hb1 := Int.ediv_mul_le x (by omega : y ≠ 0)
  have hbq : -9223372036854775808 ≤ x.tdiv y ∧ x.tdiv y ≤ 9223372036854775807 := by
    have := Int.natAbs_tdiv_le_natAbs x y
    omega
  have hsg := xorZ_lt (x := x) (y := y) (by omega) x2 (by omega) y2
  have hxr := lI_b (lI x ^^^ lI y)
  have hxr : -9223372036854775808 ≤ xorZ x y ∧ xorZ x y ≤ 9223372036854775807 := hxr
  have hmul : -9223372036854775808 ≤ x.tdiv y * y ∧ x.tdiv y * y ≤ 9223372036854775807 := by
    have h1 := Int.tmod_add_mul_tdiv x y
    have h2 : (x.tmod y).natAbs ≤ x.natAbs := by rw [Int.natAbs_tmod]; exact Nat.mod_le _ _
    rw [Int.mul_comm] at h1
    by_cases hx0 : 0 ≤ x
    · have := Int.tmod_nonneg y hx0
      omega
    · have h3 : 0 ≤ (-x).tmod y := Int.tmod_nonneg y (by omega)
      rw [Int.neg_tmod] at h3
      omega
  refine lv_lload_n hx hb dJ9_floorDiv_f86c9_0 rfl (lv_at hl 0 rfl) ?_
  refine lv_lload_n hx hb dJ9_floorDiv_f86c9_1 rfl (lv_at hl 1 rfl) ?_
  refine pw_ldiv hx hb dJ9_floorDiv_f86c9_2 (by omega) ?_
  refine lv_lstore (lv' := [(4, .long (lI ((x).tdiv (y)))), (0, .long (lI (x))), (2, .long (lI (y)))]) hx hb dJ9_floorDiv_f86c9_3 hl (by decide) rfl (fun ls hl => ?_)
  refine lv_lload_n hx hb dJ9_floorDiv_f86c9_5 rfl (lv_at hl 1 rfl) ?_
  refine lv_lload_n hx hb dJ9_floorDiv_f86c9_6 rfl (lv_at hl 2 rfl) ?_
  refine pw_lxor hx hb dJ9_floorDiv_f86c9_7 ?_
  refine pw_lconst (z := 0) hx hb dJ9_floorDiv_f86c9_8 ?_
  refine pw_lcmp_ge (tgt := 27) hx hb dJ9_floorDiv_f86c9_9 dJ9_floorDiv_f86c9_10 (by decide) (fun c_9 => ?_) (fun c_9 => ?_)
  · refine lv_lload hx hb dJ9_floorDiv_f86c9_27 (lv_at hl 0 rfl) ?_
    exact pw_lret hx hb hr hlocks hS ⟨by rw [hq, if_pos (Or.inl (by omega))]; omega, trivial⟩ dJ9_floorDiv_f86c9_29
  · refine lv_lload hx hb dJ9_floorDiv_f86c9_13 (lv_at hl 0 rfl) ?_
    refine lv_lload_n hx hb dJ9_floorDiv_f86c9_15 rfl (lv_at hl 2 rfl) ?_
    refine pw_lmul hx hb dJ9_floorDiv_f86c9_16 ?_
    refine lv_lload_n hx hb dJ9_floorDiv_f86c9_17 rfl (lv_at hl 1 rfl) ?_
    refine pw_lcmp_eq (tgt := 27) hx hb dJ9_floorDiv_f86c9_18 dJ9_floorDiv_f86c9_19 (by decide) (fun c_18 => ?_) (fun c_18 => ?_)
    · refine lv_lload hx hb dJ9_floorDiv_f86c9_27 (lv_at hl 0 rfl) ?_
      exact pw_lret hx hb hr hlocks hS ⟨by rw [hq, if_pos (Or.inr ⟨x.tdiv y, by rw [Int.mul_comm]; exact c_18.symm⟩)]; omega, trivial⟩ dJ9_floorDiv_f86c9_29
    · refine lv_lload hx hb dJ9_floorDiv_f86c9_22 (lv_at hl 0 rfl) ?_
      refine pw_lconst (z := 1) hx hb dJ9_floorDiv_f86c9_24 ?_
      refine pw_lsub hx hb dJ9_floorDiv_f86c9_25 ?_
      exact pw_lret hx hb hr hlocks hS ⟨by rw [hq, if_neg (fun hh => hh.elim (fun h => by omega) (fun h => c_18 (Int.tdiv_mul_cancel h)))]; omega, trivial⟩ dJ9_floorDiv_f86c9_26
set_option maxHeartbeats 4000000 in
set_option maxRecDepth 100000 in
/-- fill: all places hold v -/
theorem c_fillL (l : Launch) (D : va_G) (E : Nat → ClassId) (a n : Nat) (f : Nat → Int) (v : Int) (hn : n < 1000000) : pw_M rvV l D E yJ7_fill_d0a16 wsJ7_fill_d0a16 ({ frames := 0, cells := 0, slots := 0, locals := 0 } : Room) [.ref (a), .long (lI (v))] (fun H => LA E a n f H) (fun _ H => LA E a n (fun _ => v) H) (fun q => q = a) (0) (0) := by
  refine pw_of (cc := cJ7_fill_d0a16) (maxL := 5) (ret := none) (by decide +kernel) rfl (Nat.le_of_ble_eq_true rfl) ?_
  intro p e s m args below meth c hx hb hr hml hts hown hlocks hini hK hPre ls hl
  have hown : s.vm.findClass RJ7 = some m.cls := hown
  have hl : lv_has ls 5 [(0, .ref (a)), (1, .long (lI (v)))] := hl
  have hS : va_S (fun q => q = a) s.heap s.heap [] := va_S.rf
  have loop : ∀ (k i : Nat) (g : Nat → Int) (H : Heap) (locs : List Loc) (ls : Array Slot), i + k = n → (∀ j, j < i → g j = v) → LA E a n g H → va_S (fun q => q = a) s.heap H locs → lv_has ls 5 [(0, .ref (a)), (1, .long (lI (v))), (3, .int (iI ((i : Int)))), (4, .int (iI ((n : Int))))] → W p l e ({ frames := 0, cells := 0, slots := 0, locals := 0 } : Room) s m args below meth c H locs (0) (0) (MQ below (pw_Q rvV (fun _ H => LA E a n (fun _ => v) H) (fun q => q = a)) args s (0) (0) (fun q => q = a)) (F0 m 6 ls []) := by
    intro k
    induction k with
    | zero =>
      intro i g H locs ls hi hg hA hS hl
      refine lv_iload_n hx hb dJ7_fill_d0a16_6 rfl (lv_at hl 2 rfl) ?_
      refine lv_iload hx hb dJ7_fill_d0a16_7 (lv_at hl 3 rfl) ?_
      refine pw_icmp_ge (tgt := 22) hx hb dJ7_fill_d0a16_9 (by decide) (fun c_9 => ?_) (fun c_9 => absurd c_9 (by omega))
      exact pw_vret hx hb hr hlocks hS (hA.up (fun j hj => hg j (by omega))) dJ7_fill_d0a16_22
    | succ k ih =>
      intro i g H locs ls hi hg hA hS hl
      refine lv_iload_n hx hb dJ7_fill_d0a16_6 rfl (lv_at hl 2 rfl) ?_
      refine lv_iload hx hb dJ7_fill_d0a16_7 (lv_at hl 3 rfl) ?_
      refine pw_icmp_ge (tgt := 22) hx hb dJ7_fill_d0a16_9 (by decide) (fun c_9 => absurd c_9 (by omega)) (fun c_9 => ?_)
      refine lv_aload_n hx hb dJ7_fill_d0a16_12 rfl (lv_at hl 0 rfl) ?_
      refine lv_iload_n hx hb dJ7_fill_d0a16_13 rfl (lv_at hl 2 rfl) ?_
      refine lv_lload_n hx hb dJ7_fill_d0a16_14 rfl (lv_at hl 1 rfl) ?_
      refine pw_last hx hb hK hA hS (by omega) (i) rfl (by omega) (by omega) dJ7_fill_d0a16_15 (fun H1 locs1 hnew hz1 oq hS => ?_)
      have hA := hnew
      clear hnew oq hz1
      refine lv_iinc (v := iI (((i + 1 : Nat) : Int))) (lv' := [(3, .int (iI (((i + 1 : Nat) : Int)))), (0, .ref (a)), (1, .long (lI (v))), (4, .int (iI ((n : Int))))]) hx hb dJ7_fill_d0a16_16 hl (k := 2) rfl (by show iI _ + iI _ = _; rw [iI_add]; first | rfl | (congr 1; omega)) (by decide) rfl (fun ls hl => ?_)
      refine lv_goto (tgt := 6) hx hb dJ7_fill_d0a16_19 (by decide) ?_
      exact ih (i + 1) _ _ _ _ (by omega) (ud_le hg) hA hS (lv_sub hl [1, 2, 0, 3] rfl)
  have hA := hPre
  refine pw_iconst hx hb dJ7_fill_d0a16_0 ?_
  refine lv_istore_n (lv' := [(3, .int (iI (0))), (0, .ref (a)), (1, .long (lI (v)))]) hx hb dJ7_fill_d0a16_1 rfl hl (by decide) rfl (fun ls hl => ?_)
  refine lv_aload_n hx hb dJ7_fill_d0a16_2 rfl (lv_at hl 1 rfl) ?_
  refine pw_alen (n := n) (k0 := 1) hx hb hK hA rfl rfl dJ7_fill_d0a16_3 ?_
  refine lv_istore (lv' := [(4, .int (iI ((n : Int)))), (3, .int (iI (0))), (0, .ref (a)), (1, .long (lI (v)))]) hx hb dJ7_fill_d0a16_4 hl (by decide) rfl (fun ls hl => ?_)
  exact loop n 0 f _ _ _ (by omega) (fun j hj => absurd hj (Nat.not_lt_zero j)) hA hS (lv_sub hl [2, 3, 1, 0] rfl)
set_option maxHeartbeats 4000000 in
set_option maxRecDepth 100000 in
/-- fill: all places hold v -/
theorem c_fillI (l : Launch) (D : va_G) (E : Nat → ClassId) (a n : Nat) (f : Nat → Int) (v : Int) (hn : n < 1000000) : pw_M rvV l D E yJ7_fill_53178 wsJ7_fill_53178 ({ frames := 0, cells := 0, slots := 0, locals := 0 } : Room) [.ref (a), .int (iI (v))] (fun H => IA E a n f H) (fun _ H => IA E a n (fun _ => v) H) (fun q => q = a) (0) (0) := by
  refine pw_of (cc := cJ7_fill_53178) (maxL := 4) (ret := none) (by decide +kernel) rfl (Nat.le_of_ble_eq_true rfl) ?_
  intro p e s m args below meth c hx hb hr hml hts hown hlocks hini hK hPre ls hl
  have hown : s.vm.findClass RJ7 = some m.cls := hown
  have hl : lv_has ls 4 [(0, .ref (a)), (1, .int (iI (v)))] := hl
  have hS : va_S (fun q => q = a) s.heap s.heap [] := va_S.rf
  have loop : ∀ (k i : Nat) (g : Nat → Int) (H : Heap) (locs : List Loc) (ls : Array Slot), i + k = n → (∀ j, j < i → g j = v) → IA E a n g H → va_S (fun q => q = a) s.heap H locs → lv_has ls 4 [(0, .ref (a)), (1, .int (iI (v))), (2, .int (iI ((i : Int)))), (3, .int (iI ((n : Int))))] → W p l e ({ frames := 0, cells := 0, slots := 0, locals := 0 } : Room) s m args below meth c H locs (0) (0) (MQ below (pw_Q rvV (fun _ H => IA E a n (fun _ => v) H) (fun q => q = a)) args s (0) (0) (fun q => q = a)) (F0 m 5 ls []) := by
    intro k
    induction k with
    | zero =>
      intro i g H locs ls hi hg hA hS hl
      refine lv_iload_n hx hb dJ7_fill_53178_5 rfl (lv_at hl 2 rfl) ?_
      refine lv_iload_n hx hb dJ7_fill_53178_6 rfl (lv_at hl 3 rfl) ?_
      refine pw_icmp_ge (tgt := 20) hx hb dJ7_fill_53178_7 (by decide) (fun c_7 => ?_) (fun c_7 => absurd c_7 (by omega))
      exact pw_vret hx hb hr hlocks hS (hA.up (fun j hj => hg j (by omega))) dJ7_fill_53178_20
    | succ k ih =>
      intro i g H locs ls hi hg hA hS hl
      refine lv_iload_n hx hb dJ7_fill_53178_5 rfl (lv_at hl 2 rfl) ?_
      refine lv_iload_n hx hb dJ7_fill_53178_6 rfl (lv_at hl 3 rfl) ?_
      refine pw_icmp_ge (tgt := 20) hx hb dJ7_fill_53178_7 (by decide) (fun c_7 => absurd c_7 (by omega)) (fun c_7 => ?_)
      refine lv_aload_n hx hb dJ7_fill_53178_10 rfl (lv_at hl 0 rfl) ?_
      refine lv_iload_n hx hb dJ7_fill_53178_11 rfl (lv_at hl 2 rfl) ?_
      refine lv_iload_n hx hb dJ7_fill_53178_12 rfl (lv_at hl 1 rfl) ?_
      refine pw_iast hx hb hK hA hS (by omega) (i) rfl (by omega) (by omega) dJ7_fill_53178_13 (fun H1 locs1 hnew hz1 oq hS => ?_)
      have hA := hnew
      clear hnew oq hz1
      refine lv_iinc (v := iI (((i + 1 : Nat) : Int))) (lv' := [(2, .int (iI (((i + 1 : Nat) : Int)))), (0, .ref (a)), (1, .int (iI (v))), (3, .int (iI ((n : Int))))]) hx hb dJ7_fill_53178_14 hl (k := 2) rfl (by show iI _ + iI _ = _; rw [iI_add]; first | rfl | (congr 1; omega)) (by decide) rfl (fun ls hl => ?_)
      refine lv_goto (tgt := 5) hx hb dJ7_fill_53178_17 (by decide) ?_
      exact ih (i + 1) _ _ _ _ (by omega) (ud_le hg) hA hS (lv_sub hl [1, 2, 0, 3] rfl)
  have hA := hPre
  refine pw_iconst hx hb dJ7_fill_53178_0 ?_
  refine lv_istore_n (lv' := [(2, .int (iI (0))), (0, .ref (a)), (1, .int (iI (v)))]) hx hb dJ7_fill_53178_1 rfl hl (by decide) rfl (fun ls hl => ?_)
  refine lv_aload_n hx hb dJ7_fill_53178_2 rfl (lv_at hl 1 rfl) ?_
  refine pw_alen (n := n) (k0 := 0) hx hb hK hA rfl rfl dJ7_fill_53178_3 ?_
  refine lv_istore_n (lv' := [(3, .int (iI ((n : Int)))), (2, .int (iI (0))), (0, .ref (a)), (1, .int (iI (v)))]) hx hb dJ7_fill_53178_4 rfl hl (by decide) rfl (fun ls hl => ?_)
  exact loop n 0 f _ _ _ (by omega) (fun j hj => absurd hj (Nat.not_lt_zero j)) hA hS (lv_sub hl [2, 3, 1, 0] rfl)
