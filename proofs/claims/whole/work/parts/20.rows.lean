/-! own rows: numbers on the stack as whole numbers; cells as facts of the heap -/
def iI (z : Int) : Int32 := Int32.ofInt z
def lI (z : Int) : Int64 := Int64.ofInt z
theorem iI_t {z : Int} (h1 : -2147483648 ≤ z) (h2 : z ≤ 2147483647) : (iI z).toInt = z := Int32.toInt_ofInt_of_le (by omega) (by omega)
theorem lI_t {z : Int} (h1 : -9223372036854775808 ≤ z) (h2 : z ≤ 9223372036854775807) : (lI z).toInt = z := Int64.toInt_ofInt_of_le (by omega) (by omega)
theorem iI_of (x : Int32) : x = iI x.toInt := (Int32.ofInt_toInt x).symm
theorem lI_of (x : Int64) : x = lI x.toInt := (Int64.ofInt_toInt x).symm
theorem iI_b (x : Int32) : -2147483648 ≤ x.toInt ∧ x.toInt ≤ 2147483647 := ⟨by have := Int32.le_toInt x; omega, by have := Int32.toInt_lt x; omega⟩
theorem lI_b (x : Int64) : -9223372036854775808 ≤ x.toInt ∧ x.toInt ≤ 9223372036854775807 := ⟨by have := Int64.le_toInt x; omega, by have := Int64.toInt_lt x; omega⟩
theorem iI_add (a b : Int) : iI a + iI b = iI (a + b) := (Int32.ofInt_add a b).symm
theorem iI_sub (a b : Int) : iI a - iI b = iI (a - b) := (Int32.ofInt_sub a b).symm
theorem iI_mul (a b : Int) : iI a * iI b = iI (a * b) := (Int32.ofInt_mul a b).symm
theorem iI_neg (a : Int) : - iI a = iI (-a) := (Int32.ofInt_neg a).symm
theorem lI_add (a b : Int) : lI a + lI b = lI (a + b) := (Int64.ofInt_add a b).symm
theorem lI_sub (a b : Int) : lI a - lI b = lI (a - b) := (Int64.ofInt_sub a b).symm
theorem lI_mul (a b : Int) : lI a * lI b = lI (a * b) := (Int64.ofInt_mul a b).symm
theorem lI_neg (a : Int) : - lI a = lI (-a) := (Int64.ofInt_neg a).symm
theorem iI_lt {a b : Int} (a1 : -2147483648 ≤ a) (a2 : a ≤ 2147483647) (b1 : -2147483648 ≤ b) (b2 : b ≤ 2147483647) : iI a < iI b ↔ a < b := by
  rw [Int32.lt_iff_toInt_lt, iI_t a1 a2, iI_t b1 b2]
theorem iI_le {a b : Int} (a1 : -2147483648 ≤ a) (a2 : a ≤ 2147483647) (b1 : -2147483648 ≤ b) (b2 : b ≤ 2147483647) : iI a ≤ iI b ↔ a ≤ b := by
  rw [Int32.le_iff_toInt_le, iI_t a1 a2, iI_t b1 b2]
theorem iI_eq {a b : Int} (a1 : -2147483648 ≤ a) (a2 : a ≤ 2147483647) (b1 : -2147483648 ≤ b) (b2 : b ≤ 2147483647) : iI a = iI b ↔ a = b := by
  rw [← Int32.toInt_inj, iI_t a1 a2, iI_t b1 b2]
theorem lI_lt {a b : Int} (a1 : -9223372036854775808 ≤ a) (a2 : a ≤ 9223372036854775807) (b1 : -9223372036854775808 ≤ b) (b2 : b ≤ 9223372036854775807) : lI a < lI b ↔ a < b := by
  rw [Int64.lt_iff_toInt_lt, lI_t a1 a2, lI_t b1 b2]
theorem lI_le {a b : Int} (a1 : -9223372036854775808 ≤ a) (a2 : a ≤ 9223372036854775807) (b1 : -9223372036854775808 ≤ b) (b2 : b ≤ 9223372036854775807) : lI a ≤ lI b ↔ a ≤ b := by
  rw [Int64.le_iff_toInt_le, lI_t a1 a2, lI_t b1 b2]
theorem lI_eq {a b : Int} (a1 : -9223372036854775808 ≤ a) (a2 : a ≤ 9223372036854775807) (b1 : -9223372036854775808 ≤ b) (b2 : b ≤ 9223372036854775807) : lI a = lI b ↔ a = b := by
  rw [← Int64.toInt_inj, lI_t a1 a2, lI_t b1 b2]
theorem iI_z : iI 0 = 0 := rfl
theorem lI_z : lI 0 = 0 := rfl
theorem iI_nI (n : Nat) : nI n = iI n := Int32.ofInt_eq_ofNat.symm
theorem iI_l {z : Int} (h1 : -2147483648 ≤ z) (h2 : z ≤ 2147483647) : (iI z).toInt64 = lI z := Int32.toInt64_ofInt (by have e1 : Int32.minValue.toInt = -2147483648 := (by decide +kernel); omega) (by have e2 : Int32.maxValue.toInt = 2147483647 := (by decide +kernel); omega)
theorem lI_i (z : Int) : (lI z).toInt32 = iI z := Int64.toInt32_ofInt
theorem iI_div {a b : Int} (a1 : -2147483648 < a) (a2 : a ≤ 2147483647) (b1 : -2147483648 ≤ b) (b2 : b ≤ 2147483647) : iI a / iI b = iI (a.tdiv b) := by
  have e1 : Int32.minValue.toInt = -2147483648 := by decide +kernel
  have e2 : Int32.maxValue.toInt = 2147483647 := by decide +kernel
  refine Eq.symm (Int32.ofInt_tdiv ?_ ?_ ?_ ?_) <;> omega
theorem lI_div {a b : Int} (a1 : -9223372036854775808 < a) (a2 : a ≤ 9223372036854775807) (b1 : -9223372036854775808 ≤ b) (b2 : b ≤ 9223372036854775807) : lI a / lI b = lI (a.tdiv b) := by
  have e1 : Int64.minValue.toInt = -9223372036854775808 := by decide +kernel
  have e2 : Int64.maxValue.toInt = 9223372036854775807 := by decide +kernel
  refine Eq.symm (Int64.ofInt_tdiv ?_ ?_ ?_ ?_) <;> omega
theorem iI_rem {a b : Int} (a1 : -2147483648 < a) (a2 : a ≤ 2147483647) (b1 : -2147483648 ≤ b) (b2 : b ≤ 2147483647) : iI a - iI a / iI b * iI b = iI (a.tmod b) := by
  rw [iI_div a1 a2 b1 b2, iI_mul, iI_sub]
  congr 1
  have := Int.tmod_add_mul_tdiv a b
  rw [Int.mul_comm] at this
  omega
theorem lI_rem {a b : Int} (a1 : -9223372036854775808 < a) (a2 : a ≤ 9223372036854775807) (b1 : -9223372036854775808 ≤ b) (b2 : b ≤ 9223372036854775807) : lI a - lI a / lI b * lI b = lI (a.tmod b) := by
  rw [lI_div a1 a2 b1 b2, lI_mul, lI_sub]
  congr 1
  have := Int.tmod_add_mul_tdiv a b
  rw [Int.mul_comm] at this
  omega
theorem iI_in {n : Nat} {i : Int} {j : Nat} (hi : i = (j : Int)) (hj : j < n) (hn : n < 2147483648) : vp_in (iI i) n ∧ (iI i).toNatClampNeg = j := by
  subst hi
  rw [← iI_nI]
  exact ⟨vp_in_nI hj hn, nI_clamp (by omega)⟩
/-- f, but x at j -/
def ud (f : Nat → Int) (j : Nat) (x : Int) : Nat → Int := fun q => if q = j then x else f q
theorem ud_s (f : Nat → Int) (j : Nat) (x : Int) : ud f j x j = x := if_pos rfl
theorem ud_n (f : Nat → Int) {j q : Nat} (x : Int) (h : q ≠ j) : ud f j x q = f q := if_neg h
/-- f, but x at j: addresses -/
def uq (f : Nat → Option Nat) (j : Nat) (x : Option Nat) : Nat → Option Nat := fun q => if q = j then x else f q
-- cells as facts of the heap
def pw_tys (E : Nat → ClassId) : List (ClassId × FieldType) := [(E 0, .int), (E 1, .long), (E 2, .boolean), (E 3, .object "PolicyWorks$Action"), (E 4, .object "PolicyWorks$Row"), (E 5, .object "PolicyWorks$Whole"), (E 6, .array .int)]
def KK (D : va_G) (E : Nat → ClassId) (U : State) : Prop := va_K D vwCl (pw_tys E) U
theorem KK.moved {D : va_G} {E : Nat → ClassId} {u U : State} (hvm : u.vm.Alike U.vm) (h : KK D E u) : KK D E U := va_K.moved hvm h
def OA (D : va_G) (a ci : Nat) (fs : List Value) (H : Heap) : Prop := va_at D vwCl (a, .inr (ci, fs)) H
def LA (E : Nat → ClassId) (a n : Nat) (f : Nat → Int) (H : Heap) : Prop := H[a]? = some (vp_cell (E 1) (n, .inr (.inl (fun j => lI (f j)))))
def IA (E : Nat → ClassId) (a n : Nat) (f : Nat → Int) (H : Heap) : Prop := H[a]? = some (vp_cell (E 0) (n, .inl (fun j => iI (f j))))
def ZA (E : Nat → ClassId) (a n : Nat) (f : Nat → Int) (H : Heap) : Prop := H[a]? = some (vp_cell (E 2) (n, .inl (fun j => iI (f j))))
def QA (E : Nat → ClassId) (k a n : Nat) (f : Nat → Option Nat) (H : Heap) : Prop := H[a]? = some (vp_cell (E k) (n, .inr (.inr (.inr (.inr f)))))
theorem OA.k {D : va_G} {a ci : Nat} {fs : List Value} {H H1 : Heap} (h : OA D a ci fs H) (hq : H1[a]? = H[a]?) : OA D a ci fs H1 := va_at.kept h hq
theorem LA.k {E : Nat → ClassId} {a n : Nat} {f : Nat → Int} {H H1 : Heap} (h : LA E a n f H) (hq : H1[a]? = H[a]?) : LA E a n f H1 := hq.trans h
theorem IA.k {E : Nat → ClassId} {a n : Nat} {f : Nat → Int} {H H1 : Heap} (h : IA E a n f H) (hq : H1[a]? = H[a]?) : IA E a n f H1 := hq.trans h
theorem ZA.k {E : Nat → ClassId} {a n : Nat} {f : Nat → Int} {H H1 : Heap} (h : ZA E a n f H) (hq : H1[a]? = H[a]?) : ZA E a n f H1 := hq.trans h
theorem QA.k {E : Nat → ClassId} {k a n : Nat} {f : Nat → Option Nat} {H H1 : Heap} (h : QA E k a n f H) (hq : H1[a]? = H[a]?) : QA E k a n f H1 := hq.trans h
theorem OA.lt {D : va_G} {a ci : Nat} {fs : List Value} {H : Heap} (h : OA D a ci fs H) : a < H.size := va_at.lt h
theorem pw_lt {a : Nat} {x : Cell} {H : Heap} (h : H[a]? = some x) : a < H.size := (Array.getElem?_eq_some_iff.mp h).1
theorem LA.lt {E : Nat → ClassId} {a n : Nat} {f : Nat → Int} {H : Heap} (h : LA E a n f H) : a < H.size := pw_lt h
theorem IA.lt {E : Nat → ClassId} {a n : Nat} {f : Nat → Int} {H : Heap} (h : IA E a n f H) : a < H.size := pw_lt h
theorem ZA.lt {E : Nat → ClassId} {a n : Nat} {f : Nat → Int} {H : Heap} (h : ZA E a n f H) : a < H.size := pw_lt h
theorem QA.lt {E : Nat → ClassId} {k a n : Nat} {f : Nat → Option Nat} {H : Heap} (h : QA E k a n f H) : a < H.size := pw_lt h
theorem LA.to {E : Nat → ClassId} {a n : Nat} {f g : Nat → Int} {H : Heap} (h : LA E a n f H) (hfg : ∀ j, f j = g j) : LA E a n g H := by rw [← funext hfg]; exact h
theorem IA.to {E : Nat → ClassId} {a n : Nat} {f g : Nat → Int} {H : Heap} (h : IA E a n f H) (hfg : ∀ j, f j = g j) : IA E a n g H := by rw [← funext hfg]; exact h
/-- an array's contents count up to its length alone -/
theorem pw_arr {cA : ClassId} {n : Nat} {f g : Nat → Value} (h : ∀ j, j < n → f j = g j) : arrV cA n f = arrV cA n g := by
  unfold arrV
  congr 1
  apply Array.ext
  · simp
  · intro i h1 h2
    simp at h1 ⊢
    exact h i h1
theorem LA.up {E : Nat → ClassId} {a n : Nat} {f g : Nat → Int} {H : Heap} (h : LA E a n f H) (hfg : ∀ j, j < n → f j = g j) : LA E a n g H := by
  unfold LA at *
  rw [h, vp_cell_l, vp_cell_l, pw_arr (fun j hj => by rw [hfg j hj])]
theorem IA.up {E : Nat → ClassId} {a n : Nat} {f g : Nat → Int} {H : Heap} (h : IA E a n f H) (hfg : ∀ j, j < n → f j = g j) : IA E a n g H := by
  unfold IA at *
  rw [h, vp_cell_i, vp_cell_i, pw_arr (fun j hj => by rw [hfg j hj])]
theorem ZA.up {E : Nat → ClassId} {a n : Nat} {f g : Nat → Int} {H : Heap} (h : ZA E a n f H) (hfg : ∀ j, j < n → f j = g j) : ZA E a n g H := by
  unfold ZA at *
  rw [h, vp_cell_i, vp_cell_i, pw_arr (fun j hj => by rw [hfg j hj])]
theorem QA.up {E : Nat → ClassId} {k a n : Nat} {f g : Nat → Option Nat} {H : Heap} (h : QA E k a n f H) (hfg : ∀ j, j < n → f j = g j) : QA E k a n g H := by
  unfold QA at *
  rw [h, vp_cell_q, vp_cell_q, pw_arr (fun j hj => by rw [hfg j hj])]
section PW
variable {p : Program} {l : Launch} {e : Env} {R : Room} {s : State} {m : MethodId} {args : Array Value} {below : List Frame} {meth : Method} {c : Code} {H : Heap} {locs : List Loc} {cells slots : Nat} {Q : State → Prop}
variable {cc : ByteArray} {pc : Nat} {ls : Array Slot} {rest : List Value} {D : va_G} {E : Nat → ClassId} {A : Nat → Prop} {H0 : Heap}
theorem pw_iconst (hx : p.tables.exec = Jvm.exec) (hb : c.code = cc) {n : Int} (d : decode cc pc = .ok (.iconst n, 1)) (k : W p l e R s m args below meth c H locs cells slots Q (F0 m (pc + 1) ls (.int (iI n) :: rest))) : W p l e R s m args below meth c H locs cells slots Q (F0 m pc ls rest) := lv_iconst hx hb d rfl k
theorem pw_bipush (hx : p.tables.exec = Jvm.exec) (hb : c.code = cc) {n : Int} (d : decode cc pc = .ok (.bipush n, 2)) (k : W p l e R s m args below meth c H locs cells slots Q (F0 m (pc + 2) ls (.int (iI n) :: rest))) (hv : (Int8.ofInt n).toInt32 = iI n := by decide +kernel) : W p l e R s m args below meth c H locs cells slots Q (F0 m pc ls rest) := lv_bipush hx hb d hv k
theorem pw_sipush (hx : p.tables.exec = Jvm.exec) (hb : c.code = cc) {n : Int} (d : decode cc pc = .ok (.sipush n, 3)) (k : W p l e R s m args below meth c H locs cells slots Q (F0 m (pc + 3) ls (.int (iI n) :: rest))) (hv : (Int16.ofInt n).toInt32 = iI n := by decide +kernel) : W p l e R s m args below meth c H locs cells slots Q (F0 m pc ls rest) := lv_sipush hx hb d hv k
theorem pw_lconst (hx : p.tables.exec = Jvm.exec) (hb : c.code = cc) {n : Fin 2} {z : Int} (d : decode cc pc = .ok (.lconst n, 1)) (k : W p l e R s m args below meth c H locs cells slots Q (F0 m (pc + 1) ls (.long (lI z) :: rest))) (hv : Int64.ofNat (n : Nat) = lI z := by decide +kernel) : W p l e R s m args below meth c H locs cells slots Q (F0 m pc ls rest) := lv_lconst hx hb d hv k
theorem pw_ldc (hx : p.tables.exec = Jvm.exec) (hb : c.code = cc) {own : String} {index : Nat} {v : Int32} {z : Int} (hown : s.vm.findClass own = some m.cls) (hc : (Jvm.Cond.constant own index v).before args s = true) (hv : v = iI z) (d : decode cc pc = .ok (.ldc index, 2)) (k : W p l e R s m args below meth c H locs cells slots Q (F0 m (pc + 2) ls (.int (iI z) :: rest))) : W p l e R s m args below meth c H locs cells slots Q (F0 m pc ls rest) := lv_ldc hx hb hown hc d (hv ▸ k)
theorem pw_ldc2 (hx : p.tables.exec = Jvm.exec) (hb : c.code = cc) {own : String} {index : Nat} {v : Int64} {z : Int} (hown : s.vm.findClass own = some m.cls) (hc : (Jvm.Cond.constantLong own index v).before args s = true) (hv : v = lI z) (d : decode cc pc = .ok (.ldc2_w index, 3)) (k : W p l e R s m args below meth c H locs cells slots Q (F0 m (pc + 3) ls (.long (lI z) :: rest))) : W p l e R s m args below meth c H locs cells slots Q (F0 m pc ls rest) := lv_ldc2 hx hb hown hc d (hv ▸ k)
theorem pw_iadd (hx : p.tables.exec = Jvm.exec) (hb : c.code = cc) {x y : Int} (d : decode cc pc = .ok (.iadd, 1)) (k : W p l e R s m args below meth c H locs cells slots Q (F0 m (pc + 1) ls (.int (iI (x + y)) :: rest))) : W p l e R s m args below meth c H locs cells slots Q (F0 m pc ls (.int (iI y) :: .int (iI x) :: rest)) := lv_iadd hx hb d (by rw [iI_add]; exact k)
theorem pw_ladd (hx : p.tables.exec = Jvm.exec) (hb : c.code = cc) {x y : Int} (d : decode cc pc = .ok (.ladd, 1)) (k : W p l e R s m args below meth c H locs cells slots Q (F0 m (pc + 1) ls (.long (lI (x + y)) :: rest))) : W p l e R s m args below meth c H locs cells slots Q (F0 m pc ls (.long (lI y) :: .long (lI x) :: rest)) := lv_ladd hx hb d (by rw [lI_add]; exact k)
theorem pw_isub (hx : p.tables.exec = Jvm.exec) (hb : c.code = cc) {x y : Int} (d : decode cc pc = .ok (.isub, 1)) (k : W p l e R s m args below meth c H locs cells slots Q (F0 m (pc + 1) ls (.int (iI (x - y)) :: rest))) : W p l e R s m args below meth c H locs cells slots Q (F0 m pc ls (.int (iI y) :: .int (iI x) :: rest)) := lv_isub hx hb d (by rw [iI_sub]; exact k)
theorem pw_lsub (hx : p.tables.exec = Jvm.exec) (hb : c.code = cc) {x y : Int} (d : decode cc pc = .ok (.lsub, 1)) (k : W p l e R s m args below meth c H locs cells slots Q (F0 m (pc + 1) ls (.long (lI (x - y)) :: rest))) : W p l e R s m args below meth c H locs cells slots Q (F0 m pc ls (.long (lI y) :: .long (lI x) :: rest)) := lv_lsub hx hb d (by rw [lI_sub]; exact k)
theorem pw_imul (hx : p.tables.exec = Jvm.exec) (hb : c.code = cc) {x y : Int} (d : decode cc pc = .ok (.imul, 1)) (k : W p l e R s m args below meth c H locs cells slots Q (F0 m (pc + 1) ls (.int (iI (x * y)) :: rest))) : W p l e R s m args below meth c H locs cells slots Q (F0 m pc ls (.int (iI y) :: .int (iI x) :: rest)) := lv_imul hx hb d (by rw [iI_mul]; exact k)
theorem pw_lmul (hx : p.tables.exec = Jvm.exec) (hb : c.code = cc) {x y : Int} (d : decode cc pc = .ok (.lmul, 1)) (k : W p l e R s m args below meth c H locs cells slots Q (F0 m (pc + 1) ls (.long (lI (x * y)) :: rest))) : W p l e R s m args below meth c H locs cells slots Q (F0 m pc ls (.long (lI y) :: .long (lI x) :: rest)) := lv_lmul hx hb d (by rw [lI_mul]; exact k)
theorem pw_ineg (hx : p.tables.exec = Jvm.exec) (hb : c.code = cc) {x : Int} (d : decode cc pc = .ok (.ineg, 1)) (k : W p l e R s m args below meth c H locs cells slots Q (F0 m (pc + 1) ls (.int (iI (-x)) :: rest))) : W p l e R s m args below meth c H locs cells slots Q (F0 m pc ls (.int (iI x) :: rest)) := lv_ineg hx hb d (by rw [iI_neg]; exact k)
theorem pw_lneg (hx : p.tables.exec = Jvm.exec) (hb : c.code = cc) {x : Int} (d : decode cc pc = .ok (.lneg, 1)) (k : W p l e R s m args below meth c H locs cells slots Q (F0 m (pc + 1) ls (.long (lI (-x)) :: rest))) : W p l e R s m args below meth c H locs cells slots Q (F0 m pc ls (.long (lI x) :: rest)) := lv_lneg hx hb d (by rw [lI_neg]; exact k)
theorem pw_idiv (hx : p.tables.exec = Jvm.exec) (hb : c.code = cc) {x y : Int} (d : decode cc pc = .ok (.idiv, 1)) (h0 : y ≠ 0) (k : W p l e R s m args below meth c H locs cells slots Q (F0 m (pc + 1) ls (.int (iI (x.tdiv y)) :: rest))) (x1 : -2147483648 < x := by omega) (x2 : x ≤ 2147483647 := by omega) (y1 : -2147483648 ≤ y := by omega) (y2 : y ≤ 2147483647 := by omega) : W p l e R s m args below meth c H locs cells slots Q (F0 m pc ls (.int (iI y) :: .int (iI x) :: rest)) := lv_idiv hx hb d (fun h => h0 ((iI_eq y1 y2 (by omega) (by omega)).mp (h.trans iI_z.symm))) (by rw [iI_div x1 x2 y1 y2]; exact k)
theorem pw_irem (hx : p.tables.exec = Jvm.exec) (hb : c.code = cc) {x y : Int} (d : decode cc pc = .ok (.irem, 1)) (h0 : y ≠ 0) (k : W p l e R s m args below meth c H locs cells slots Q (F0 m (pc + 1) ls (.int (iI (x.tmod y)) :: rest))) (x1 : -2147483648 < x := by omega) (x2 : x ≤ 2147483647 := by omega) (y1 : -2147483648 ≤ y := by omega) (y2 : y ≤ 2147483647 := by omega) : W p l e R s m args below meth c H locs cells slots Q (F0 m pc ls (.int (iI y) :: .int (iI x) :: rest)) := lv_irem hx hb d (fun h => h0 ((iI_eq y1 y2 (by omega) (by omega)).mp (h.trans iI_z.symm))) (by rw [iI_rem x1 x2 y1 y2]; exact k)
theorem pw_ldiv (hx : p.tables.exec = Jvm.exec) (hb : c.code = cc) {x y : Int} (d : decode cc pc = .ok (.ldiv, 1)) (h0 : y ≠ 0) (k : W p l e R s m args below meth c H locs cells slots Q (F0 m (pc + 1) ls (.long (lI (x.tdiv y)) :: rest))) (x1 : -9223372036854775808 < x := by omega) (x2 : x ≤ 9223372036854775807 := by omega) (y1 : -9223372036854775808 ≤ y := by omega) (y2 : y ≤ 9223372036854775807 := by omega) : W p l e R s m args below meth c H locs cells slots Q (F0 m pc ls (.long (lI y) :: .long (lI x) :: rest)) := lv_ldiv hx hb d (fun h => h0 ((lI_eq y1 y2 (by omega) (by omega)).mp (h.trans lI_z.symm))) (by rw [lI_div x1 x2 y1 y2]; exact k)
theorem pw_lrem (hx : p.tables.exec = Jvm.exec) (hb : c.code = cc) {x y : Int} (d : decode cc pc = .ok (.lrem, 1)) (h0 : y ≠ 0) (k : W p l e R s m args below meth c H locs cells slots Q (F0 m (pc + 1) ls (.long (lI (x.tmod y)) :: rest))) (x1 : -9223372036854775808 < x := by omega) (x2 : x ≤ 9223372036854775807 := by omega) (y1 : -9223372036854775808 ≤ y := by omega) (y2 : y ≤ 9223372036854775807 := by omega) : W p l e R s m args below meth c H locs cells slots Q (F0 m pc ls (.long (lI y) :: .long (lI x) :: rest)) := lv_lrem hx hb d (fun h => h0 ((lI_eq y1 y2 (by omega) (by omega)).mp (h.trans lI_z.symm))) (by rw [lI_rem x1 x2 y1 y2]; exact k)
theorem pw_i2l (hx : p.tables.exec = Jvm.exec) (hb : c.code = cc) {x : Int} (d : decode cc pc = .ok (.i2l, 1)) (k : W p l e R s m args below meth c H locs cells slots Q (F0 m (pc + 1) ls (.long (lI x) :: rest))) (x1 : -2147483648 ≤ x := by omega) (x2 : x ≤ 2147483647 := by omega) : W p l e R s m args below meth c H locs cells slots Q (F0 m pc ls (.int (iI x) :: rest)) := lv_i2l hx hb d (iI_l x1 x2) k
theorem pw_l2i (hx : p.tables.exec = Jvm.exec) (hb : c.code = cc) {x : Int} (d : decode cc pc = .ok (.l2i, 1)) (k : W p l e R s m args below meth c H locs cells slots Q (F0 m (pc + 1) ls (.int (iI x) :: rest))) : W p l e R s m args below meth c H locs cells slots Q (F0 m pc ls (.long (lI x) :: rest)) := lv_l2i hx hb d (lI_i x) k
theorem pw_icmp_eq (hx : p.tables.exec = Jvm.exec) (hb : c.code = cc) {x y : Int} {off : Int} {tgt : Nat} (d : decode cc pc = .ok (.if_icmp .eq off, 3)) (ht : (pc : Int) + off = (tgt : Int)) (kt : x = y → W p l e R s m args below meth c H locs cells slots Q (F0 m tgt ls rest)) (kf : x ≠ y → W p l e R s m args below meth c H locs cells slots Q (F0 m (pc + 3) ls rest)) (x1 : -2147483648 ≤ x := by omega) (x2 : x ≤ 2147483647 := by omega) (y1 : -2147483648 ≤ y := by omega) (y2 : y ≤ 2147483647 := by omega) : W p l e R s m args below meth c H locs cells slots Q (F0 m pc ls (.int (iI y) :: .int (iI x) :: rest)) := lv_icmp_eq hx hb d ht (fun h => kt ((iI_eq x1 x2 y1 y2).mp h)) (fun h => kf (fun q => h ((iI_eq x1 x2 y1 y2).mpr q)))
theorem pw_if_eq (hx : p.tables.exec = Jvm.exec) (hb : c.code = cc) {x : Int} {off : Int} {tgt : Nat} (d : decode cc pc = .ok (.ifCond .eq off, 3)) (ht : (pc : Int) + off = (tgt : Int)) (kt : x = 0 → W p l e R s m args below meth c H locs cells slots Q (F0 m tgt ls rest)) (kf : x ≠ 0 → W p l e R s m args below meth c H locs cells slots Q (F0 m (pc + 3) ls rest)) (x1 : -2147483648 ≤ x := by omega) (x2 : x ≤ 2147483647 := by omega) : W p l e R s m args below meth c H locs cells slots Q (F0 m pc ls (.int (iI x) :: rest)) := by
  have hz : (0 : Int32) = iI 0 := rfl
  refine lv_if_eq hx hb d ht (fun h => ?_) (fun h => ?_)
  · rw [hz] at h
    exact kt ((iI_eq x1 x2 (by omega) (by omega)).mp h)
  · rw [hz] at h
    exact kf (fun q => h (q ▸ rfl))
theorem pw_icmp_ne (hx : p.tables.exec = Jvm.exec) (hb : c.code = cc) {x y : Int} {off : Int} {tgt : Nat} (d : decode cc pc = .ok (.if_icmp .ne off, 3)) (ht : (pc : Int) + off = (tgt : Int)) (kt : x ≠ y → W p l e R s m args below meth c H locs cells slots Q (F0 m tgt ls rest)) (kf : x = y → W p l e R s m args below meth c H locs cells slots Q (F0 m (pc + 3) ls rest)) (x1 : -2147483648 ≤ x := by omega) (x2 : x ≤ 2147483647 := by omega) (y1 : -2147483648 ≤ y := by omega) (y2 : y ≤ 2147483647 := by omega) : W p l e R s m args below meth c H locs cells slots Q (F0 m pc ls (.int (iI y) :: .int (iI x) :: rest)) := lv_icmp_ne hx hb d ht (fun h => kt (fun q => h ((iI_eq x1 x2 y1 y2).mpr q))) (fun h => kf ((iI_eq x1 x2 y1 y2).mp h))
theorem pw_if_ne (hx : p.tables.exec = Jvm.exec) (hb : c.code = cc) {x : Int} {off : Int} {tgt : Nat} (d : decode cc pc = .ok (.ifCond .ne off, 3)) (ht : (pc : Int) + off = (tgt : Int)) (kt : x ≠ 0 → W p l e R s m args below meth c H locs cells slots Q (F0 m tgt ls rest)) (kf : x = 0 → W p l e R s m args below meth c H locs cells slots Q (F0 m (pc + 3) ls rest)) (x1 : -2147483648 ≤ x := by omega) (x2 : x ≤ 2147483647 := by omega) : W p l e R s m args below meth c H locs cells slots Q (F0 m pc ls (.int (iI x) :: rest)) := by
  have hz : (0 : Int32) = iI 0 := rfl
  refine lv_if_ne hx hb d ht (fun h => ?_) (fun h => ?_)
  · rw [hz] at h
    exact kt (fun q => h (q ▸ rfl))
  · rw [hz] at h
    exact kf ((iI_eq x1 x2 (by omega) (by omega)).mp h)
theorem pw_icmp_lt (hx : p.tables.exec = Jvm.exec) (hb : c.code = cc) {x y : Int} {off : Int} {tgt : Nat} (d : decode cc pc = .ok (.if_icmp .lt off, 3)) (ht : (pc : Int) + off = (tgt : Int)) (kt : x < y → W p l e R s m args below meth c H locs cells slots Q (F0 m tgt ls rest)) (kf : y ≤ x → W p l e R s m args below meth c H locs cells slots Q (F0 m (pc + 3) ls rest)) (x1 : -2147483648 ≤ x := by omega) (x2 : x ≤ 2147483647 := by omega) (y1 : -2147483648 ≤ y := by omega) (y2 : y ≤ 2147483647 := by omega) : W p l e R s m args below meth c H locs cells slots Q (F0 m pc ls (.int (iI y) :: .int (iI x) :: rest)) := lv_icmp_lt hx hb d ht (fun h => kt ((iI_lt x1 x2 y1 y2).mp h)) (fun h => kf (by have := mt (iI_lt x1 x2 y1 y2).mpr h; omega))
theorem pw_if_lt (hx : p.tables.exec = Jvm.exec) (hb : c.code = cc) {x : Int} {off : Int} {tgt : Nat} (d : decode cc pc = .ok (.ifCond .lt off, 3)) (ht : (pc : Int) + off = (tgt : Int)) (kt : x < 0 → W p l e R s m args below meth c H locs cells slots Q (F0 m tgt ls rest)) (kf : 0 ≤ x → W p l e R s m args below meth c H locs cells slots Q (F0 m (pc + 3) ls rest)) (x1 : -2147483648 ≤ x := by omega) (x2 : x ≤ 2147483647 := by omega) : W p l e R s m args below meth c H locs cells slots Q (F0 m pc ls (.int (iI x) :: rest)) := by
  have hz : (0 : Int32) = iI 0 := rfl
  refine lv_if_lt hx hb d ht (fun h => ?_) (fun h => ?_)
  · rw [hz] at h
    exact kt ((iI_lt x1 x2 (by omega) (by omega)).mp h)
  · rw [hz] at h
    exact kf (Int.not_lt.mp (fun q => h ((iI_lt x1 x2 (by omega) (by omega)).mpr q)))
theorem pw_icmp_ge (hx : p.tables.exec = Jvm.exec) (hb : c.code = cc) {x y : Int} {off : Int} {tgt : Nat} (d : decode cc pc = .ok (.if_icmp .ge off, 3)) (ht : (pc : Int) + off = (tgt : Int)) (kt : y ≤ x → W p l e R s m args below meth c H locs cells slots Q (F0 m tgt ls rest)) (kf : x < y → W p l e R s m args below meth c H locs cells slots Q (F0 m (pc + 3) ls rest)) (x1 : -2147483648 ≤ x := by omega) (x2 : x ≤ 2147483647 := by omega) (y1 : -2147483648 ≤ y := by omega) (y2 : y ≤ 2147483647 := by omega) : W p l e R s m args below meth c H locs cells slots Q (F0 m pc ls (.int (iI y) :: .int (iI x) :: rest)) := lv_icmp_ge hx hb d ht (fun h => kt ((iI_le y1 y2 x1 x2).mp h)) (fun h => kf (by have := mt (iI_le y1 y2 x1 x2).mpr h; omega))
theorem pw_if_ge (hx : p.tables.exec = Jvm.exec) (hb : c.code = cc) {x : Int} {off : Int} {tgt : Nat} (d : decode cc pc = .ok (.ifCond .ge off, 3)) (ht : (pc : Int) + off = (tgt : Int)) (kt : 0 ≤ x → W p l e R s m args below meth c H locs cells slots Q (F0 m tgt ls rest)) (kf : x < 0 → W p l e R s m args below meth c H locs cells slots Q (F0 m (pc + 3) ls rest)) (x1 : -2147483648 ≤ x := by omega) (x2 : x ≤ 2147483647 := by omega) : W p l e R s m args below meth c H locs cells slots Q (F0 m pc ls (.int (iI x) :: rest)) := by
  have hz : (0 : Int32) = iI 0 := rfl
  refine lv_if_ge hx hb d ht (fun h => ?_) (fun h => ?_)
  · rw [hz] at h
    exact kt ((iI_le (by omega) (by omega) x1 x2).mp h)
  · rw [hz] at h
    exact kf (Int.not_le.mp (fun q => h ((iI_le (by omega) (by omega) x1 x2).mpr q)))
theorem pw_icmp_gt (hx : p.tables.exec = Jvm.exec) (hb : c.code = cc) {x y : Int} {off : Int} {tgt : Nat} (d : decode cc pc = .ok (.if_icmp .gt off, 3)) (ht : (pc : Int) + off = (tgt : Int)) (kt : y < x → W p l e R s m args below meth c H locs cells slots Q (F0 m tgt ls rest)) (kf : x ≤ y → W p l e R s m args below meth c H locs cells slots Q (F0 m (pc + 3) ls rest)) (x1 : -2147483648 ≤ x := by omega) (x2 : x ≤ 2147483647 := by omega) (y1 : -2147483648 ≤ y := by omega) (y2 : y ≤ 2147483647 := by omega) : W p l e R s m args below meth c H locs cells slots Q (F0 m pc ls (.int (iI y) :: .int (iI x) :: rest)) := lv_icmp_gt hx hb d ht (fun h => kt ((iI_lt y1 y2 x1 x2).mp h)) (fun h => kf (by have := mt (iI_lt y1 y2 x1 x2).mpr h; omega))
theorem pw_if_gt (hx : p.tables.exec = Jvm.exec) (hb : c.code = cc) {x : Int} {off : Int} {tgt : Nat} (d : decode cc pc = .ok (.ifCond .gt off, 3)) (ht : (pc : Int) + off = (tgt : Int)) (kt : 0 < x → W p l e R s m args below meth c H locs cells slots Q (F0 m tgt ls rest)) (kf : x ≤ 0 → W p l e R s m args below meth c H locs cells slots Q (F0 m (pc + 3) ls rest)) (x1 : -2147483648 ≤ x := by omega) (x2 : x ≤ 2147483647 := by omega) : W p l e R s m args below meth c H locs cells slots Q (F0 m pc ls (.int (iI x) :: rest)) := by
  have hz : (0 : Int32) = iI 0 := rfl
  refine lv_if_gt hx hb d ht (fun h => ?_) (fun h => ?_)
  · rw [hz] at h
    exact kt ((iI_lt (by omega) (by omega) x1 x2).mp h)
  · rw [hz] at h
    exact kf (Int.not_lt.mp (fun q => h ((iI_lt (by omega) (by omega) x1 x2).mpr q)))
theorem pw_icmp_le (hx : p.tables.exec = Jvm.exec) (hb : c.code = cc) {x y : Int} {off : Int} {tgt : Nat} (d : decode cc pc = .ok (.if_icmp .le off, 3)) (ht : (pc : Int) + off = (tgt : Int)) (kt : x ≤ y → W p l e R s m args below meth c H locs cells slots Q (F0 m tgt ls rest)) (kf : y < x → W p l e R s m args below meth c H locs cells slots Q (F0 m (pc + 3) ls rest)) (x1 : -2147483648 ≤ x := by omega) (x2 : x ≤ 2147483647 := by omega) (y1 : -2147483648 ≤ y := by omega) (y2 : y ≤ 2147483647 := by omega) : W p l e R s m args below meth c H locs cells slots Q (F0 m pc ls (.int (iI y) :: .int (iI x) :: rest)) := lv_icmp_le hx hb d ht (fun h => kt ((iI_le x1 x2 y1 y2).mp h)) (fun h => kf (by have := mt (iI_le x1 x2 y1 y2).mpr h; omega))
theorem pw_if_le (hx : p.tables.exec = Jvm.exec) (hb : c.code = cc) {x : Int} {off : Int} {tgt : Nat} (d : decode cc pc = .ok (.ifCond .le off, 3)) (ht : (pc : Int) + off = (tgt : Int)) (kt : x ≤ 0 → W p l e R s m args below meth c H locs cells slots Q (F0 m tgt ls rest)) (kf : 0 < x → W p l e R s m args below meth c H locs cells slots Q (F0 m (pc + 3) ls rest)) (x1 : -2147483648 ≤ x := by omega) (x2 : x ≤ 2147483647 := by omega) : W p l e R s m args below meth c H locs cells slots Q (F0 m pc ls (.int (iI x) :: rest)) := by
  have hz : (0 : Int32) = iI 0 := rfl
  refine lv_if_le hx hb d ht (fun h => ?_) (fun h => ?_)
  · rw [hz] at h
    exact kt ((iI_le x1 x2 (by omega) (by omega)).mp h)
  · rw [hz] at h
    exact kf (Int.not_le.mp (fun q => h ((iI_le x1 x2 (by omega) (by omega)).mpr q)))
theorem pw_cmp (x y : Int) : ∀ {a b : Int}, a = x → b = y → (-9223372036854775808 ≤ x) → (x ≤ 9223372036854775807) → (-9223372036854775808 ≤ y) → (y ≤ 9223372036854775807) → lg_cmp (lI a) (lI b) = iI (if y < x then 1 else if x = y then 0 else -1) := by
  intro a b ha hb x1 x2 y1 y2
  subst ha
  subst hb
  unfold lg_cmp
  by_cases h1 : b < a
  · rw [if_pos ((lI_lt y1 y2 x1 x2).mpr h1), if_pos h1]; rfl
  · rw [if_neg (fun h => h1 ((lI_lt y1 y2 x1 x2).mp h)), if_neg h1]
    by_cases h2 : a = b
    · rw [if_pos (h2 ▸ rfl), if_pos h2]; rfl
    · rw [if_neg (fun h => h2 ((lI_eq x1 x2 y1 y2).mp h)), if_neg h2]; rfl
theorem pw_lcmp_eq (hx : p.tables.exec = Jvm.exec) (hb : c.code = cc) {x y : Int} {off : Int} {tgt : Nat} (d1 : decode cc pc = .ok (.lcmp, 1)) (d : decode cc (pc + 1) = .ok (.ifCond .eq off, 3)) (ht : ((pc + 1 : Nat) : Int) + off = (tgt : Int)) (kt : x = y → W p l e R s m args below meth c H locs cells slots Q (F0 m tgt ls rest)) (kf : x ≠ y → W p l e R s m args below meth c H locs cells slots Q (F0 m (pc + 4) ls rest)) (x1 : -9223372036854775808 ≤ x := by omega) (x2 : x ≤ 9223372036854775807 := by omega) (y1 : -9223372036854775808 ≤ y := by omega) (y2 : y ≤ 9223372036854775807 := by omega) : W p l e R s m args below meth c H locs cells slots Q (F0 m pc ls (.long (lI y) :: .long (lI x) :: rest)) := by
  refine W.lcmp hx hb d1 ?_
  rw [pw_cmp x y rfl rfl x1 x2 y1 y2]
  have hr : -1 ≤ (if y < x then (1 : Int) else if x = y then 0 else -1) ∧ (if y < x then (1 : Int) else if x = y then 0 else -1) ≤ 1 := by split <;> (try split) <;> omega
  refine pw_if_eq hx hb d ht (fun h => kt ?_) (fun h => kf ?_) (by omega) (by omega) <;> (by_cases h1 : y < x <;> by_cases h2 : x = y <;> simp only [h1, h2, if_true, if_false] at h <;> omega)
theorem pw_lcmp_ne (hx : p.tables.exec = Jvm.exec) (hb : c.code = cc) {x y : Int} {off : Int} {tgt : Nat} (d1 : decode cc pc = .ok (.lcmp, 1)) (d : decode cc (pc + 1) = .ok (.ifCond .ne off, 3)) (ht : ((pc + 1 : Nat) : Int) + off = (tgt : Int)) (kt : x ≠ y → W p l e R s m args below meth c H locs cells slots Q (F0 m tgt ls rest)) (kf : x = y → W p l e R s m args below meth c H locs cells slots Q (F0 m (pc + 4) ls rest)) (x1 : -9223372036854775808 ≤ x := by omega) (x2 : x ≤ 9223372036854775807 := by omega) (y1 : -9223372036854775808 ≤ y := by omega) (y2 : y ≤ 9223372036854775807 := by omega) : W p l e R s m args below meth c H locs cells slots Q (F0 m pc ls (.long (lI y) :: .long (lI x) :: rest)) := by
  refine W.lcmp hx hb d1 ?_
  rw [pw_cmp x y rfl rfl x1 x2 y1 y2]
  have hr : -1 ≤ (if y < x then (1 : Int) else if x = y then 0 else -1) ∧ (if y < x then (1 : Int) else if x = y then 0 else -1) ≤ 1 := by split <;> (try split) <;> omega
  refine pw_if_ne hx hb d ht (fun h => kt ?_) (fun h => kf ?_) (by omega) (by omega) <;> (by_cases h1 : y < x <;> by_cases h2 : x = y <;> simp only [h1, h2, if_true, if_false] at h <;> omega)
theorem pw_lcmp_lt (hx : p.tables.exec = Jvm.exec) (hb : c.code = cc) {x y : Int} {off : Int} {tgt : Nat} (d1 : decode cc pc = .ok (.lcmp, 1)) (d : decode cc (pc + 1) = .ok (.ifCond .lt off, 3)) (ht : ((pc + 1 : Nat) : Int) + off = (tgt : Int)) (kt : x < y → W p l e R s m args below meth c H locs cells slots Q (F0 m tgt ls rest)) (kf : y ≤ x → W p l e R s m args below meth c H locs cells slots Q (F0 m (pc + 4) ls rest)) (x1 : -9223372036854775808 ≤ x := by omega) (x2 : x ≤ 9223372036854775807 := by omega) (y1 : -9223372036854775808 ≤ y := by omega) (y2 : y ≤ 9223372036854775807 := by omega) : W p l e R s m args below meth c H locs cells slots Q (F0 m pc ls (.long (lI y) :: .long (lI x) :: rest)) := by
  refine W.lcmp hx hb d1 ?_
  rw [pw_cmp x y rfl rfl x1 x2 y1 y2]
  have hr : -1 ≤ (if y < x then (1 : Int) else if x = y then 0 else -1) ∧ (if y < x then (1 : Int) else if x = y then 0 else -1) ≤ 1 := by split <;> (try split) <;> omega
  refine pw_if_lt hx hb d ht (fun h => kt ?_) (fun h => kf ?_) (by omega) (by omega) <;> (by_cases h1 : y < x <;> by_cases h2 : x = y <;> simp only [h1, h2, if_true, if_false] at h <;> omega)
theorem pw_lcmp_ge (hx : p.tables.exec = Jvm.exec) (hb : c.code = cc) {x y : Int} {off : Int} {tgt : Nat} (d1 : decode cc pc = .ok (.lcmp, 1)) (d : decode cc (pc + 1) = .ok (.ifCond .ge off, 3)) (ht : ((pc + 1 : Nat) : Int) + off = (tgt : Int)) (kt : y ≤ x → W p l e R s m args below meth c H locs cells slots Q (F0 m tgt ls rest)) (kf : x < y → W p l e R s m args below meth c H locs cells slots Q (F0 m (pc + 4) ls rest)) (x1 : -9223372036854775808 ≤ x := by omega) (x2 : x ≤ 9223372036854775807 := by omega) (y1 : -9223372036854775808 ≤ y := by omega) (y2 : y ≤ 9223372036854775807 := by omega) : W p l e R s m args below meth c H locs cells slots Q (F0 m pc ls (.long (lI y) :: .long (lI x) :: rest)) := by
  refine W.lcmp hx hb d1 ?_
  rw [pw_cmp x y rfl rfl x1 x2 y1 y2]
  have hr : -1 ≤ (if y < x then (1 : Int) else if x = y then 0 else -1) ∧ (if y < x then (1 : Int) else if x = y then 0 else -1) ≤ 1 := by split <;> (try split) <;> omega
  refine pw_if_ge hx hb d ht (fun h => kt ?_) (fun h => kf ?_) (by omega) (by omega) <;> (by_cases h1 : y < x <;> by_cases h2 : x = y <;> simp only [h1, h2, if_true, if_false] at h <;> omega)
theorem pw_lcmp_gt (hx : p.tables.exec = Jvm.exec) (hb : c.code = cc) {x y : Int} {off : Int} {tgt : Nat} (d1 : decode cc pc = .ok (.lcmp, 1)) (d : decode cc (pc + 1) = .ok (.ifCond .gt off, 3)) (ht : ((pc + 1 : Nat) : Int) + off = (tgt : Int)) (kt : y < x → W p l e R s m args below meth c H locs cells slots Q (F0 m tgt ls rest)) (kf : x ≤ y → W p l e R s m args below meth c H locs cells slots Q (F0 m (pc + 4) ls rest)) (x1 : -9223372036854775808 ≤ x := by omega) (x2 : x ≤ 9223372036854775807 := by omega) (y1 : -9223372036854775808 ≤ y := by omega) (y2 : y ≤ 9223372036854775807 := by omega) : W p l e R s m args below meth c H locs cells slots Q (F0 m pc ls (.long (lI y) :: .long (lI x) :: rest)) := by
  refine W.lcmp hx hb d1 ?_
  rw [pw_cmp x y rfl rfl x1 x2 y1 y2]
  have hr : -1 ≤ (if y < x then (1 : Int) else if x = y then 0 else -1) ∧ (if y < x then (1 : Int) else if x = y then 0 else -1) ≤ 1 := by split <;> (try split) <;> omega
  refine pw_if_gt hx hb d ht (fun h => kt ?_) (fun h => kf ?_) (by omega) (by omega) <;> (by_cases h1 : y < x <;> by_cases h2 : x = y <;> simp only [h1, h2, if_true, if_false] at h <;> omega)
theorem pw_lcmp_le (hx : p.tables.exec = Jvm.exec) (hb : c.code = cc) {x y : Int} {off : Int} {tgt : Nat} (d1 : decode cc pc = .ok (.lcmp, 1)) (d : decode cc (pc + 1) = .ok (.ifCond .le off, 3)) (ht : ((pc + 1 : Nat) : Int) + off = (tgt : Int)) (kt : x ≤ y → W p l e R s m args below meth c H locs cells slots Q (F0 m tgt ls rest)) (kf : y < x → W p l e R s m args below meth c H locs cells slots Q (F0 m (pc + 4) ls rest)) (x1 : -9223372036854775808 ≤ x := by omega) (x2 : x ≤ 9223372036854775807 := by omega) (y1 : -9223372036854775808 ≤ y := by omega) (y2 : y ≤ 9223372036854775807 := by omega) : W p l e R s m args below meth c H locs cells slots Q (F0 m pc ls (.long (lI y) :: .long (lI x) :: rest)) := by
  refine W.lcmp hx hb d1 ?_
  rw [pw_cmp x y rfl rfl x1 x2 y1 y2]
  have hr : -1 ≤ (if y < x then (1 : Int) else if x = y then 0 else -1) ∧ (if y < x then (1 : Int) else if x = y then 0 else -1) ≤ 1 := by split <;> (try split) <;> omega
  refine pw_if_le hx hb d ht (fun h => kt ?_) (fun h => kf ?_) (by omega) (by omega) <;> (by_cases h1 : y < x <;> by_cases h2 : x = y <;> simp only [h1, h2, if_true, if_false] at h <;> omega)
-- arrays
theorem pw_lald (hx : p.tables.exec = Jvm.exec) (hb : c.code = cc) (hK : KK D E s) {a n : Nat} {f : Nat → Int} (hA : LA E a n f H) {i : Int} (j : Nat) (hi : i = (j : Int)) (hj : j < n) (hn : n < 2147483648) (d : decode cc pc = .ok (.laload, 1)) (k : W p l e R s m args below meth c H locs cells slots Q (F0 m (pc + 1) ls (.long (lI (f j)) :: rest))) : W p l e R s m args below meth c H locs cells slots Q (F0 m pc ls (.int (iI i) :: .ref a :: rest)) := by
  obtain ⟨h1, h2⟩ := iI_in hi hj hn
  refine va_lald (D := D) (cl := vwCl) (ws := [(a, .inl (E 1, n, .inr (.inl (fun q => lI (f q)))))]) hx hb hK (fun k q hq => ?_) 0 1 rfl rfl h1 d ?_
  · cases k with
    | zero => cases hq; exact hA
    | succ k => cases hq
  · rw [h2]; exact k
theorem pw_iald (hx : p.tables.exec = Jvm.exec) (hb : c.code = cc) (hK : KK D E s) {a n : Nat} {f : Nat → Int} (hA : IA E a n f H) {i : Int} (j : Nat) (hi : i = (j : Int)) (hj : j < n) (hn : n < 2147483648) (d : decode cc pc = .ok (.iaload, 1)) (k : W p l e R s m args below meth c H locs cells slots Q (F0 m (pc + 1) ls (.int (iI (f j)) :: rest))) : W p l e R s m args below meth c H locs cells slots Q (F0 m pc ls (.int (iI i) :: .ref a :: rest)) := by
  obtain ⟨h1, h2⟩ := iI_in hi hj hn
  refine va_iald (D := D) (cl := vwCl) (ws := [(a, .inl (E 0, n, .inl (fun q => iI (f q))))]) hx hb hK (fun k q hq => ?_) 0 0 rfl rfl h1 d ?_
  · cases k with
    | zero => cases hq; exact hA
    | succ k => cases hq
  · rw [h2]; exact k
theorem pw_zald (hx : p.tables.exec = Jvm.exec) (hb : c.code = cc) (hK : KK D E s) {a n : Nat} {f : Nat → Int} (hA : ZA E a n f H) {i : Int} (j : Nat) (hi : i = (j : Int)) (hj : j < n) (hn : n < 2147483648) (d : decode cc pc = .ok (.baload, 1)) (k : W p l e R s m args below meth c H locs cells slots Q (F0 m (pc + 1) ls (.int (iI (f j)) :: rest))) : W p l e R s m args below meth c H locs cells slots Q (F0 m pc ls (.int (iI i) :: .ref a :: rest)) := by
  obtain ⟨h1, h2⟩ := iI_in hi hj hn
  refine va_zald (D := D) (cl := vwCl) (ws := [(a, .inl (E 2, n, .inl (fun q => iI (f q))))]) hx hb hK (fun k q hq => ?_) 0 2 rfl rfl h1 d ?_
  · cases k with
    | zero => cases hq; exact hA
    | succ k => cases hq
  · rw [h2]; exact k
theorem pw_one {a : Nat} {x : va_E} (h : va_at D vwCl (a, x) H) : va_P D vwCl [(a, x)] H := fun k q hq => by
  cases k with
  | zero => cases hq; exact h
  | succ k => cases hq
theorem pw_alen (hx : p.tables.exec = Jvm.exec) (hb : c.code = cc) (hK : KK D E s) {a n k0 : Nat} {x : vp_A} (hA : H[a]? = some (vp_cell (E k0) x)) {ty : FieldType} (ht : (pw_tys E)[k0]? = some (E k0, ty)) (hn : x.1 = n) (d : decode cc pc = .ok (.arraylength, 1)) (k : W p l e R s m args below meth c H locs cells slots Q (F0 m (pc + 1) ls (.int (iI (n : Int)) :: rest))) : W p l e R s m args below meth c H locs cells slots Q (F0 m pc ls (.ref a :: rest)) :=
  va_alen (D := D) (cl := vwCl) (ws := [(a, .inl (E k0, x))]) hx hb hK (pw_one (D := D) hA) 0 k0 rfl ht (v := iI (n : Int)) (by rw [hn]; exact iI_nI n) d k
theorem pw_get (hx : p.tables.exec = Jvm.exec) (hb : c.code = cc) {own ref C : String} {T : u_T} {N ci index : Nat} {Ts : List Cond} {a : Nat} {fs : List Value} (hts : ∀ w ∈ Ts, w.before args s = true) (hin : ∀ w ∈ u_ws C T N, w ∈ Ts) (hown : s.vm.findClass own = some m.cls) (hK : KK D E s) (hO : OA D a ci fs H) (hc : vwCl[ci]? = some (C, T, N)) (k : Nat) (hk : k < N) (hlink : (Cond.fieldLink own index ref (T k).2.1 (T k).2.2.1).before args s = true) (href : ref = (T k).1) {v : Value} (hv : fs[k]? = some v) (d : decode cc pc = .ok (.getfield index, 3))
    (kk : W p l e R s m args below meth c H locs cells slots Q (F0 m (pc + 3) ls (v :: rest))) : W p l e R s m args below meth c H locs cells slots Q (F0 m pc ls (.ref a :: rest)) :=
  va_get (D := D) (cl := vwCl) (ws := [(a, .inr (ci, fs))]) hx hb hts hin hown hK (pw_one hO) 0 rfl hc k hk hlink (fun x h => by rw [href]; exact h) hv d kk
theorem pw_put (hx : p.tables.exec = Jvm.exec) (hb : c.code = cc) {own ref C : String} {T : u_T} {N ci index : Nat} {Ts : List Cond} {a : Nat} {fs : List Value} (hts : ∀ w ∈ Ts, w.before args s = true) (hin : ∀ w ∈ u_ws C T N, w ∈ Ts) (ty0 : Nat → FieldType) (hty : ∀ k, k < N → parseFieldDescriptor (T k).2.2.1 = some (ty0 k)) (hnm : ∀ a, a < N → ∀ b, b < N → a ≠ b → (T a).2.1 ≠ (T b).2.1) (hown : s.vm.findClass own = some m.cls) (hK : KK D E s) (hO : OA D a ci fs H) (hS : va_S A H0 H locs) (hAa : A a) (hc : vwCl[ci]? = some (C, T, N)) (k : Nat) (hk : k < N) (hlink : (Cond.fieldLink own index ref (T k).2.1 (T k).2.2.1).before args s = true) (href : ref = (T k).1) (hfin : (T k).2.2.2 = false) {v : Value} (hn : narrow (ty0 k) v = v) (hfit : fits (ty0 k) v = true) (hl : k < fs.length) (d : decode cc pc = .ok (.putfield index, 3))
    (kk : ∀ (H1 : Heap) (locs1 : List Loc), OA D a ci (fs.set k v) H1 → H1.size = H.size → (∀ q : Nat, q ≠ a → H1[q]? = H[q]?) → va_S A H0 H1 locs1 → W p l e R s m args below meth c H1 locs1 cells slots Q (F0 m (pc + 3) ls rest)) : W p l e R s m args below meth c H locs cells slots Q (F0 m pc ls (v :: .ref a :: rest)) := by
  have hP := pw_one hO
  have hK0 : va_K D vwCl (pw_tys E) s := hK
  have hap := va_apart (own := own) hts hin ty0 hty hnm hK0 hc
  obtain ⟨r, h1, cell, q1, q2, q3, q4⟩ := hP 0 _ rfl
  have hr : r = (C, T, N) := Option.some.inj (h1.symm.trans hc)
  subst hr
  obtain ⟨hS', hfc, kC, hkC, hkind⟩ := hK0.1 ci _ hc
  obtain ⟨cf, kf, fi, f, hi, hsl⟩ := hS' k hk
  have hlay := hts _ (hin _ (u_in_lay hk))
  unfold u_lay at hlay
  rw [if_neg (by rw [hfin]; decide)] at hlay
  have hst := (u_facts hfc hkC (u_lays hts hin hk) hi).1
  have h6 := u_store hfc hkC hkind hlay hi (hty k hk) hn hfit
  refine W.putK hx hb (f := f) ⟨hown, hlink, ⟨_, _, _, by rw [href]; exact hi⟩, hst⟩ (by rw [q2]; exact h6) q1 q3 (by rw [hsl]; exact k2_hasslot (q4 k hk)) rfl rfl d fun H' e1 e2 e3 => ?_
  rw [hsl] at e1 ⊢
  exact kk H' _ ⟨_, hc, t_OB.to (V := updV (vp_V fs) k v) ⟨_, e1, q2, q3, t_set q4 hap hk v⟩ (fun j _ => vp_updV_set hl v j)⟩ e2 e3 (hS.put e2 e3 hAa)
theorem pw_putF (hx : p.tables.exec = Jvm.exec) (hb : c.code = cc) {own ref C : String} {T : u_T} {N ci index : Nat} {Ts : List Cond} {a : Nat} {fs : List Value} (hts : ∀ w ∈ Ts, w.before args s = true) (hin : ∀ w ∈ u_ws C T N, w ∈ Ts) (ty0 : Nat → FieldType) (hty : ∀ k, k < N → parseFieldDescriptor (T k).2.2.1 = some (ty0 k)) (hnm : ∀ a, a < N → ∀ b, b < N → a ≠ b → (T a).2.1 ≠ (T b).2.1) (hown : s.vm.findClass own = some m.cls) (hK : KK D E s) (hO : OA D a ci fs H) (hS : va_S A H0 H locs) (hAa : A a) (hc : vwCl[ci]? = some (C, T, N)) (k : Nat) (hk : k < N) (hlink : (Cond.fieldLink own index ref (T k).2.1 (T k).2.2.1).before args s = true) (href : ref = (T k).1) (hfin : (T k).2.2.2 = true) (hin2 : meth.name = "<init>") (hdecl : (T k).1 = own) {v : Value} (hn : narrow (ty0 k) v = v) (hfit : fits (ty0 k) v = true) (hl : k < fs.length) (d : decode cc pc = .ok (.putfield index, 3))
    (kk : ∀ (H1 : Heap) (locs1 : List Loc), OA D a ci (fs.set k v) H1 → H1.size = H.size → (∀ q : Nat, q ≠ a → H1[q]? = H[q]?) → va_S A H0 H1 locs1 → W p l e R s m args below meth c H1 locs1 cells slots Q (F0 m (pc + 3) ls rest)) : W p l e R s m args below meth c H locs cells slots Q (F0 m pc ls (v :: .ref a :: rest)) := by
  have hP := pw_one hO
  have hK0 : va_K D vwCl (pw_tys E) s := hK
  have hap := va_apart (own := own) hts hin ty0 hty hnm hK0 hc
  obtain ⟨r, h1, cell, q1, q2, q3, q4⟩ := hP 0 _ rfl
  have hr : r = (C, T, N) := Option.some.inj (h1.symm.trans hc)
  subst hr
  obtain ⟨hS', hfc, kC, hkC, hkind⟩ := hK0.1 ci _ hc
  obtain ⟨cf, kf, fi, f, hi, hsl⟩ := hS' k hk
  have hlay := hts _ (hin _ (u_in_lay hk))
  unfold u_lay at hlay
  rw [if_pos hfin] at hlay
  have hst := (u_facts hfc hkC (u_lays hts hin hk) hi).1
  have hcf : m.cls = cf := by
    obtain ⟨_, _, c', _, _, _, -, -, hf', -, -, -, hown2, -⟩ := Cond.laysFinal_spec hlay
    have e1 : c' = cf := by have := hi.symm.trans hf'; simp at this; exact this.1.symm
    rw [hdecl] at hown2
    rw [← e1]; exact Option.some.inj (hown.symm.trans hown2)
  have h6 := u_fits hfc hkC hkind (Or.inr hlay) hi (hty k hk) hn hfit
  refine W.putFinK hx hb hown hlink (by rw [href]; exact hi) hst hcf hin2 (by rw [q2]; exact h6) q1 q3 (by rw [hsl]; exact k2_hasslot (q4 k hk)) rfl rfl d fun H' e1 e2 e3 => ?_
  rw [hsl] at e1 ⊢
  exact kk H' _ ⟨_, hc, t_OB.to (V := updV (vp_V fs) k v) ⟨_, e1, q2, q3, t_set q4 hap hk v⟩ (fun j _ => vp_updV_set hl v j)⟩ e2 e3 (hS.put e2 e3 hAa)
theorem pw_last (hx : p.tables.exec = Jvm.exec) (hb : c.code = cc) (hK : KK D E s) {a n : Nat} {f : Nat → Int} (hA : LA E a n f H) (hS : va_S A H0 H locs) (hAa : A a) {i x : Int} (j : Nat) (hi : i = (j : Int)) (hj : j < n) (hn : n < 2147483648) (d : decode cc pc = .ok (.lastore, 1))
    (kk : ∀ (H1 : Heap) (locs1 : List Loc), LA E a n (ud f j x) H1 → H1.size = H.size → (∀ q : Nat, q ≠ a → H1[q]? = H[q]?) → va_S A H0 H1 locs1 → W p l e R s m args below meth c H1 locs1 cells slots Q (F0 m (pc + 1) ls rest)) : W p l e R s m args below meth c H locs cells slots Q (F0 m pc ls (.long (lI x) :: .int (iI i) :: .ref a :: rest)) := by
  obtain ⟨h1, h2⟩ := iI_in hi hj hn
  have hK0 : va_K D vwCl (pw_tys E) s := hK
  refine W.last hx hb hA ((hK0.2 1 _ rfl).1 n (fun j => .long (lI (f j)))) (fun q => by cases q) (by show ¬ (iI i < 0 ∨ (arrV _ _ _).slots.size ≤ _); rw [arrV_size]; exact h1) rfl rfl d fun H1 e z oq => ?_
  refine kk H1 _ ?_ z oq (hS.put z oq hAa)
  show H1[a]? = some (vp_cell _ _)
  rw [e, vp_cell_l, vp_cell_l, arrV_store, h2]
  congr 2
  funext q
  by_cases hq : q = j
  · subst hq
    simp [updV, ud]
  · simp [updV, ud, hq]
theorem pw_iast (hx : p.tables.exec = Jvm.exec) (hb : c.code = cc) (hK : KK D E s) {a n : Nat} {f : Nat → Int} (hA : IA E a n f H) (hS : va_S A H0 H locs) (hAa : A a) {i x : Int} (j : Nat) (hi : i = (j : Int)) (hj : j < n) (hn : n < 2147483648) (d : decode cc pc = .ok (.iastore, 1))
    (kk : ∀ (H1 : Heap) (locs1 : List Loc), IA E a n (ud f j x) H1 → H1.size = H.size → (∀ q : Nat, q ≠ a → H1[q]? = H[q]?) → va_S A H0 H1 locs1 → W p l e R s m args below meth c H1 locs1 cells slots Q (F0 m (pc + 1) ls rest)) : W p l e R s m args below meth c H locs cells slots Q (F0 m pc ls (.int (iI x) :: .int (iI i) :: .ref a :: rest)) := by
  obtain ⟨h1, h2⟩ := iI_in hi hj hn
  have hK0 : va_K D vwCl (pw_tys E) s := hK
  refine W.iast hx hb hA ((hK0.2 0 _ rfl).1 n (fun j => .int (iI (f j)))) (fun q => by cases q) (by show ¬ (iI i < 0 ∨ (arrV _ _ _).slots.size ≤ _); rw [arrV_size]; exact h1) rfl rfl d fun H1 e z oq => ?_
  refine kk H1 _ ?_ z oq (hS.put z oq hAa)
  show H1[a]? = some (vp_cell _ _)
  rw [e, vp_cell_i, vp_cell_i, arrV_store, h2]
  congr 2
  funext q
  by_cases hq : q = j
  · subst hq
    simp [updV, ud]
  · simp [updV, ud, hq]
end PW
