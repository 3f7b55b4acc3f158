/-! bits of columns; the equations' rows and minors -/
section PB
variable {p : Program} {l : Launch} {e : Env} {R : Room} {s : State} {m : MethodId} {args : Array Value} {below : List Frame} {meth : Method} {c : Code} {H : Heap} {locs : List Loc} {cells slots : Nat} {Q : State → Prop}
variable {cc : ByteArray} {pc : Nat} {ls : Array Slot} {rest : List Value} {D : va_G} {E : Nat → ClassId} {n : Nat}
theorem pw_eqi {X : Int32} (z : Int) (h : X = iI z) (k : W p l e R s m args below meth c H locs cells slots Q (F0 m pc ls (.int (iI z) :: rest))) : W p l e R s m args below meth c H locs cells slots Q (F0 m pc ls (.int X :: rest)) := by rw [h]; exact k
theorem pw_eql {X : Int64} (z : Int) (h : X = lI z) (k : W p l e R s m args below meth c H locs cells slots Q (F0 m pc ls (.long (lI z) :: rest))) : W p l e R s m args below meth c H locs cells slots Q (F0 m pc ls (.long X :: rest)) := by rw [h]; exact k
theorem pw_qalda (hx : p.tables.exec = Jvm.exec) (hb : c.code = cc) (hK : KK D E s) {a : Nat} {f : Nat → Option Nat} (hA : QA E 6 a n f H) {i : Int} (j : Nat) (hi : i = (j : Int)) (hj : j < n) (hn : n < 2147483648) {b : Nat} (hv : f j = some b) (d : decode cc pc = .ok (.aaload, 1)) (k : W p l e R s m args below meth c H locs cells slots Q (F0 m (pc + 1) ls (.ref b :: rest))) : W p l e R s m args below meth c H locs cells slots Q (F0 m pc ls (.int (iI i) :: .ref a :: rest)) := by
  obtain ⟨h1, h2⟩ := iI_in hi hj hn
  have hK0 : va_K D vwCl (pw_tys E) s := hK
  refine W.aald (v := .ref b) (ty := .array .int) hx hb hA ((hK0.2 6 _ rfl).1 n (fun j => va_rf (f j))) rfl (fun q => by cases q) (by show ¬ (iI i < 0 ∨ (arrV _ _ _).slots.size ≤ _); rw [arrV_size]; exact h1) (by show (arrV _ _ _).slots[_]? = _; rw [h2, arrV_read _ _ hj, hv]; rfl) rfl rfl d k
end PB
def pop (x : Nat) : Nat := x % 2 + x / 2 % 2 + x / 4 % 2 + x / 8 % 2 + x / 16 % 2 + x / 32 % 2 + x / 64 % 2
/-- the columns below c that are set, from the top down -/
def bl (m : Nat) : Nat → List Nat
  | 0 => []
  | c + 1 => if m / 2 ^ c % 2 = 1 then c :: bl m c else bl m c
/-- those from c on -/
def hi (m c : Nat) : List Nat := (bl m 7).filter (fun x => decide (c ≤ x))
theorem bit_all {P : Nat → Nat → Prop} (h : ∀ m : Fin 128, ∀ c : Fin 8, P m.val c.val) {m c : Nat} (hm : m < 128) (hc : c < 8) : P m c := h ⟨m, hm⟩ ⟨c, hc⟩
theorem bl_split {m c : Nat} (hm : m < 128) (hc : c < 8) : bl m 7 = hi m c ++ bl m c := bit_all (P := fun m c => bl m 7 = hi m c ++ bl m c) (by decide +kernel) hm hc
theorem hi_s {m c : Nat} (hm : m < 128) (hc : c < 7) (hb : m / 2 ^ c % 2 = 1) : hi m c = hi m (c + 1) ++ [c] := bit_all (P := fun m c => c < 7 → m / 2 ^ c % 2 = 1 → hi m c = hi m (c + 1) ++ [c]) (by decide +kernel) hm (by omega) hc hb
theorem hi_n {m c : Nat} (hm : m < 128) (hc : c < 7) (hb : ¬ m / 2 ^ c % 2 = 1) : hi m c = hi m (c + 1) := bit_all (P := fun m c => c < 7 → ¬ m / 2 ^ c % 2 = 1 → hi m c = hi m (c + 1)) (by decide +kernel) hm (by omega) hc hb
theorem bl_x {m c : Nat} (hm : m < 128) (hc : c < 7) (hb : m / 2 ^ c % 2 = 1) : bl (m ^^^ 2 ^ c) 7 = hi m (c + 1) ++ bl m c ∧ m ^^^ 2 ^ c < m ∧ pop (m ^^^ 2 ^ c) + 1 = pop m := bit_all (P := fun m c => c < 7 → m / 2 ^ c % 2 = 1 → bl (m ^^^ 2 ^ c) 7 = hi m (c + 1) ++ bl m c ∧ m ^^^ 2 ^ c < m ∧ pop (m ^^^ 2 ^ c) + 1 = pop m) (by decide +kernel) hm (by omega) hc hb
theorem hi_top {m n : Nat} (hn : n < 7) (hm : m < 2 ^ (n + 1)) : hi m (n + 1) = [] := by
  have hp : 2 ^ (n + 1) ≤ 2 ^ 7 := Nat.pow_le_pow_right (by omega) (by omega)
  exact bit_all (P := fun m n => n < 7 → m < 2 ^ (n + 1) → hi m (n + 1) = []) (by decide +kernel) (by omega) (by omega) hn hm
theorem pop_b {m n : Nat} (hn : n < 7) (hm : m + 1 < 2 ^ (n + 1)) (h0 : 0 < m) : 0 < pop m ∧ pop m ≤ n := by
  have hp : 2 ^ (n + 1) ≤ 2 ^ 7 := Nat.pow_le_pow_right (by omega) (by omega)
  exact bit_all (P := fun m n => n < 7 → m + 1 < 2 ^ (n + 1) → 0 < m → 0 < pop m ∧ pop m ≤ n) (by decide +kernel) (by omega) (by omega) hn hm h0
theorem bl_len {m : Nat} (hm : m < 128) : (bl m 7).length ≤ 7 := bit_all (P := fun m _ => (bl m 7).length ≤ 7) (by decide +kernel) hm (show 0 < 8 by omega)
theorem bl_mem {m n c : Nat} (hn : n < 7) (hm : m < 2 ^ (n + 1)) (hc : c ∈ bl m 7) : c ≤ n := by
  have hp : 2 ^ (n + 1) ≤ 2 ^ 7 := Nat.pow_le_pow_right (by omega) (by omega)
  exact bit_all (P := fun m n => n < 7 → m < 2 ^ (n + 1) → ∀ c ∈ bl m 7, c ≤ n) (by decide +kernel) (by omega) (by omega) hn hm c hc
theorem j_bit {m c : Nat} (hm : m < 128) (hc : c < 7) : (iI (m : Int) >>> (iI (c : Int) &&& 31)) = iI ((m / 2 ^ c : Nat) : Int) ∧ (iI ((m / 2 ^ c : Nat) : Int) &&& iI 1) = iI ((m / 2 ^ c % 2 : Nat) : Int) ∧ (iI 1 <<< (iI (c : Int) &&& 31)) = iI ((2 ^ c : Nat) : Int) ∧ (iI (m : Int) ^^^ iI ((2 ^ c : Nat) : Int)) = iI ((m ^^^ 2 ^ c : Nat) : Int) := bit_all (P := fun m c => c < 7 → (iI (m : Int) >>> (iI (c : Int) &&& 31)) = iI ((m / 2 ^ c : Nat) : Int) ∧ (iI ((m / 2 ^ c : Nat) : Int) &&& iI 1) = iI ((m / 2 ^ c % 2 : Nat) : Int) ∧ (iI 1 <<< (iI (c : Int) &&& 31)) = iI ((2 ^ c : Nat) : Int) ∧ (iI (m : Int) ^^^ iI ((2 ^ c : Nat) : Int)) = iI ((m ^^^ 2 ^ c : Nat) : Int)) (by decide +kernel) hm (by omega) hc
def us (x y : Int32) : Int32 := (x.toUInt32 >>> (y.toUInt32 &&& Int32.toUInt32 31)).toInt32
def bcA (x : Int32) : Int32 := x - (us x (iI 1) &&& 1431655765)
def bcB (x : Int32) : Int32 := (x &&& 858993459) + (us x (iI 2) &&& 858993459)
def bcC (x : Int32) : Int32 := (x + us x (iI 4)) &&& 252645135
def bcD (x : Int32) : Int32 := x + us x (iI 8)
def bcE (x : Int32) : Int32 := x + us x (iI 16)
theorem bc_all {m : Nat} (hm : m < 128) : (bcE (bcD (bcC (bcB (bcA (iI (m : Int)))))) &&& iI 63) = iI ((pop m : Nat) : Int) := bit_all (P := fun m _ => (bcE (bcD (bcC (bcB (bcA (iI (m : Int)))))) &&& iI 63) = iI ((pop m : Nat) : Int)) (by decide +kernel) hm (show 0 < 8 by omega)
set_option maxHeartbeats 4000000 in
set_option maxRecDepth 100000 in
/-- bitCount(x), x below 128 -/
theorem c_bitCount (l : Launch) (D : va_G) (E : Nat → ClassId) (x : Nat) (hx0 : x < 128) : pw_M rvI l D E yJ6_bitCount_0f7a4 wsJ6_bitCount_0f7a4 ({ frames := 0, cells := 0, slots := 0, locals := 0 } : Room) [.int (iI ((x : Int)))] (fun H => True) (fun z H => z = ((pop x : Nat) : Int)) (fun _ => False) (0) (0) := by
  refine pw_of (cc := cJ6_bitCount_0f7a4) (maxL := 1) (ret := (some .int)) (by decide +kernel) rfl (Nat.le_of_ble_eq_true rfl) ?_
  intro p e s m args below meth c hx hb hr hml hts hown hlocks hini hK hPre ls hl
  have hown : s.vm.findClass RJ6 = some m.cls := hown
  have hl : lv_has ls 1 [(0, .int (iI ((x : Int))))] := hl
  have hS : va_S (fun _ => False) s.heap s.heap [] := va_S.rf
  have kc_265 := hts (.constant RJ6 265 (1431655765)) (by decide +kernel)
  have kc_266 := hts (.constant RJ6 266 (858993459)) (by decide +kernel)
  have kc_267 := hts (.constant RJ6 267 (252645135)) (by decide +kernel)
  refine lv_iload_n hx hb dJ6_bitCount_0f7a4_0 rfl (lv_at hl 0 rfl) ?_
  refine lv_iload_n hx hb dJ6_bitCount_0f7a4_1 rfl (lv_at hl 0 rfl) ?_
  refine pw_iconst hx hb dJ6_bitCount_0f7a4_2 ?_
  refine lv_iushr hx hb dJ6_bitCount_0f7a4_3 rfl ?_
  refine lv_ldcw hx hb hown kc_265 dJ6_bitCount_0f7a4_4 ?_
  refine lv_iand hx hb dJ6_bitCount_0f7a4_7 ?_
  refine lv_isub hx hb dJ6_bitCount_0f7a4_8 ?_
  refine lv_topi (fun y1 ey1 => ?_)
  have ey1 : y1 = bcA (iI (x : Int)) := ey1
  refine lv_istore_n (lv' := [(0, .int y1)]) hx hb dJ6_bitCount_0f7a4_9 rfl hl (by decide) rfl (fun ls hl => ?_)
  refine lv_iload_n hx hb dJ6_bitCount_0f7a4_10 rfl (lv_at hl 0 rfl) ?_
  refine lv_ldcw hx hb hown kc_266 dJ6_bitCount_0f7a4_11 ?_
  refine lv_iand hx hb dJ6_bitCount_0f7a4_14 ?_
  refine lv_iload_n hx hb dJ6_bitCount_0f7a4_15 rfl (lv_at hl 0 rfl) ?_
  refine pw_iconst hx hb dJ6_bitCount_0f7a4_16 ?_
  refine lv_iushr hx hb dJ6_bitCount_0f7a4_17 rfl ?_
  refine lv_ldcw hx hb hown kc_266 dJ6_bitCount_0f7a4_18 ?_
  refine lv_iand hx hb dJ6_bitCount_0f7a4_21 ?_
  refine lv_iadd hx hb dJ6_bitCount_0f7a4_22 ?_
  refine lv_topi (fun y2 ey2 => ?_)
  have ey2 : y2 = bcB y1 := ey2
  refine lv_istore_n (lv' := [(0, .int y2)]) hx hb dJ6_bitCount_0f7a4_23 rfl hl (by decide) rfl (fun ls hl => ?_)
  refine lv_iload_n hx hb dJ6_bitCount_0f7a4_24 rfl (lv_at hl 0 rfl) ?_
  refine lv_iload_n hx hb dJ6_bitCount_0f7a4_25 rfl (lv_at hl 0 rfl) ?_
  refine pw_iconst hx hb dJ6_bitCount_0f7a4_26 ?_
  refine lv_iushr hx hb dJ6_bitCount_0f7a4_27 rfl ?_
  refine lv_iadd hx hb dJ6_bitCount_0f7a4_28 ?_
  refine lv_ldcw hx hb hown kc_267 dJ6_bitCount_0f7a4_29 ?_
  refine lv_iand hx hb dJ6_bitCount_0f7a4_32 ?_
  refine lv_topi (fun y3 ey3 => ?_)
  have ey3 : y3 = bcC y2 := ey3
  refine lv_istore_n (lv' := [(0, .int y3)]) hx hb dJ6_bitCount_0f7a4_33 rfl hl (by decide) rfl (fun ls hl => ?_)
  refine lv_iload_n hx hb dJ6_bitCount_0f7a4_34 rfl (lv_at hl 0 rfl) ?_
  refine lv_iload_n hx hb dJ6_bitCount_0f7a4_35 rfl (lv_at hl 0 rfl) ?_
  refine pw_bipush hx hb dJ6_bitCount_0f7a4_36 ?_
  refine lv_iushr hx hb dJ6_bitCount_0f7a4_38 rfl ?_
  refine lv_iadd hx hb dJ6_bitCount_0f7a4_39 ?_
  refine lv_topi (fun y4 ey4 => ?_)
  have ey4 : y4 = bcD y3 := ey4
  refine lv_istore_n (lv' := [(0, .int y4)]) hx hb dJ6_bitCount_0f7a4_40 rfl hl (by decide) rfl (fun ls hl => ?_)
  refine lv_iload_n hx hb dJ6_bitCount_0f7a4_41 rfl (lv_at hl 0 rfl) ?_
  refine lv_iload_n hx hb dJ6_bitCount_0f7a4_42 rfl (lv_at hl 0 rfl) ?_
  refine pw_bipush hx hb dJ6_bitCount_0f7a4_43 ?_
  refine lv_iushr hx hb dJ6_bitCount_0f7a4_45 rfl ?_
  refine lv_iadd hx hb dJ6_bitCount_0f7a4_46 ?_
  refine lv_topi (fun y5 ey5 => ?_)
  have ey5 : y5 = bcE y4 := ey5
  refine lv_istore_n (lv' := [(0, .int y5)]) hx hb dJ6_bitCount_0f7a4_47 rfl hl (by decide) rfl (fun ls hl => ?_)
  refine lv_iload_n hx hb dJ6_bitCount_0f7a4_48 rfl (lv_at hl 0 rfl) ?_
  refine pw_bipush hx hb dJ6_bitCount_0f7a4_49 ?_
  refine lv_iand hx hb dJ6_bitCount_0f7a4_51 ?_
  refine pw_eqi ((pop x : Nat) : Int) (by rw [ey5, ey4, ey3, ey2, ey1]; exact bc_all hx0) ?_
  exact pw_iret hx hb hr hlocks hS rfl dJ6_bitCount_0f7a4_52
