/-! the class itself: its cells -/
def EQx (D : va_G) (E : Nat → ClassId) (a : Nat) (H : Heap) : Prop := ∃ R mn, EQ D E a R mn H
def CHx (D : va_G) (E : Nat → ClassId) (a : Nat) (H : Heap) : Prop := ∃ gb gr vb sb vr sr, CH D E a gb gr vb sb vr sr H
def FRx (D : va_G) (E : Nat → ClassId) (a : Nat) (H : Heap) : Prop := ∃ u w o1 o2 o3, FR D E a u w o1 o2 o3 H
def WHx (D : va_G) (E : Nat → ClassId) (a : Nat) (H : Heap) : Prop := ∃ v, WH D E a 24 v H
def IAx (E : Nat → ClassId) (a : Nat) (H : Heap) : Prop := ∃ f, IA E a 6 f H
def WRS (D : va_G) (E : Nat → ClassId) (a x : Nat) (v : Nat → Nat → Int) (b : Nat → Int) (H : Heap) : Prop := ∀ k, k < 4 → k ≠ x → RW D E (a + 16 * k) 8 (v k) (b k) H
theorem EQx.k {D : va_G} {E : Nat → ClassId} {a : Nat} {H H1 : Heap} (h : EQx D E a H) (hq : ∀ q, a ≤ q → q ≤ a + 264 → q < H.size → H1[q]? = H[q]?) : EQx D E a H1 := by
  obtain ⟨R, mn, h⟩ := h
  exact ⟨R, mn, h.k hq⟩
theorem CHx.k {D : va_G} {E : Nat → ClassId} {a : Nat} {H H1 : Heap} (h : CHx D E a H) (hq : ∀ q, a ≤ q → q ≤ a + 8 → q < H.size → H1[q]? = H[q]?) : CHx D E a H1 := by
  obtain ⟨gb, gr, vb, sb, vr, sr, h⟩ := h
  exact ⟨gb, gr, vb, sb, vr, sr, h.k hq⟩
theorem FRx.k {D : va_G} {E : Nat → ClassId} {a : Nat} {H H1 : Heap} (h : FRx D E a H) (hq : ∀ q, a ≤ q → q ≤ a + 10 → q < H.size → H1[q]? = H[q]?) : FRx D E a H1 := by
  obtain ⟨u, w, o1, o2, o3, h⟩ := h
  exact ⟨u, w, o1, o2, o3, h.k hq⟩
theorem WHx.k {D : va_G} {E : Nat → ClassId} {a : Nat} {H H1 : Heap} (h : WHx D E a H) (hq : ∀ q, a ≤ q → q ≤ a + 1 → q < H.size → H1[q]? = H[q]?) : WHx D E a H1 := by
  obtain ⟨v, h⟩ := h
  have := h.lt
  exact ⟨v, h.k (hq _ (by omega) (by omega) (by omega)) (hq _ (by omega) (by omega) (by omega))⟩
theorem IAx.k {E : Nat → ClassId} {a : Nat} {H H1 : Heap} (h : IAx E a H) (hq : ∀ q, a ≤ q → q ≤ a → q < H.size → H1[q]? = H[q]?) : IAx E a H1 := by
  obtain ⟨f, h⟩ := h
  exact ⟨f, h.k (hq _ (by omega) (by omega) h.lt)⟩
theorem WRS.k {D : va_G} {E : Nat → ClassId} {a x : Nat} {v : Nat → Nat → Int} {b : Nat → Int} {H H1 : Heap} (h : WRS D E a x v b H) (hq : ∀ q, a ≤ q → q ≤ a + 63 ∧ (q < a + 16 * x ∨ a + 15 + 16 * x < q) → q < H.size → H1[q]? = H[q]?) : WRS D E a x v b H1 := fun k hk hne => (h k hk hne).k (fun q h1 h2 h3 => hq q (by omega) (by omega) h3)
theorem WRS.up {D : va_G} {E : Nat → ClassId} {a x : Nat} {v : Nat → Nat → Int} {b : Nat → Int} {u : Nat → Int} {w : Int} {H : Heap} (h : WRS D E a x v b H) (hw : RW D E (a + 16 * x) 8 u w H) : WRS D E a 4 (uR v x u) (ud b x w) H := fun k hk _ => by
  by_cases e : k = x
  · subst e; unfold uR; rw [if_pos rfl, ud_s]; exact hw
  · unfold uR; rw [if_neg e, ud_n _ _ e]; exact h k hk e
def PWf (o0 : Nat) (rn : Int) : List Value := [.ref (o0 + 1), .ref (o0 + 52), .ref (o0 + 317), .ref (o0 + 326), .ref (o0 + 482), .ref (o0 + 498), .ref (o0 + 499), .ref (o0 + 564), .ref (o0 + 565), .ref (o0 + 566), .ref (o0 + 577), .ref (o0 + 579), .ref (o0 + 581), .int (iI rn)]
/-- what an object holds: rounds; the best values and policy; the worths and which are known; the ladder -/
abbrev PS : Type := Int × ((Nat → Int) × Int) × (Nat → Int) × ((Nat → Nat → Int) × (Nat → Int)) × (Nat → Int) × (Nat × (Nat → Nat → Int) × (Nat → Int) × (Nat → Nat → Int))
def PW (D : va_G) (E : Nat → ClassId) (o0 : Nat) (σ : MS) (rn : Int) (bv : Nat → Int) (bd : Int) (bp : Nat → Int) (wn : Nat → Nat → Int) (wd : Nat → Int) (wq : Nat → Int) (kn : Nat) (V : Nat → Nat → Int) (B : Nat → Int) (pk : Nat → Nat → Int) (H : Heap) : Prop :=
  OA D o0 9 (PWf o0 rn) H ∧ MO D E (o0 + 1) σ H ∧ EQx D E (o0 + 52) H ∧ CHx D E (o0 + 317) H ∧ LD D E (o0 + 326) (kn : Int) V B pk H ∧ RW D E (o0 + 482) 8 bv bd H ∧ IA E (o0 + 498) 6 bp H ∧ QA E 4 (o0 + 499) 4 (fun k => some (o0 + 500 + 16 * k)) H ∧ WRS D E (o0 + 500) 4 wn wd H ∧ ZA E (o0 + 564) 4 wq H ∧ IAx E (o0 + 565) H ∧ FRx D E (o0 + 566) H ∧ WHx D E (o0 + 577) H ∧ WHx D E (o0 + 579) H ∧ WHx D E (o0 + 581) H
section PZB
variable {p : Program} {l : Launch} {e : Env} {R : Room} {s : State} {m : MethodId} {args : Array Value} {below : List Frame} {meth : Method} {c : Code} {H : Heap} {locs : List Loc} {cells slots : Nat} {Q : State → Prop}
variable {cc : ByteArray} {pc : Nat} {ls : Array Slot} {rest : List Value} {D : va_G} {E : Nat → ClassId} {A : Nat → Prop} {H0 : Heap}
theorem pw_zast (hx : p.tables.exec = Jvm.exec) (hb : c.code = cc) (hK : KK D E s) {a n : Nat} {f : Nat → Int} (hA : ZA E a n f H) (hS : va_S A H0 H locs) (hAa : A a) {i x : Int} (j : Nat) (hi : i = (j : Int)) (hj : j < n) (hn : n < 2147483648) (hx01 : x = 0 ∨ x = 1) (d : decode cc pc = .ok (.bastore, 1))
    (kk : ∀ (H1 : Heap) (locs1 : List Loc), ZA E a n (ud f j x) H1 → H1.size = H.size → (∀ q : Nat, q ≠ a → H1[q]? = H[q]?) → va_S A H0 H1 locs1 → W p l e R s m args below meth c H1 locs1 cells slots Q (F0 m (pc + 1) ls rest)) : W p l e R s m args below meth c H locs cells slots Q (F0 m pc ls (.int (iI x) :: .int (iI i) :: .ref a :: rest)) := by
  obtain ⟨h1, h2⟩ := iI_in hi hj hn
  have hK0 : va_K D vwCl (pw_tys E) s := hK
  refine W.zast hx hb hA ((hK0.2 2 _ rfl).1 n (fun j => .int (iI (f j)))) (fun q => by cases q) (by show ¬ (iI i < 0 ∨ (arrV _ _ _).slots.size ≤ _); rw [arrV_size]; exact h1) rfl rfl d fun H1 e z oq => ?_
  refine kk H1 _ ?_ z oq (hS.put z oq hAa)
  show H1[a]? = some (vp_cell _ _)
  rw [e, pw_bit hx01, vp_cell_i, vp_cell_i, arrV_store, h2]
  congr 2
  funext q
  by_cases hq : q = j
  · subst hq
    simp [updV, ud]
  · simp [updV, ud, hq]
end PZB
set_option maxHeartbeats 4000000 in
set_option maxRecDepth 100000 in
/-- refusal(part) -/
theorem c_refusal (l : Launch) (D : va_G) (E : Nat → ClassId) (x : Int) (x1 : -2147483648 ≤ x) (x2 : x ≤ 2147483647) : pw_M rvL l D E yX9_refusal wsX9_refusal ({ frames := 0, cells := 0, slots := 0, locals := 0 } : Room) [.int (iI (x))] (fun H => True) (fun z H => z = (if x = -1 then -2 else -1)) (fun _ => False) (0) (0) := by
  refine pw_of (cc := cX9_refusal) (maxL := 1) (ret := (some .long)) (by decide +kernel) rfl (Nat.le_of_ble_eq_true rfl) ?_
  intro p e s m args below meth c hx hb hr hml hts hown hlocks hini hK hPre ls hl
  have hown : s.vm.findClass RX9 = some m.cls := hown
  have hl : lv_has ls 1 [(0, .int (iI (x)))] := hl
  have hS : va_S (fun _ => False) s.heap s.heap [] := va_S.rf
  have kc_212 := hts (.constantLong RX9 212 (-2)) (by decide +kernel)
  have kc_214 := hts (.constantLong RX9 214 (-1)) (by decide +kernel)
  refine lv_iload_n hx hb dX9_refusal_0 rfl (lv_at hl 0 rfl) ?_
  refine pw_iconst hx hb dX9_refusal_1 ?_
  refine pw_icmp_ne (tgt := 11) hx hb dX9_refusal_2 (by decide) (fun c_2 => ?_) (fun c_2 => ?_)
  · refine pw_ldc2 (z := -1) hx hb hown kc_214 (by decide +kernel) dX9_refusal_11 ?_
    exact pw_lret hx hb hr hlocks hS (by rw [if_neg c_2]) dX9_refusal_14
  · refine pw_ldc2 (z := -2) hx hb hown kc_212 (by decide +kernel) dX9_refusal_5 ?_
    refine lv_goto (tgt := 14) hx hb dX9_refusal_8 (by decide) ?_
    exact pw_lret hx hb hr hlocks hS (by rw [if_pos c_2]) dX9_refusal_14
