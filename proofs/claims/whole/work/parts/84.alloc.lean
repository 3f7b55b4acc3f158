/-! making objects and arrays: rows, and contracts of constructors -/
def AOi (U : State) : Prop := (Cond.arrayOver (.array .int)).before #[] U = true
theorem AOi.moved {u U : State} (hvm : u.vm.Alike U.vm) (h : AOi u) : AOi U := by
  obtain ⟨comp, c, k, h1, h2, h3, h4, h5⟩ := arrayOverA_spec h
  obtain ⟨k', hk', he⟩ := hvm.2.2 _ _ h3
  have hi : (U.vm.classes.findIdx? fun (x : Class) => match x.kind with | .array component _ => component == comp | _ => false) = some c := by
    refine Eq.trans (va_idx_bare U.vm comp).symm ?_
    first | rw [hvm.bare_eq] | rw [← hvm.bare_eq]
    exact (va_idx_bare u.vm comp).trans h2
  have hkind : k'.kind = .array comp (.array .int) := by rw [he]; exact h4
  have f1 : U.vm.findClass (FieldType.array .int).toString = some comp := by rw [hvm.findClass]; exact h1
  have f2 : U.vm.findClass ("[" ++ (FieldType.array .int).toString) = some c := by rw [hvm.findClass]; exact h5
  unfold AOi Cond.before Cond.holds
  simp only [Cond.value]
  rw [f1, Option.bind_some]
  refine (congrArg (fun o : Option Nat => (o.bind (fun c => (U.vm.classes[c]?).map fun (k : Class) => match k.kind with | .array _ ty => decide (ty = FieldType.array .int) && decide (U.vm.findClass ("[" ++ (FieldType.array .int).toString) = some c) | _ => false) == some true)) hi).trans ?_
  simp [hk', hkind, f2]
/-- the arrays of references that the class makes can be made -/
def AOs (U : State) : Prop := va_AO "PolicyWorks$Action" U ∧ va_AO "PolicyWorks$Row" U ∧ va_AO "PolicyWorks$Whole" U ∧ AOi U
theorem AOs.moved {u U : State} (hvm : u.vm.Alike U.vm) (h : AOs u) : AOs U := ⟨va_AO.moved hvm h.1, va_AO.moved hvm h.2.1, va_AO.moved hvm h.2.2.1, AOi.moved hvm h.2.2.2⟩
def pw_N {ρ : Type} (rv : ρ → Option Value) (l : Launch) (D : va_G) (E : Nat → ClassId) (y : MethodName) (ws : List Cond) (rm : Room) (as : List Value) (Pre : Heap → Prop) (Post : ρ → Heap → Prop) (A : Nat → Prop) (mc ms : Nat) : Prop :=
  Met l y ws rm (va_Pc as (fun U => (KK D E U ∧ AOs U) ∧ Pre U.heap)) (pw_Q rv Post A) mc ms A
theorem pw_Nblind {D : va_G} {E : Nat → ClassId} {as : List Value} {Pre : Heap → Prop} : FrameBlind (va_Pc as (fun U => (KK D E U ∧ AOs U) ∧ Pre U.heap)) := fun a U g mk q => by
  obtain ⟨q0, ⟨q1, q3⟩, q2⟩ := q
  exact ⟨q0, ⟨KK.moved (u := U) (U := U.calling g mk a) (Vm.Alike.refl U.vm) q1, AOs.moved (u := U) (U := U.calling g mk a) (Vm.Alike.refl U.vm) q3⟩, q2⟩
theorem pw_Nof {ρ : Type} {rv : ρ → Option Value} {l : Launch} {D : va_G} {E : Nat → ClassId} {y : MethodName} {ws ws' : List Cond} {rm : Room} {as : List Value} {Pre : Heap → Prop} {Post : ρ → Heap → Prop} {A : Nat → Prop} {mc ms : Nat} {cc : ByteArray} {maxL : Nat} {ret : Option FieldType}
    (hy : plainFor y = true) (hw : ws = Cond.code y cc maxL ret :: ws') (hlen : (lg_sl as).length ≤ maxL)
    (body : ∀ (p : Program) (e : Env) (s : State) (m : MethodId) (args : Array Value) (below : List Frame) (meth : Method) (c : Code), p.tables.exec = Jvm.exec → c.code = cc → meth.sig.returnType = ret → c.maxLocals = maxL → (∀ w ∈ ws, w.before args s = true) → s.vm.findClass y.cls = some m.cls → meth.locks = false → meth.name = y.name → KK D E s → AOs s → Pre s.heap →
      ∀ ls : Array Slot, lv_has ls maxL (lv_args 0 as) → W p l e rm s m args below meth c s.heap [] 0 0 (MQ below (pw_Q rv Post A) args s mc ms A) (F0 m 0 ls [])) : pw_N rv l D E y ws rm as Pre Post A mc ms := by
  unfold pw_N Met
  refine MetFree.of_bodySF (code := cc) (maxLocals := maxL) (ret := ret) hy ?_ ?_
  · intro args s m h hn
    obtain ⟨meth, c, h1, h2, h3, h4, h5, h6, -, -⟩ := Cond.code_spec hn (atoms_spec (ws := ws) h _ (by rw [hw]; exact List.mem_cons_self))
    exact ⟨meth, c, h1, h2, h3, h4, h5, h6⟩
  · intro p e s m args below meth c s₁ B hml hv _
    obtain ⟨rfl, ⟨hK, hAO⟩, hp⟩ := hv
    have hh0 : s₁.heap = s.heap := by rw [B.state]; rfl
    have K := body p e s m as.toArray below meth c B.exec B.bytes B.returns hml (atoms_spec (ws := ws) B.pre) (findClass_of_methodNamed B.named) B.notSynchronized (name_of_methodNamed B.named B.method).1 hK hAO hp _ (lv_entry as hlen)
    rw [← lg_entry_eq] at K
    obtain ⟨t, a1, o, b1, b2, b3⟩ := K s₁ hh0 (Stand.of_body B)
    exact ⟨t, o, a1, b1, b2, ⟨b3.1, b3.2⟩⟩
section PWA
variable {p : Program} {l : Launch} {e : Env} {R : Room} {s : State} {m : MethodId} {args : Array Value} {below : List Frame} {meth : Method} {c : Code} {H : Heap} {locs : List Loc} {cells slots : Nat} {Q : State → Prop}
variable {cc : ByteArray} {pc : Nat} {ls : Array Slot} {rest st : List Value} {D : va_G} {E : Nat → ClassId} {A A1 : Nat → Prop} {H0 : Heap}
variable {y : MethodName} {bytes : ByteArray} {maxL nL mc ms n index ci N b : Nat} {ret : Option FieldType} {ws : List Cond} {rm : Room} {Ts : List Cond} {own C : String} {As : List Value} {fs : List Value} {T : u_T} {Pre : Heap → Prop}
theorem pw_callIN {Post : Unit → Heap → Prop} (S : CallFix p m c cc nL s args Ts own) (hM : pw_N rvV l D E y ws rm (.ref b :: As) Pre Post A1 mc ms) (cw : CallB R s args own index y bytes maxL none ws rm mc ms n ∧ y.name = "<init>" ∧ (Cond.instanceMethod y).before args s = true) (hK : KK D E s) (hAO : AOs s) (hpre : Pre H) (hn : As.length = n) (hsize : ls.size = nL) (hst : st = As.reverse ++ .ref b :: rest) (hW : (rest.map fun v => v.category).sum ≤ 8) (d : decode cc pc = .ok (.invokespecial index, 3)) (hf : cells + mc ≤ R.cells ∧ slots + ms ≤ R.slots) (hS : va_S A H0 H locs) (hA : ∀ q, A1 q → A q)
    (kk : ∀ (H1 : Heap) (locs1 : List Loc), Post () H1 → H.size ≤ H1.size → pw_same A1 H H1 → va_S A H0 H1 locs1 → W p l e R s m args below meth c H1 locs1 (cells + mc) (slots + ms) Q (F0 m (pc + 3) ls rest)) : W p l e R s m args below meth c H locs cells slots Q (F0 m pc ls st) :=
  pw_run (va_runI (g := F0 m pc ls st) S hM cw ⟨pw_Nblind, fun U hU hWm => ⟨rfl, ⟨KK.moved hWm.alike hK, AOs.moved hWm.alike hAO⟩, hU ▸ hpre⟩⟩ rfl hn hsize hst (lv_room (m := m) (pc := pc) (ls := ls) (rest := st) hW) d hf) hS hA (fun z H1 locs1 h1 h2 h3 h4 => kk H1 locs1 h1 h2 h3 h4)
theorem pw_cs {cells' slots' : Nat} (h1 : cells = cells') (h2 : slots = slots') {g : JFrame} (k : W p l e R s m args below meth c H locs cells' slots' Q g) : W p l e R s m args below meth c H locs cells slots Q g := by
  subst h1
  subst h2
  exact k
theorem pw_objI (hx : p.tables.exec = Jvm.exec) (hb : c.code = cc) (hml : c.maxLocals = nL) (hown : s.vm.findClass own = some m.cls) (hlink : (Cond.methodLink own index Lib.objectInit).before args s = true) (hinst : (Cond.instanceMethod Lib.objectInit).before args s = true) (hcode : (Cond.code Lib.objectInit ⟨#[0xb1]⟩ 1 none).before args s = true) (hsize : ls.size = nL) {a : Nat} (d : decode cc pc = .ok (.invokespecial index, 3)) (hR : 1 ≤ R.frames ∧ 20 ≤ R.locals)
    (kk : W p l e R s m args below meth c H locs cells slots Q (F0 m (pc + 3) ls [])) : W p l e R s m args below meth c H locs cells slots Q (F0 m pc ls [.ref a]) :=
  W.objInit (g := F0 m pc ls [.ref a]) hx hb hown hlink hinst hcode rfl (by show ls.size = _; omega) rfl d hR.1 (Nat.le_trans (Nat.add_le_add_right (room0 (g := F0 m pc ls [.ref a]) rfl) 12) hR.2) kk
theorem pw_newz (hx : p.tables.exec = Jvm.exec) (hb : c.code = cc) (harr : (Cond.arrayClass .boolean).before args s = true) (hK : KK D E s) (hS : va_S A H0 H locs) {z : Int} (j : Nat) (hz : z = (j : Int)) (hj : j < 65536) (hcells : cells + 1 ≤ R.cells) (hslots : slots + j ≤ R.slots) (d : decode cc pc = .ok (.newarray .boolean, 2))
    (kk : ∀ (H1 : Heap), ZA E H.size j (fun _ => 0) H1 → H1.size = H.size + 1 → (∀ q : Nat, q < H.size → H1[q]? = H[q]?) → va_S A H0 H1 locs → W p l e R s m args below meth c H1 locs (cells + 1) (slots + j) Q (F0 m (pc + 2) ls (.ref H.size :: rest))) : W p l e R s m args below meth c H locs cells slots Q (F0 m pc ls (.int (iI z) :: rest)) := by
  have hK0 : va_K D vwCl (pw_tys E) s := hK
  subst hz
  have hnn : ¬ iI (j : Int) < 0 := by rw [← iI_nI]; exact nI_pos (by omega)
  refine va_newaK hx hb (atype := .boolean) harr rfl d rfl hnn (N := j) (by rw [← iI_nI]; exact nI_clamp (by omega)) (by show j * 1 ≤ _; omega) hcells hslots rfl fun H1 cA e1 z1 o1 _ hNm => ?_
  have hcA : cA = E 2 := Option.some.inj (hNm.symm.trans (hK0.2 2 _ rfl).2)
  subst hcA
  exact kk H1 e1 z1 o1 ⟨Nat.le_trans hS.1 (by omega), fun x h1 h2 => (o1 x (Nat.lt_of_lt_of_le h1 hS.1)).trans (hS.2.1 x h1 h2), hS.2.2⟩
theorem pw_newq (hx : p.tables.exec = Jvm.exec) (hb : c.code = cc) (hown : s.vm.findClass own = some m.cls) (hcl : (Cond.classLink own index C).before args s = true) (hover : va_AO C s) (hK : KK D E s) (hS : va_S A H0 H locs) (k0 : Nat) (ht : (pw_tys E)[k0]? = some (E k0, .object C)) {z : Int} (j : Nat) (hz : z = (j : Int)) (hj : j < 65536) (hcells : cells + 1 ≤ R.cells) (hslots : slots + j ≤ R.slots) (d : decode cc pc = .ok (.anewarray index, 3))
    (kk : ∀ (H1 : Heap), QA E k0 H.size j (fun _ => none) H1 → H1.size = H.size + 1 → (∀ q : Nat, q < H.size → H1[q]? = H[q]?) → va_S A H0 H1 locs → W p l e R s m args below meth c H1 locs (cells + 1) (slots + j) Q (F0 m (pc + 3) ls (.ref H.size :: rest))) : W p l e R s m args below meth c H locs cells slots Q (F0 m pc ls (.int (iI z) :: rest)) := by
  have hK0 : va_K D vwCl (pw_tys E) s := hK
  subst hz
  have hnn : ¬ iI (j : Int) < 0 := by rw [← iI_nI]; exact nI_pos (by omega)
  have hcl2 : (iI (j : Int)).toNatClampNeg = j := by rw [← iI_nI]; exact nI_clamp (by omega)
  refine W.anew (g := F0 m pc ls (.int (iI (j : Int)) :: rest)) hx hb hown hcl (va_AO.use hover) rfl d rfl hnn (by rw [hcl2]; omega) hcells (by rw [hcl2]; exact hslots) fun cA kA comp f1 f2 f3 f4 => ?_
  obtain ⟨kA', comp', r1, r2, r3, r4⟩ := (hK0.2 k0 _ ht).2
  have hcA : cA = E k0 := Option.some.inj (f1.symm.trans r4)
  subst hcA
  rw [hcl2]
  generalize hH1 : H.push ({ cls := E k0, slots := Array.replicate j .null, vm := .none } : Cell) = H1
  have z1 : H1.size = H.size + 1 := by rw [← hH1, Array.size_push]
  have e1 : H1[H.size]? = some (vp_cell (E k0) (j, .inr (.inr (.inr (.inr (fun _ => none)))))) := by rw [← hH1, Array.getElem?_push_size, vp_cell_q, ← arrV_new]; rfl
  have o1 : ∀ q : Nat, q < H.size → H1[q]? = H[q]? := fun q hq => by rw [← hH1, Array.getElem?_push, if_neg (Nat.ne_of_lt hq)]
  exact kk H1 e1 z1 o1 ⟨Nat.le_trans hS.1 (by omega), fun x h1 h2 => (o1 x (Nat.lt_of_lt_of_le h1 hS.1)).trans (hS.2.1 x h1 h2), hS.2.2⟩
theorem pw_qast (hx : p.tables.exec = Jvm.exec) (hb : c.code = cc) (hK : KK D E s) {a k0 v : Nat} {f : Nat → Option Nat} {r : vw_C} (hA : QA E k0 a n f H) (ht : (pw_tys E)[k0]? = some (E k0, .object r.1)) (hS : va_S A H0 H locs) (hAa : A a) (hO : OA D v ci fs H) (hc : vwCl[ci]? = some r) {i : Int} (j : Nat) (hi : i = (j : Int)) (hj : j < n) (hn : n < 2147483648) (d : decode cc pc = .ok (.aastore, 1))
    (kk : ∀ (H1 : Heap) (locs1 : List Loc), QA E k0 a n (uq f j (some v)) H1 → H1.size = H.size → (∀ q : Nat, q ≠ a → H1[q]? = H[q]?) → va_S A H0 H1 locs1 → W p l e R s m args below meth c H1 locs1 cells slots Q (F0 m (pc + 1) ls rest)) : W p l e R s m args below meth c H locs cells slots Q (F0 m pc ls (.ref v :: .int (iI i) :: .ref a :: rest)) := by
  obtain ⟨h1, h2⟩ := iI_in hi hj hn
  have hK0 : va_K D vwCl (pw_tys E) s := hK
  have h0 : ¬ iI i < 0 := fun q => h1 (Or.inl q)
  obtain ⟨r', hr', cellV, g1, g2, g3, -⟩ := hO
  have hcls := (hK0.1 ci r hc).2
  obtain ⟨kA, comp, k1, k2, k3, -⟩ := (hK0.2 k0 _ ht).2
  have hcomp : comp = D.1 ci := Option.some.inj (k3.symm.trans hcls.1)
  subst hcomp
  obtain ⟨kC, hkC, -⟩ := hcls.2
  refine W.aast (g := F0 m pc ls (.ref v :: .int (iI i) :: .ref a :: rest)) hx hb hA (fun q h => by cases h) (fun h => by cases h) k1 k2 rfl hkC ⟨h0, by show _ < (arrV _ _ _).slots.size; rw [arrV_size, h2]; exact hj⟩ g1 (fun q h => by rw [g3] at h; cases h) (by rw [g2]; exact hkC) (by rw [g2]; exact va_assign hcls) rfl rfl d fun H1 e z oq => ?_
  refine kk H1 _ ?_ z oq (hS.put z oq hAa)
  show H1[a]? = some (vp_cell _ _)
  rw [e, vp_cell_q, vp_cell_q, arrV_store, h2]
  congr 2
  funext q
  by_cases hq : q = j
  · subst hq
    simp [updV, uq, va_rf]
  · simp [updV, uq, hq]
end PWA
