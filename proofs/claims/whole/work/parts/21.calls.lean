/-! contracts in one form: what a method asks of the heap, what it answers, what it leaves -/
abbrev rvV : Unit → Option Value := fun _ => none
abbrev rvI : Int → Option Value := fun z => some (.int (iI z))
abbrev rvL : Int → Option Value := fun z => some (.long (lI z))
abbrev rvR : Nat → Option Value := fun a => some (.ref a)
def pw_Q {ρ : Type} (rv : ρ → Option Value) (Post : ρ → Heap → Prop) (A : Nat → Prop) : Array Value → State → Outcome → State → Prop := fun _ st oc t => (∃ z : ρ, oc = .returned (rv z) ∧ Post z t.heap) ∧ va_F A st t
def pw_M {ρ : Type} (rv : ρ → Option Value) (l : Launch) (D : va_G) (E : Nat → ClassId) (y : MethodName) (ws : List Cond) (rm : Room) (as : List Value) (Pre : Heap → Prop) (Post : ρ → Heap → Prop) (A : Nat → Prop) (mc ms : Nat) : Prop :=
  Met l y ws rm (va_Pc as (fun U => KK D E U ∧ Pre U.heap)) (pw_Q rv Post A) mc ms A
theorem pw_blind {D : va_G} {E : Nat → ClassId} {as : List Value} {Pre : Heap → Prop} : FrameBlind (va_Pc as (fun U => KK D E U ∧ Pre U.heap)) := fun a U g mk q => by
  obtain ⟨q0, q1, q2⟩ := q
  exact ⟨q0, KK.moved (u := U) (U := U.calling g mk a) (Vm.Alike.refl U.vm) q1, q2⟩
theorem pw_of {ρ : Type} {rv : ρ → Option Value} {l : Launch} {D : va_G} {E : Nat → ClassId} {y : MethodName} {ws ws' : List Cond} {rm : Room} {as : List Value} {Pre : Heap → Prop} {Post : ρ → Heap → Prop} {A : Nat → Prop} {mc ms : Nat} {cc : ByteArray} {maxL : Nat} {ret : Option FieldType}
    (hy : plainFor y = true) (hw : ws = Cond.code y cc maxL ret :: ws') (hlen : (lg_sl as).length ≤ maxL)
    (body : ∀ (p : Program) (e : Env) (s : State) (m : MethodId) (args : Array Value) (below : List Frame) (meth : Method) (c : Code), p.tables.exec = Jvm.exec → c.code = cc → meth.sig.returnType = ret → c.maxLocals = maxL → (∀ w ∈ ws, w.before args s = true) → s.vm.findClass y.cls = some m.cls → meth.locks = false → meth.name = y.name → KK D E s → Pre s.heap →
      ∀ ls : Array Slot, lv_has ls maxL (lv_args 0 as) → W p l e rm s m args below meth c s.heap [] 0 0 (MQ below (pw_Q rv Post A) args s mc ms A) (F0 m 0 ls [])) : pw_M rv l D E y ws rm as Pre Post A mc ms := by
  unfold pw_M Met
  refine MetFree.of_bodySF (code := cc) (maxLocals := maxL) (ret := ret) hy ?_ ?_
  · intro args s m h hn
    obtain ⟨meth, c, h1, h2, h3, h4, h5, h6, -, -⟩ := Cond.code_spec hn (atoms_spec (ws := ws) h _ (by rw [hw]; exact List.mem_cons_self))
    exact ⟨meth, c, h1, h2, h3, h4, h5, h6⟩
  · intro p e s m args below meth c s₁ B hml hv _
    obtain ⟨rfl, hK, hp⟩ := hv
    have hh0 : s₁.heap = s.heap := by rw [B.state]; rfl
    have K := body p e s m as.toArray below meth c B.exec B.bytes B.returns hml (atoms_spec (ws := ws) B.pre) (findClass_of_methodNamed B.named) B.notSynchronized (name_of_methodNamed B.named B.method).1 hK hp _ (lv_entry as hlen)
    rw [← lg_entry_eq] at K
    obtain ⟨t, a1, o, b1, b2, b3⟩ := K s₁ hh0 (Stand.of_body B)
    exact ⟨t, o, a1, b1, b2, ⟨b3.1, b3.2⟩⟩
section PWC
variable {p : Program} {l : Launch} {e : Env} {R : Room} {s : State} {m : MethodId} {args : Array Value} {below : List Frame} {meth : Method} {c : Code} {H : Heap} {locs : List Loc} {cells slots : Nat} {Q : State → Prop}
variable {cc : ByteArray} {pc : Nat} {ls : Array Slot} {rest st : List Value} {D : va_G} {E : Nat → ClassId} {A A1 : Nat → Prop} {H0 : Heap}
variable {y : MethodName} {bytes : ByteArray} {maxL nL mc ms n index ci N b : Nat} {ret : Option FieldType} {ws : List Cond} {rm : Room} {Ts : List Cond} {own C : String} {As : List Value} {fs : List Value} {T : u_T} {Pre : Heap → Prop}
theorem pw_vret {Post : Unit → Heap → Prop} (hx : p.tables.exec = Jvm.exec) (hb : c.code = cc) (hr : meth.sig.returnType = none) (hlocks : meth.locks = false) (hS : va_S A s.heap H locs) (hp : Post () H) (d : decode cc pc = .ok (.return_, 1)) : W p l e R s m args below meth c H locs cells slots (MQ below (pw_Q rvV Post A) args s cells slots A) (F0 m pc ls []) :=
  W.vret hx hb hr (fun t ht _ => ⟨⟨(), rfl, by rw [ht]; exact hp⟩, hS.F ht⟩) hS.2.2 d hlocks
theorem pw_iret {Post : Int → Heap → Prop} {z : Int} (hx : p.tables.exec = Jvm.exec) (hb : c.code = cc) (hr : meth.sig.returnType = some .int) (hlocks : meth.locks = false) (hS : va_S A s.heap H locs) (hp : Post z H) (d : decode cc pc = .ok (.ireturn, 1)) : W p l e R s m args below meth c H locs cells slots (MQ below (pw_Q rvI Post A) args s cells slots A) (F0 m pc ls [.int (iI z)]) :=
  W.iret hx hb hr (fun t ht _ => ⟨⟨z, rfl, by rw [ht]; exact hp⟩, hS.F ht⟩) hS.2.2 d hlocks
theorem pw_bit {z : Int} (hz : z = 0 ∨ z = 1) : narrow .boolean (.int (iI z)) = .int (iI z) := by
  rcases hz with h | h <;> subst h <;> decide +kernel
theorem pw_zret {Post : Int → Heap → Prop} {z : Int} (hx : p.tables.exec = Jvm.exec) (hb : c.code = cc) (hr : meth.sig.returnType = some .boolean) (hlocks : meth.locks = false) (hS : va_S A s.heap H locs) (hz : z = 0 ∨ z = 1) (hp : Post z H) (d : decode cc pc = .ok (.ireturn, 1)) : W p l e R s m args below meth c H locs cells slots (MQ below (pw_Q rvI Post A) args s cells slots A) (F0 m pc ls [.int (iI z)]) :=
  W.zret hx hb hr (pw_bit hz) (fun t ht _ => ⟨⟨z, rfl, by rw [ht]; exact hp⟩, hS.F ht⟩) hS.2.2 d hlocks
theorem pw_lret {Post : Int → Heap → Prop} {z : Int} (hx : p.tables.exec = Jvm.exec) (hb : c.code = cc) (hr : meth.sig.returnType = some .long) (hlocks : meth.locks = false) (hS : va_S A s.heap H locs) (hp : Post z H) (d : decode cc pc = .ok (.lreturn, 1)) : W p l e R s m args below meth c H locs cells slots (MQ below (pw_Q rvL Post A) args s cells slots A) (F0 m pc ls [.long (lI z)]) :=
  W.lret hx hb hr (fun t ht _ => ⟨⟨z, rfl, by rw [ht]; exact hp⟩, hS.F ht⟩) hS.2.2 d hlocks
theorem pw_aret {Post : Nat → Heap → Prop} {a : Nat} {cn : String} (hx : p.tables.exec = Jvm.exec) (hb : c.code = cc) (hr : meth.sig.returnType = some (.object cn)) (hlocks : meth.locks = false) (hS : va_S A s.heap H locs) (hp : Post a H) (d : decode cc pc = .ok (.areturn, 1)) : W p l e R s m args below meth c H locs cells slots (MQ below (pw_Q rvR Post A) args s cells slots A) (F0 m pc ls [.ref a]) :=
  W.aret hx hb hr (Or.inl ⟨_, rfl⟩) (Or.inr ⟨_, rfl⟩) (fun t ht _ => ⟨⟨a, rfl, by rw [ht]; exact hp⟩, hS.F ht⟩) hS.2.2 d hlocks
/-- what is old and not freed stays -/
abbrev pw_same (A1 : Nat → Prop) (H H1 : Heap) : Prop := ∀ q : Nat, q < H.size → ¬ A1 q → H1[q]? = H[q]?
theorem pw_run {ρ : Type} {rv : ρ → Option Value} {Post : ρ → Heap → Prop} {g : JFrame} {a : Array Value} (hr : va_Run p l e R s m args below meth c H locs cells slots mc ms g rest (pw_Q rv Post A1 a) A1) (hS : va_S A H0 H locs) (hA : ∀ q, A1 q → A q)
    (kk : ∀ (z : ρ) (H1 : Heap) (locs1 : List Loc), Post z H1 → H.size ≤ H1.size → pw_same A1 H H1 → va_S A H0 H1 locs1 → W p l e R s m args below meth c H1 locs1 (cells + mc) (slots + ms) Q { g with pc := g.pc + 3, stack := (rv z).toList ++ rest }) : W p l e R s m args below meth c H locs cells slots Q g := by
  intro T hT X
  obtain ⟨v, st₀, t, T', L, h0, X', hL, e1, e2, ⟨⟨z, hv, hp⟩, hz, hk⟩, st⟩ := hr T hT X
  cases hv
  rw [h0] at hz hk
  obtain ⟨t2, a1, b1⟩ := kk z T'.heap (locs ++ L) (by rw [e1]; exact hp) (by rw [e1]; exact hz) (fun q h1 h2 => by rw [e1]; exact hk q h1 h2)
    ⟨Nat.le_trans hS.1 (by rw [e1]; exact hz), fun q h1 h2 => by rw [e1, hk q (Nat.lt_of_lt_of_le h1 hS.1) (fun z => h2 (hA q z))]; exact hS.2.1 q h1 h2, fun q hq => by
      rcases List.mem_append.mp hq with h | h
      · exact hS.2.2 q h
      · exact hA _ (hL q h)⟩ T' rfl X'
  exact ⟨t2, st t2 a1, b1⟩
theorem pw_callVv {Post : Unit → Heap → Prop} (S : CallFix p m c cc nL s args Ts own) (hM : pw_M rvV l D E y ws rm (.ref b :: As) Pre Post A1 mc ms) (cw : CallW R s args own C index y bytes maxL ret ws rm mc ms n) (hK : KK D E s) (hO : OA D b ci fs H) (hc : vwCl[ci]? = some (C, T, N)) (hpre : Pre H) (hn : As.length = n) (hsize : ls.size = nL) (hst : st = As.reverse ++ .ref b :: rest) (hW : (rest.map fun v => v.category).sum ≤ 8) (d : decode cc pc = .ok (.invokevirtual index, 3)) (hf : cells + mc ≤ R.cells ∧ slots + ms ≤ R.slots) (hS : va_S A H0 H locs) (hA : ∀ q, A1 q → A q)
    (kk : ∀ (H1 : Heap) (locs1 : List Loc), Post () H1 → H.size ≤ H1.size → pw_same A1 H H1 → va_S A H0 H1 locs1 → W p l e R s m args below meth c H1 locs1 (cells + mc) (slots + ms) Q (F0 m (pc + 3) ls (rest))) : W p l e R s m args below meth c H locs cells slots Q (F0 m pc ls st) :=
  pw_run (va_runV (g := F0 m pc ls st) S hM cw ⟨pw_blind, va_recv (D := D) (tys := pw_tys E) (q0 := 0) (fs := fs) hK (pw_one hO) hc rfl, fun U hU hWm => ⟨rfl, KK.moved hWm.alike hK, hU ▸ hpre⟩⟩ rfl hn hsize hst (lv_room (m := m) (pc := pc) (ls := ls) (rest := st) hW) d hf) hS hA (fun z H1 locs1 h1 h2 h3 h4 => kk H1 locs1 h1 h2 h3 h4)
theorem pw_callSv {Post : Unit → Heap → Prop} (S : CallFix p m c cc nL s args Ts own) (hM : pw_M rvV l D E y ws rm As Pre Post A1 mc ms) (cw : CallB R s args own index y bytes maxL ret ws rm mc ms n ∧ (Cond.static y).before args s = true) (hK : KK D E s) (hpre : Pre H) (hn : As.length = n) (hsize : ls.size = nL) (hst : st = As.reverse ++ rest) (hW : (rest.map fun v => v.category).sum ≤ 8) (d : decode cc pc = .ok (.invokestatic index, 3)) (hf : cells + mc ≤ R.cells ∧ slots + ms ≤ R.slots) (hS : va_S A H0 H locs) (hA : ∀ q, A1 q → A q)
    (kk : ∀ (H1 : Heap) (locs1 : List Loc), Post () H1 → H.size ≤ H1.size → pw_same A1 H H1 → va_S A H0 H1 locs1 → W p l e R s m args below meth c H1 locs1 (cells + mc) (slots + ms) Q (F0 m (pc + 3) ls (rest))) : W p l e R s m args below meth c H locs cells slots Q (F0 m pc ls st) :=
  pw_run (va_runS (g := F0 m pc ls st) S hM cw ⟨pw_blind, fun U hU hWm => ⟨rfl, KK.moved hWm.alike hK, hU ▸ hpre⟩⟩ rfl hn hsize hst (lv_room (m := m) (pc := pc) (ls := ls) (rest := st) hW) d hf) hS hA (fun z H1 locs1 h1 h2 h3 h4 => kk H1 locs1 h1 h2 h3 h4)
theorem pw_callI {Post : Unit → Heap → Prop} (S : CallFix p m c cc nL s args Ts own) (hM : pw_M rvV l D E y ws rm (.ref b :: As) Pre Post A1 mc ms) (cw : CallB R s args own index y bytes maxL none ws rm mc ms n ∧ y.name = "<init>" ∧ (Cond.instanceMethod y).before args s = true) (hK : KK D E s) (hpre : Pre H) (hn : As.length = n) (hsize : ls.size = nL) (hst : st = As.reverse ++ .ref b :: rest) (hW : (rest.map fun v => v.category).sum ≤ 8) (d : decode cc pc = .ok (.invokespecial index, 3)) (hf : cells + mc ≤ R.cells ∧ slots + ms ≤ R.slots) (hS : va_S A H0 H locs) (hA : ∀ q, A1 q → A q)
    (kk : ∀ (H1 : Heap) (locs1 : List Loc), Post () H1 → H.size ≤ H1.size → pw_same A1 H H1 → va_S A H0 H1 locs1 → W p l e R s m args below meth c H1 locs1 (cells + mc) (slots + ms) Q (F0 m (pc + 3) ls (rest))) : W p l e R s m args below meth c H locs cells slots Q (F0 m pc ls st) :=
  pw_run (va_runI (g := F0 m pc ls st) S hM cw ⟨pw_blind, fun U hU hWm => ⟨rfl, KK.moved hWm.alike hK, hU ▸ hpre⟩⟩ rfl hn hsize hst (lv_room (m := m) (pc := pc) (ls := ls) (rest := st) hW) d hf) hS hA (fun z H1 locs1 h1 h2 h3 h4 => kk H1 locs1 h1 h2 h3 h4)
theorem pw_callVi {Post : Int → Heap → Prop} (S : CallFix p m c cc nL s args Ts own) (hM : pw_M rvI l D E y ws rm (.ref b :: As) Pre Post A1 mc ms) (cw : CallW R s args own C index y bytes maxL ret ws rm mc ms n) (hK : KK D E s) (hO : OA D b ci fs H) (hc : vwCl[ci]? = some (C, T, N)) (hpre : Pre H) (hn : As.length = n) (hsize : ls.size = nL) (hst : st = As.reverse ++ .ref b :: rest) (hW : (rest.map fun v => v.category).sum ≤ 8) (d : decode cc pc = .ok (.invokevirtual index, 3)) (hf : cells + mc ≤ R.cells ∧ slots + ms ≤ R.slots) (hS : va_S A H0 H locs) (hA : ∀ q, A1 q → A q)
    (kk : ∀ (z : Int) (H1 : Heap) (locs1 : List Loc), Post z H1 → H.size ≤ H1.size → pw_same A1 H H1 → va_S A H0 H1 locs1 → W p l e R s m args below meth c H1 locs1 (cells + mc) (slots + ms) Q (F0 m (pc + 3) ls (.int (iI z) :: rest))) : W p l e R s m args below meth c H locs cells slots Q (F0 m pc ls st) :=
  pw_run (va_runV (g := F0 m pc ls st) S hM cw ⟨pw_blind, va_recv (D := D) (tys := pw_tys E) (q0 := 0) (fs := fs) hK (pw_one hO) hc rfl, fun U hU hWm => ⟨rfl, KK.moved hWm.alike hK, hU ▸ hpre⟩⟩ rfl hn hsize hst (lv_room (m := m) (pc := pc) (ls := ls) (rest := st) hW) d hf) hS hA (fun z H1 locs1 h1 h2 h3 h4 => kk z H1 locs1 h1 h2 h3 h4)
theorem pw_callSi {Post : Int → Heap → Prop} (S : CallFix p m c cc nL s args Ts own) (hM : pw_M rvI l D E y ws rm As Pre Post A1 mc ms) (cw : CallB R s args own index y bytes maxL ret ws rm mc ms n ∧ (Cond.static y).before args s = true) (hK : KK D E s) (hpre : Pre H) (hn : As.length = n) (hsize : ls.size = nL) (hst : st = As.reverse ++ rest) (hW : (rest.map fun v => v.category).sum ≤ 8) (d : decode cc pc = .ok (.invokestatic index, 3)) (hf : cells + mc ≤ R.cells ∧ slots + ms ≤ R.slots) (hS : va_S A H0 H locs) (hA : ∀ q, A1 q → A q)
    (kk : ∀ (z : Int) (H1 : Heap) (locs1 : List Loc), Post z H1 → H.size ≤ H1.size → pw_same A1 H H1 → va_S A H0 H1 locs1 → W p l e R s m args below meth c H1 locs1 (cells + mc) (slots + ms) Q (F0 m (pc + 3) ls (.int (iI z) :: rest))) : W p l e R s m args below meth c H locs cells slots Q (F0 m pc ls st) :=
  pw_run (va_runS (g := F0 m pc ls st) S hM cw ⟨pw_blind, fun U hU hWm => ⟨rfl, KK.moved hWm.alike hK, hU ▸ hpre⟩⟩ rfl hn hsize hst (lv_room (m := m) (pc := pc) (ls := ls) (rest := st) hW) d hf) hS hA (fun z H1 locs1 h1 h2 h3 h4 => kk z H1 locs1 h1 h2 h3 h4)
theorem pw_callVl {Post : Int → Heap → Prop} (S : CallFix p m c cc nL s args Ts own) (hM : pw_M rvL l D E y ws rm (.ref b :: As) Pre Post A1 mc ms) (cw : CallW R s args own C index y bytes maxL ret ws rm mc ms n) (hK : KK D E s) (hO : OA D b ci fs H) (hc : vwCl[ci]? = some (C, T, N)) (hpre : Pre H) (hn : As.length = n) (hsize : ls.size = nL) (hst : st = As.reverse ++ .ref b :: rest) (hW : (rest.map fun v => v.category).sum ≤ 8) (d : decode cc pc = .ok (.invokevirtual index, 3)) (hf : cells + mc ≤ R.cells ∧ slots + ms ≤ R.slots) (hS : va_S A H0 H locs) (hA : ∀ q, A1 q → A q)
    (kk : ∀ (z : Int) (H1 : Heap) (locs1 : List Loc), Post z H1 → H.size ≤ H1.size → pw_same A1 H H1 → va_S A H0 H1 locs1 → W p l e R s m args below meth c H1 locs1 (cells + mc) (slots + ms) Q (F0 m (pc + 3) ls (.long (lI z) :: rest))) : W p l e R s m args below meth c H locs cells slots Q (F0 m pc ls st) :=
  pw_run (va_runV (g := F0 m pc ls st) S hM cw ⟨pw_blind, va_recv (D := D) (tys := pw_tys E) (q0 := 0) (fs := fs) hK (pw_one hO) hc rfl, fun U hU hWm => ⟨rfl, KK.moved hWm.alike hK, hU ▸ hpre⟩⟩ rfl hn hsize hst (lv_room (m := m) (pc := pc) (ls := ls) (rest := st) hW) d hf) hS hA (fun z H1 locs1 h1 h2 h3 h4 => kk z H1 locs1 h1 h2 h3 h4)
theorem pw_callSl {Post : Int → Heap → Prop} (S : CallFix p m c cc nL s args Ts own) (hM : pw_M rvL l D E y ws rm As Pre Post A1 mc ms) (cw : CallB R s args own index y bytes maxL ret ws rm mc ms n ∧ (Cond.static y).before args s = true) (hK : KK D E s) (hpre : Pre H) (hn : As.length = n) (hsize : ls.size = nL) (hst : st = As.reverse ++ rest) (hW : (rest.map fun v => v.category).sum ≤ 8) (d : decode cc pc = .ok (.invokestatic index, 3)) (hf : cells + mc ≤ R.cells ∧ slots + ms ≤ R.slots) (hS : va_S A H0 H locs) (hA : ∀ q, A1 q → A q)
    (kk : ∀ (z : Int) (H1 : Heap) (locs1 : List Loc), Post z H1 → H.size ≤ H1.size → pw_same A1 H H1 → va_S A H0 H1 locs1 → W p l e R s m args below meth c H1 locs1 (cells + mc) (slots + ms) Q (F0 m (pc + 3) ls (.long (lI z) :: rest))) : W p l e R s m args below meth c H locs cells slots Q (F0 m pc ls st) :=
  pw_run (va_runS (g := F0 m pc ls st) S hM cw ⟨pw_blind, fun U hU hWm => ⟨rfl, KK.moved hWm.alike hK, hU ▸ hpre⟩⟩ rfl hn hsize hst (lv_room (m := m) (pc := pc) (ls := ls) (rest := st) hW) d hf) hS hA (fun z H1 locs1 h1 h2 h3 h4 => kk z H1 locs1 h1 h2 h3 h4)
theorem pw_callVr {Post : Nat → Heap → Prop} (S : CallFix p m c cc nL s args Ts own) (hM : pw_M rvR l D E y ws rm (.ref b :: As) Pre Post A1 mc ms) (cw : CallW R s args own C index y bytes maxL ret ws rm mc ms n) (hK : KK D E s) (hO : OA D b ci fs H) (hc : vwCl[ci]? = some (C, T, N)) (hpre : Pre H) (hn : As.length = n) (hsize : ls.size = nL) (hst : st = As.reverse ++ .ref b :: rest) (hW : (rest.map fun v => v.category).sum ≤ 8) (d : decode cc pc = .ok (.invokevirtual index, 3)) (hf : cells + mc ≤ R.cells ∧ slots + ms ≤ R.slots) (hS : va_S A H0 H locs) (hA : ∀ q, A1 q → A q)
    (kk : ∀ (z : Nat) (H1 : Heap) (locs1 : List Loc), Post z H1 → H.size ≤ H1.size → pw_same A1 H H1 → va_S A H0 H1 locs1 → W p l e R s m args below meth c H1 locs1 (cells + mc) (slots + ms) Q (F0 m (pc + 3) ls (.ref z :: rest))) : W p l e R s m args below meth c H locs cells slots Q (F0 m pc ls st) :=
  pw_run (va_runV (g := F0 m pc ls st) S hM cw ⟨pw_blind, va_recv (D := D) (tys := pw_tys E) (q0 := 0) (fs := fs) hK (pw_one hO) hc rfl, fun U hU hWm => ⟨rfl, KK.moved hWm.alike hK, hU ▸ hpre⟩⟩ rfl hn hsize hst (lv_room (m := m) (pc := pc) (ls := ls) (rest := st) hW) d hf) hS hA (fun z H1 locs1 h1 h2 h3 h4 => kk z H1 locs1 h1 h2 h3 h4)
theorem pw_callSr {Post : Nat → Heap → Prop} (S : CallFix p m c cc nL s args Ts own) (hM : pw_M rvR l D E y ws rm As Pre Post A1 mc ms) (cw : CallB R s args own index y bytes maxL ret ws rm mc ms n ∧ (Cond.static y).before args s = true) (hK : KK D E s) (hpre : Pre H) (hn : As.length = n) (hsize : ls.size = nL) (hst : st = As.reverse ++ rest) (hW : (rest.map fun v => v.category).sum ≤ 8) (d : decode cc pc = .ok (.invokestatic index, 3)) (hf : cells + mc ≤ R.cells ∧ slots + ms ≤ R.slots) (hS : va_S A H0 H locs) (hA : ∀ q, A1 q → A q)
    (kk : ∀ (z : Nat) (H1 : Heap) (locs1 : List Loc), Post z H1 → H.size ≤ H1.size → pw_same A1 H H1 → va_S A H0 H1 locs1 → W p l e R s m args below meth c H1 locs1 (cells + mc) (slots + ms) Q (F0 m (pc + 3) ls (.ref z :: rest))) : W p l e R s m args below meth c H locs cells slots Q (F0 m pc ls st) :=
  pw_run (va_runS (g := F0 m pc ls st) S hM cw ⟨pw_blind, fun U hU hWm => ⟨rfl, KK.moved hWm.alike hK, hU ▸ hpre⟩⟩ rfl hn hsize hst (lv_room (m := m) (pc := pc) (ls := ls) (rest := st) hW) d hf) hS hA (fun z H1 locs1 h1 h2 h3 h4 => kk z H1 locs1 h1 h2 h3 h4)
theorem pw_new (hx : p.tables.exec = Jvm.exec) (hb : c.code = cc) (hts : ∀ w ∈ Ts, w.before args s = true) (hin : ∀ w ∈ u_ws C T N, w ∈ Ts) (ty : Nat → FieldType) (hty : ∀ k, k < N → parseFieldDescriptor (T k).2.2.1 = some (ty k)) (hown : s.vm.findClass own = some m.cls) (hcl : (Cond.classLink own index C).before args s = true) (hinst : (Cond.instantiable C N).before args s = true) (hini : (Cond.initialized C).before args s = true)
    (hK : KK D E s) (hS : va_S A H0 H locs) (hc : vwCl[ci]? = some (C, T, N)) (fs : List Value) (hfs : ∀ j, j < N → defaultValue (ty j) = vp_V fs j) (hcells : cells + 1 ≤ R.cells) (hslots : slots + N ≤ R.slots) (d : decode cc pc = .ok (.new index, 3))
    (kk : ∀ (H1 : Heap), OA D H.size ci fs H1 → H1.size = H.size + 1 → (∀ q : Nat, q < H.size → H1[q]? = H[q]?) → va_S A H0 H1 locs → W p l e R s m args below meth c H1 locs (cells + 1) (slots + N) Q (F0 m (pc + 3) ls (.ref H.size :: rest))) : W p l e R s m args below meth c H locs cells slots Q (F0 m pc ls rest) := by
  have hK0 : va_K D vwCl (pw_tys E) s := hK
  have hKn := hK0.1 ci _ hc
  refine W.newcK hx hb hown hcl hinst hini rfl d hcells hslots hKn.2.1 rfl fun H1 kC hkC e1 z1 o1 => ?_
  exact kk H1 ⟨_, hc, (u_born ty hts hin hKn hkC e1 hty).to hfs⟩ z1 o1 ⟨Nat.le_trans hS.1 (by omega), fun x h1 h2 => (o1 x (Nat.lt_of_lt_of_le h1 hS.1)).trans (hS.2.1 x h1 h2), hS.2.2⟩
theorem pw_newl (hx : p.tables.exec = Jvm.exec) (hb : c.code = cc) (harr : (Cond.arrayClass .long).before args s = true) (hK : KK D E s) (hS : va_S A H0 H locs) {z : Int} (j : Nat) (hz : z = (j : Int)) (hj : j < 65536) (hcells : cells + 1 ≤ R.cells) (hslots : slots + j ≤ R.slots) (d : decode cc pc = .ok (.newarray .long, 2))
    (kk : ∀ (H1 : Heap), LA E H.size j (fun _ => 0) H1 → H1.size = H.size + 1 → (∀ q : Nat, q < H.size → H1[q]? = H[q]?) → va_S A H0 H1 locs → W p l e R s m args below meth c H1 locs (cells + 1) (slots + j) Q (F0 m (pc + 2) ls (.ref H.size :: rest))) : W p l e R s m args below meth c H locs cells slots Q (F0 m pc ls (.int (iI z) :: rest)) := by
  have hK0 : va_K D vwCl (pw_tys E) s := hK
  subst hz
  have hnn : ¬ iI (j : Int) < 0 := by rw [← iI_nI]; exact nI_pos (by omega)
  refine va_newaK hx hb (atype := .long) harr rfl d rfl hnn (N := j) (by rw [← iI_nI]; exact nI_clamp (by omega)) (by show j * 8 ≤ _; omega) hcells hslots rfl fun H1 cA e1 z1 o1 _ hNm => ?_
  have hcA : cA = E 1 := Option.some.inj (hNm.symm.trans (hK0.2 1 _ rfl).2)
  subst hcA
  exact kk H1 e1 z1 o1 ⟨Nat.le_trans hS.1 (by omega), fun x h1 h2 => (o1 x (Nat.lt_of_lt_of_le h1 hS.1)).trans (hS.2.1 x h1 h2), hS.2.2⟩
theorem pw_newi (hx : p.tables.exec = Jvm.exec) (hb : c.code = cc) (harr : (Cond.arrayClass .int).before args s = true) (hK : KK D E s) (hS : va_S A H0 H locs) {z : Int} (j : Nat) (hz : z = (j : Int)) (hj : j < 65536) (hcells : cells + 1 ≤ R.cells) (hslots : slots + j ≤ R.slots) (d : decode cc pc = .ok (.newarray .int, 2))
    (kk : ∀ (H1 : Heap), IA E H.size j (fun _ => 0) H1 → H1.size = H.size + 1 → (∀ q : Nat, q < H.size → H1[q]? = H[q]?) → va_S A H0 H1 locs → W p l e R s m args below meth c H1 locs (cells + 1) (slots + j) Q (F0 m (pc + 2) ls (.ref H.size :: rest))) : W p l e R s m args below meth c H locs cells slots Q (F0 m pc ls (.int (iI z) :: rest)) := by
  have hK0 : va_K D vwCl (pw_tys E) s := hK
  subst hz
  have hnn : ¬ iI (j : Int) < 0 := by rw [← iI_nI]; exact nI_pos (by omega)
  refine va_newaK hx hb (atype := .int) harr rfl d rfl hnn (N := j) (by rw [← iI_nI]; exact nI_clamp (by omega)) (by show j * 4 ≤ _; omega) hcells hslots rfl fun H1 cA e1 z1 o1 _ hNm => ?_
  have hcA : cA = E 0 := Option.some.inj (hNm.symm.trans (hK0.2 0 _ rfl).2)
  subst hcA
  exact kk H1 e1 z1 o1 ⟨Nat.le_trans hS.1 (by omega), fun x h1 h2 => (o1 x (Nat.lt_of_lt_of_le h1 hS.1)).trans (hS.2.1 x h1 h2), hS.2.2⟩
theorem pw_qald (hx : p.tables.exec = Jvm.exec) (hb : c.code = cc) (hK : KK D E s) {a k0 : Nat} {f : Nat → Option Nat} (hA : QA E k0 a n f H) (ht : (pw_tys E)[k0]? = some (E k0, .object C)) {i : Int} (j : Nat) (hi : i = (j : Int)) (hj : j < n) (hn : n < 2147483648) {b : Nat} (hv : f j = some b) (d : decode cc pc = .ok (.aaload, 1)) (k : W p l e R s m args below meth c H locs cells slots Q (F0 m (pc + 1) ls (.ref b :: rest))) : W p l e R s m args below meth c H locs cells slots Q (F0 m pc ls (.int (iI i) :: .ref a :: rest)) := by
  obtain ⟨h1, h2⟩ := iI_in hi hj hn
  refine va_aldq (D := D) (cl := vwCl) (ws := [(a, .inl (E k0, n, .inr (.inr (.inr (.inr f)))))]) hx hb hK (pw_one (D := D) hA) 0 k0 rfl ht h1 d ?_
  rw [h2, hv]
  exact k
end PWC
