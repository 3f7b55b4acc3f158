/-! new int[n][k], and the constructors that use it: Equations, Ladder -/
theorem gd_out (cA : ClassId) (N h : Nat) : ∀ i : Nat, Jvm.Free.Multi.outerC cA N h i = arrV cA N (fun j => va_rf (if j < i then some (h + 1 + j) else none))
  | 0 => by
    show ({ cls := cA, slots := Array.replicate N .null, vm := .none } : Cell) = _
    rw [arrV_new]
    refine congrArg (arrV cA N) (funext fun j => ?_)
    simp [va_rf]
  | i + 1 => by
    show (Jvm.Free.Multi.outerC cA N h i).setSlot i (.ref (h + 1 + i)) = _
    rw [gd_out cA N h i, arrV_store]
    refine congrArg (arrV cA N) (funext fun j => ?_)
    by_cases e : j = i
    · subst e
      simp [updV, va_rf]
    · by_cases hj : j < i
      · simp [updV, e, hj, Nat.lt_succ_of_lt hj]
      · simp [updV, e, hj, show ¬ j < i + 1 by omega]
section GDW
variable {p : Program} {l : Launch} {e : Env} {R : Room} {s : State} {m : MethodId} {args : Array Value} {below : List Frame} {meth : Method} {c : Code} {H : Heap} {locs : List Loc} {cells slots : Nat} {Q : State → Prop}
variable {cc : ByteArray} {pc : Nat} {ls : Array Slot} {rest : List Value} {D : va_G} {E : Nat → ClassId} {A : Nat → Prop} {H0 : Heap} {own : String} {index : Nat}
theorem pw_mna (hx : p.tables.exec = Jvm.exec) (hb : c.code = cc) (hown : s.vm.findClass own = some m.cls) (hcl : (Cond.classLink own index "[[I").before args s = true) (hover : AOi s) (harr : (Cond.arrayClass .int).before args s = true) (hK : KK D E s) (hS : va_S A H0 H locs) (N K : Nat) (hN : N < 1000) (hK1 : K < 1000) {zn zk : Int} (hzn : zn = (N : Int)) (hzk : zk = (K : Int)) (hcells : cells + (1 + N) ≤ R.cells) (hslots : slots + (N + N * K) ≤ R.slots) (d : decode cc pc = .ok (.multianewarray index 2, 4))
    (kk : ∀ (H1 : Heap), QA E 6 H.size N (fun i => some (H.size + 1 + i)) H1 → (∀ i, i < N → IA E (H.size + 1 + i) K (fun _ => 0) H1) → H1.size = H.size + 1 + N → (∀ q : Nat, q < H.size → H1[q]? = H[q]?) → va_S A H0 H1 locs → W p l e R s m args below meth c H1 locs (cells + 1 + N) (slots + N + N * K) Q (F0 m (pc + 4) ls (.ref H.size :: rest))) : W p l e R s m args below meth c H locs cells slots Q (F0 m pc ls (.int (iI zk) :: .int (iI zn) :: rest)) := by
  have hK0 : va_K D vwCl (pw_tys E) s := hK
  subst hzn
  subst hzk
  have hn0 : ¬ iI (N : Int) < 0 := by rw [← iI_nI]; exact nI_pos (by omega)
  have hk0 : ¬ iI (K : Int) < 0 := by rw [← iI_nI]; exact nI_pos (by omega)
  have hNc : (iI (N : Int)).toNatClampNeg = N := by rw [← iI_nI]; exact nI_clamp (by omega)
  have hKc : (iI (K : Int)).toNatClampNeg = K := by rw [← iI_nI]; exact nI_clamp (by omega)
  have hcl2 : (Cond.classLink own index ("[" ++ (FieldType.array .int).toString)).before args s = true := hcl
  have hov2 : (Cond.arrayOver (.array .int)).before args s = true := hover
  intro T hT Xs
  obtain ⟨vm₁, cA, comp, -, fA, fC, hO, -, X', step⟩ := Xs.multianewarray2F hx hown hcl2 hov2 harr (g := F0 m pc ls (.int (iI (K : Int)) :: .int (iI (N : Int)) :: rest)) rfl (by rw [hb]; exact d) rfl hn0 hk0 (by rw [hNc]; omega) (by rw [hKc]; show K * 4 ≤ _; omega) (by rw [hKc]; omega) rfl rfl (by rw [hNc]; exact hcells) (by rw [hNc, hKc]; exact hslots)
  have r6 : s.vm.findClass ("[" ++ (FieldType.array .int).toString) = some (E 6) := (hK0.2 6 _ rfl).2
  have r0 : s.vm.findClass (FieldType.array .int).toString = some (E 0) := (hK0.2 0 _ rfl).2
  have ecA : cA = E 6 := Option.some.inj (fA.symm.trans r6)
  have eco : comp = E 0 := Option.some.inj (fC.symm.trans r0)
  subst ecA
  subst eco
  rw [hNc, hKc] at X' step
  generalize hF : Jvm.Free.Multi.fill (T.setVm vm₁) (E 6) (E 0) N K (defaultValue .int) N = F at X' step
  have hTh : (T.setVm vm₁).heap = H := hT
  obtain ⟨f1, f2, -, -⟩ := Jvm.Free.Multi.fill_facts (T.setVm vm₁) (E 6) (E 0) N K (defaultValue .int) N
  rw [hF, hTh] at f1 f2
  have hold : ∀ x : Nat, x < H.size → F.heap[x]? = H[x]? := fun x hx => by
    have := Jvm.Free.Multi.fill_old (T.setVm vm₁) (E 6) (E 0) N K (defaultValue .int) (a := x) (by rw [hTh]; exact hx) N
    rw [hF, hTh] at this
    exact this
  have hrow : ∀ j : Nat, j < N → F.heap[H.size + 1 + j]? = some (vp_cell (E 0) (K, .inl (fun _ => iI 0))) := fun j hj => by
    have := Jvm.Free.Multi.fill_inner (T.setVm vm₁) (E 6) (E 0) N K (defaultValue .int) N j hj
    rw [hF, hTh] at this
    rw [this, vp_cell_i, ← arrV_new]
    rfl
  have hq1 : QA E 6 H.size N (fun i => if i < N then some (H.size + 1 + i) else none) F.heap := by
    show F.heap[H.size]? = _
    rw [f2, vp_cell_q, gd_out]
  obtain ⟨t, a1, b1⟩ := kk F.heap (hq1.up (fun j hj => if_pos hj)) hrow f1 hold ⟨Nat.le_trans hS.1 (by omega), fun x h1 h2 => (hold x (Nat.lt_of_lt_of_le h1 hS.1)).trans (hS.2.1 x h1 h2), hS.2.2⟩ F rfl X'
  refine ⟨t, step t ?_, b1⟩
  have e9 : T.heap.size = H.size := by rw [hT]
  rw [e9]
  exact a1
end GDW
def RWS (D : va_G) (E : Nat → ClassId) (a n k : Nat) (H : Heap) : Prop := ∀ j, j < k → RW D E (a + 16 * j) n (fun _ => 0) 0 H
theorem RWS.k {D : va_G} {E : Nat → ClassId} {a n k : Nat} {H H1 : Heap} (h : RWS D E a n k H) (hq : ∀ q, a ≤ q → q < a + 16 * k → q < H.size → H1[q]? = H[q]?) : RWS D E a n k H1 := fun j hj => (h j hj).k (fun q h1 h2 h3 => hq q (by omega) (by omega) h3)
theorem RWS.up {D : va_G} {E : Nat → ClassId} {a n k : Nat} {H : Heap} (h : RWS D E a n k H) (hw : RW D E (a + 16 * k) n (fun _ => 0) 0 H) : RWS D E a n (k + 1) H := fun j hj => by
  by_cases e : j = k
  · rw [e]; exact hw
  · exact h j (by omega)
def IAS (E : Nat → ClassId) (a N K : Nat) (H : Heap) : Prop := ∀ i, i < N → IA E (a + i) K (fun _ => 0) H
theorem IAS.k {E : Nat → ClassId} {a N K : Nat} {H H1 : Heap} (h : IAS E a N K H) (hq : ∀ q, a ≤ q → q < a + N → q < H.size → H1[q]? = H[q]?) : IAS E a N K H1 := fun i hi => (h i hi).k (hq _ (by omega) (by omega) (h i hi).lt)
set_option maxHeartbeats 4000000 in
set_option maxRecDepth 100000 in
/-- Equations() -/
theorem c_EquationsI (l : Launch) (D : va_G) (E : Nat → ClassId) (a : Nat) : pw_N rvV l D E yX2_init wsX2_init ({ frames := 2, cells := 264, slots := 1584, locals := 41 } : Room) [.ref (a)] (fun H => OA D (a) 2 [.null, .null] H ∧ H.size = a + 1) (fun _ H => EQ D E a (fun _ _ => 0) (fun _ => 0) H ∧ H.size = a + 265) (fun q => a ≤ q) (264) (1584) := by
  refine pw_Nof (cc := cX2_init) (maxL := 2) (ret := none) (by decide +kernel) rfl (Nat.le_of_ble_eq_true rfl) ?_
  intro p e s m args below meth c hx hb hr hml hts hown hlocks hini hK hAO ⟨hO, hsz⟩ ls hl
  have hown : s.vm.findClass RX2 = some m.cls := hown
  have hl : lv_has ls 2 [(0, .ref (a))] := hl
  have hS : va_S (fun q => a ≤ q) s.heap s.heap [] := va_S.rf
  have lk_11 := hts (.fieldLink RX2 11 "PolicyWorks$Equations" "rows" "[[I") (by decide +kernel)
  have lk_18 := hts (.fieldLink RX2 18 "PolicyWorks$Equations" "minors" "[LPolicyWorks$Whole;") (by decide +kernel)
  have hin2 : ∀ w ∈ wsX20, w ∈ wsX2_init := by decide +kernel
  have hin8 : ∀ w ∈ wsX80, w ∈ wsX2_init := by decide +kernel
  have ka_int := hts (.arrayClass .int) (by decide +kernel)
  have ki_8 := hts (.instantiable RX8 3) (by decide +kernel)
  have kl_16 := hts (.classLink RX2 16 RX8) (by decide +kernel)
  have kl_9 := hts (.classLink RX2 9 "[[I") (by decide +kernel)
  have km_22 := hts (.methodLink RX2 22 yX8_init) (by decide +kernel)
  have kn_8 := hts (.instanceMethod yX8_init) (by decide +kernel)
  have ko_1 := hts (.methodLink RX2 3 objectInit) (by decide +kernel)
  have ko_2 := hts (.instanceMethod objectInit) (by decide +kernel)
  have ko_3 := hts (.code objectInit ⟨#[0xb1]⟩ 1 none) (by decide +kernel)
  have kz_8 := hts (.initialized RX8) (by decide +kernel)
  have loop : ∀ (kk k : Nat) (f : Nat → Option Nat) (H : Heap) (locs : List Loc) (ls : Array Slot), k + kk = 128 → (∀ j, j < k → f j = some (a + 9 + 2 * j)) → OA D a 2 [.ref (a + 1), .ref (a + 8)] H → QA E 6 (a + 1) 6 (fun i => some (a + 1 + 1 + i)) H → IAS E (a + 2) 6 7 H → QA E 5 (a + 8) 128 f H → WHS D E (a + 9) 8 k H → H.size = a + 9 + 2 * k → va_S (fun q => a ≤ q) s.heap H locs → lv_has ls 2 [(0, .ref (a)), (1, .int (iI ((k : Int))))] → W p l e ({ frames := 2, cells := 264, slots := 1584, locals := 41 } : Room) s m args below meth c H locs (8 + 2 * k) (176 + k * 11) (MQ below (pw_Q rvV (fun _ H => EQ D E a (fun _ _ => 0) (fun _ => 0) H ∧ H.size = a + 265) (fun q => a ≤ q)) args s (264) (1584) (fun q => a ≤ q)) (F0 m 28 ls []) := by
    intro kk
    induction kk with
    | zero =>
      intro k f H locs ls hk hf hO hR hRI hQ hWS hsz hS hl
      have ek : k = 128 := by omega
      subst ek
      refine lv_iload_n hx hb dX2_init_28 rfl (lv_at hl 1 rfl) ?_
      refine lv_aload_n hx hb dX2_init_29 rfl (lv_at hl 0 rfl) ?_
      refine pw_get (C := RX2) (T := TX2) (N := 2) hx hb hts hin2 hown hK hO rfl 1 (by decide) lk_18 rfl rfl dX2_init_30 ?_
      refine pw_alen (n := 128) (k0 := 5) hx hb hK hQ rfl rfl dX2_init_33 ?_
      refine pw_icmp_ge (tgt := 58) hx hb dX2_init_34 (by decide) (fun c_34 => ?_) (fun c_34 => absurd c_34 (by omega))
      refine pw_cs (cells' := 264) (slots' := 1584) (by omega) (by omega) ?_
      exact pw_vret hx hb hr hlocks hS ⟨⟨hO, hR, hRI, hQ.up (fun j hj => hf j hj), fun i hi _ => hWS i hi⟩, hsz⟩ dX2_init_58
    | succ kk ih =>
      intro k f H locs ls hk hf hO hR hRI hQ hWS hsz hS hl
      refine lv_iload_n hx hb dX2_init_28 rfl (lv_at hl 1 rfl) ?_
      refine lv_aload_n hx hb dX2_init_29 rfl (lv_at hl 0 rfl) ?_
      refine pw_get (C := RX2) (T := TX2) (N := 2) hx hb hts hin2 hown hK hO rfl 1 (by decide) lk_18 rfl rfl dX2_init_30 ?_
      refine pw_alen (n := 128) (k0 := 5) hx hb hK hQ rfl rfl dX2_init_33 ?_
      refine pw_icmp_ge (tgt := 58) hx hb dX2_init_34 (by decide) (fun c_34 => absurd c_34 (by omega)) (fun c_34 => ?_)
      refine lv_aload_n hx hb dX2_init_37 rfl (lv_at hl 0 rfl) ?_
      refine pw_get (C := RX2) (T := TX2) (N := 2) hx hb hts hin2 hown hK hO rfl 1 (by decide) lk_18 rfl rfl dX2_init_38 ?_
      refine lv_iload_n hx hb dX2_init_41 rfl (lv_at hl 1 rfl) ?_
      refine pw_new (C := RX8) (T := TX8) (N := 3) (ci := 8) hx hb hts hin8 tyX8 tyX8_ok hown kl_16 ki_8 kz_8 hK hS rfl [.null, .int (iI (0)), .int (iI (0))] (fun j hj => by match j, hj with | 0, _ => rfl | 1, _ => rfl | 2, _ => rfl) (by show _ ≤ 264; omega) (by show _ ≤ 1584; omega) dX2_init_42 (fun H1 hnew hz1 oq hS => ?_)
      have hO := hO.k (oq _ hO.lt)
      have hR := hR.k (oq _ hR.lt)
      have hRI := hRI.k (fun q h1 h2 h3 => (oq _ h3))
      have hQ := hQ.k (oq _ hQ.lt)
      have hWS := hWS.k (fun q h1 h2 h3 => (oq _ h3))
      have hsz1 : H1.size = a + 9 + 2 * k + 1 := by omega
      rw [hsz] at hnew ⊢
      clear hz1 oq hsz
      have hsz := hsz1
      clear hsz1
      have hW := hnew
      clear hnew
      refine lv_dup hx hb dX2_init_45 rfl ?_
      refine pw_bipush hx hb dX2_init_46 ?_
      refine pw_asi (((8 : Nat) : Int)) rfl ?_
      refine pw_callI (As := [.int (iI (((8 : Nat) : Int)))]) (rest := [.ref (a + 9 + 2 * k), .int (iI ((k : Int))), .ref (a + 8)]) ⟨hx, hb, hml, hown, hts⟩ (c_WholeI l D E (a + 9 + 2 * k) (8) (by omega)) (cwI 1 hts gX2_init_X8_init rfl rfl rfl kz_8 km_22 kn_8 rfl (by decide +kernel) ⟨Nat.le_of_ble_eq_true rfl, Nat.le_of_ble_eq_true rfl⟩) hK (⟨hW, hsz⟩) rfl hl.1 rfl (Nat.le_of_ble_eq_true rfl) dX2_init_48 ⟨by show _ ≤ 264; omega, by show _ ≤ 1584; omega⟩ hS (fun q h => by (try dsimp only at h); (try dsimp only); omega) (fun H1 locs1 ⟨hW, hsz⟩ hz1 hk1 hS => ?_)
      have hO := hO.k (hk1 _ hO.lt (by (try dsimp only); omega))
      have hR := hR.k (hk1 _ hR.lt (by (try dsimp only); omega))
      have hRI := hRI.k (fun q h1 h2 h3 => (hk1 _ h3 (by (try dsimp only); omega)))
      have hQ := hQ.k (hk1 _ hQ.lt (by (try dsimp only); omega))
      have hWS := hWS.k (fun q h1 h2 h3 => (hk1 _ h3 (by (try dsimp only); omega)))
      clear hz1 hk1
      refine pw_qast hx hb hK hQ rfl hS (by (try dsimp only); omega) (hW.o.choose_spec) rfl (k) rfl (by omega) (by omega) dX2_init_51 (fun H1 locs1 hnew hz1 oq hS => ?_)
      have hO := hO.k (oq _ (by omega))
      have hR := hR.k (oq _ (by omega))
      have hRI := hRI.k (fun q h1 h2 h3 => (oq _ (by omega)))
      have hWS := hWS.k (fun q h1 h2 h3 => (oq _ (by omega)))
      have hsz := hz1.trans hsz
      have hW := hW.k (oq _ (by omega)) (oq _ (by omega))
      have hQ := hnew
      clear hnew oq hz1
      refine lv_iinc (v := iI (((k + 1 : Nat) : Int))) (lv' := [(1, .int (iI (((k + 1 : Nat) : Int)))), (0, .ref (a))]) hx hb dX2_init_52 hl (k := 1) rfl (by show iI _ + iI _ = _; exact (iI_add _ _).trans (by first | rfl | (congr 1; omega))) (by decide) rfl (fun ls hl => ?_)
      refine lv_goto (tgt := 28) hx hb dX2_init_55 (by decide) ?_
      refine pw_cs (cells' := 8 + 2 * (k + 1)) (slots' := 176 + (k + 1) * 11) (by omega) (by omega) ?_
      exact ih (k + 1) _ _ _ _ (by omega) (uq_ext hf rfl) hO hR hRI hQ (hWS.up hW) (by omega) hS (lv_sub hl [1, 0] rfl)
  refine lv_aload_n hx hb dX2_init_0 rfl (lv_at hl 0 rfl) ?_
  refine pw_objI hx hb hml hown ko_1 ko_2 ko_3 hl.1 dX2_init_1 ⟨Nat.le_of_ble_eq_true rfl, Nat.le_of_ble_eq_true rfl⟩ ?_
  refine lv_aload_n hx hb dX2_init_4 rfl (lv_at hl 0 rfl) ?_
  refine pw_bipush hx hb dX2_init_5 ?_
  refine pw_asi (((6 : Nat) : Int)) rfl ?_
  refine pw_bipush hx hb dX2_init_7 ?_
  refine pw_asi (((7 : Nat) : Int)) rfl ?_
  refine pw_mna hx hb hown kl_9 hAO.2.2.2 ka_int hK hS 6 7 (by omega) (by omega) rfl rfl (by show _ ≤ 264; omega) (by show _ ≤ 1584; omega) dX2_init_9 (fun H1 hnew hnin hz1 oq hS => ?_)
  have hO := hO.k (oq _ hO.lt)
  have hsz1 : H1.size = a + 8 := by omega
  rw [hsz] at hnew hnin ⊢
  clear hz1 oq hsz
  have hsz := hsz1
  clear hsz1
  have hR := hnew
  have hRI : IAS E (a + 2) 6 7 H1 := fun i hi => by have := hnin i hi; exact this
  clear hnew hnin
  refine pw_putF (C := RX2) (T := TX2) (N := 2) hx hb hts hin2 tyX2 tyX2_ok nmX2 hown hK hO hS (by (try dsimp only); omega) rfl 0 (by decide) lk_11 rfl rfl hini rfl rfl rfl (by show _ < 2; decide) dX2_init_13 (fun H1 locs1 hnew hz1 oq hS => ?_)
  have hsz := hz1.trans hsz
  have hR := hR.k (oq _ (by omega))
  have hRI := hRI.k (fun q h1 h2 h3 => (oq _ (by omega)))
  have hO : OA D (a) 2 [.ref (a + 1), .null] H1 := hnew
  clear hnew oq hz1
  refine lv_aload_n hx hb dX2_init_16 rfl (lv_at hl 0 rfl) ?_
  refine pw_sipush hx hb dX2_init_17 ?_
  refine pw_asi (((128 : Nat) : Int)) rfl ?_
  refine pw_newq (C := RX8) hx hb hown kl_16 hAO.2.2.1 hK hS 5 rfl (128) rfl (by omega) (by show _ ≤ 264; omega) (by show _ ≤ 1584; omega) dX2_init_20 (fun H1 hnew hz1 oq hS => ?_)
  have hO := hO.k (oq _ hO.lt)
  have hR := hR.k (oq _ hR.lt)
  have hRI := hRI.k (fun q h1 h2 h3 => (oq _ h3))
  have hsz1 : H1.size = a + 9 := by omega
  rw [hsz] at hnew ⊢
  clear hz1 oq hsz
  have hsz := hsz1
  clear hsz1
  have hQ := hnew
  clear hnew
  refine pw_putF (C := RX2) (T := TX2) (N := 2) hx hb hts hin2 tyX2 tyX2_ok nmX2 hown hK hO hS (by (try dsimp only); omega) rfl 1 (by decide) lk_18 rfl rfl hini rfl rfl rfl (by show _ < 2; decide) dX2_init_23 (fun H1 locs1 hnew hz1 oq hS => ?_)
  have hsz := hz1.trans hsz
  have hR := hR.k (oq _ (by omega))
  have hRI := hRI.k (fun q h1 h2 h3 => (oq _ (by omega)))
  have hQ := hQ.k (oq _ (by omega))
  have hO : OA D (a) 2 [.ref (a + 1), .ref (a + 8)] H1 := hnew
  clear hnew oq hz1
  refine pw_iconst hx hb dX2_init_26 ?_
  refine pw_asi (((0 : Nat) : Int)) rfl ?_
  refine lv_istore_n (lv' := [(1, .int (iI (((0 : Nat) : Int)))), (0, .ref (a))]) hx hb dX2_init_27 rfl hl (by decide) rfl (fun ls hl => ?_)
  refine pw_cs (cells' := 8 + 2 * 0) (slots' := 176 + 0 * 11) (by omega) (by omega) ?_
  exact loop 128 0 _ _ _ _ (by omega) (fun j hj => by omega) hO hR hRI hQ (fun j hj => by omega) (by omega) hS (lv_sub hl [1, 0] rfl)
set_option maxHeartbeats 4000000 in
set_option maxRecDepth 100000 in
/-- Ladder() -/
theorem c_LadderI (l : Launch) (D : va_G) (E : Nat → ClassId) (a : Nat) : pw_N rvV l D E yX5_init wsX5_init ({ frames := 3, cells := 155, slots := 1845, locals := 63 } : Room) [.ref (a)] (fun H => OA D (a) 5 [.null, .null, .int (iI (0))] H ∧ H.size = a + 1) (fun _ H => LD D E a 0 (fun _ _ => 0) (fun _ => 0) (fun _ _ => 0) H ∧ H.size = a + 156) (fun q => a ≤ q) (155) (1845) := by
  refine pw_Nof (cc := cX5_init) (maxL := 2) (ret := none) (by decide +kernel) rfl (Nat.le_of_ble_eq_true rfl) ?_
  intro p e s m args below meth c hx hb hr hml hts hown hlocks hini hK hAO ⟨hO, hsz⟩ ls hl
  have hown : s.vm.findClass RX5 = some m.cls := hown
  have hl : lv_has ls 2 [(0, .ref (a))] := hl
  have hS : va_S (fun q => a ≤ q) s.heap s.heap [] := va_S.rf
  have lk_11 := hts (.fieldLink RX5 11 "PolicyWorks$Ladder" "rows" "[LPolicyWorks$Row;") (by decide +kernel)
  have lk_22 := hts (.fieldLink RX5 22 "PolicyWorks$Ladder" "picks" "[[I") (by decide +kernel)
  have lk_25 := hts (.fieldLink RX5 25 "PolicyWorks$Ladder" "known" "I") (by decide +kernel)
  have hin5 : ∀ w ∈ wsX50, w ∈ wsX5_init := by decide +kernel
  have hin7 : ∀ w ∈ wsX70, w ∈ wsX5_init := by decide +kernel
  have ka_int := hts (.arrayClass .int) (by decide +kernel)
  have ki_7 := hts (.instantiable RX7 2) (by decide +kernel)
  have kl_20 := hts (.classLink RX5 20 "[[I") (by decide +kernel)
  have kl_9 := hts (.classLink RX5 9 RX7) (by decide +kernel)
  have km_17 := hts (.methodLink RX5 17 yX7_init) (by decide +kernel)
  have kn_7 := hts (.instanceMethod yX7_init) (by decide +kernel)
  have ko_1 := hts (.methodLink RX5 3 objectInit) (by decide +kernel)
  have ko_2 := hts (.instanceMethod objectInit) (by decide +kernel)
  have ko_3 := hts (.code objectInit ⟨#[0xb1]⟩ 1 none) (by decide +kernel)
  have kz_7 := hts (.initialized RX7) (by decide +kernel)
  have loop : ∀ (kk k : Nat) (f : Nat → Option Nat) (H : Heap) (locs : List Loc) (ls : Array Slot), k + kk = 9 → (∀ j, j < k → f j = some (a + 2 + 16 * j)) → OA D a 5 [.ref (a + 1), .null, .int (iI (0))] H → QA E 4 (a + 1) 9 f H → RWS D E (a + 2) 24 k H → H.size = a + 2 + 16 * k → va_S (fun q => a ≤ q) s.heap H locs → lv_has ls 2 [(0, .ref (a)), (1, .int (iI ((k : Int))))] → W p l e ({ frames := 3, cells := 155, slots := 1845, locals := 63 } : Room) s m args below meth c H locs (1 + 16 * k) (9 + k * 197) (MQ below (pw_Q rvV (fun _ H => LD D E a 0 (fun _ _ => 0) (fun _ => 0) (fun _ _ => 0) H ∧ H.size = a + 156) (fun q => a ≤ q)) args s (155) (1845) (fun q => a ≤ q)) (F0 m 15 ls []) := by
    intro kk
    induction kk with
    | zero =>
      intro k f H locs ls hk hf hO hQ hRS hsz hS hl
      have ek : k = 9 := by omega
      subst ek
      refine lv_iload_n hx hb dX5_init_15 rfl (lv_at hl 1 rfl) ?_
      refine pw_bipush hx hb dX5_init_16 ?_
      refine pw_icmp_gt (tgt := 42) hx hb dX5_init_18 (by decide) (fun c_18 => ?_) (fun c_18 => absurd c_18 (by omega))
      refine lv_aload_n hx hb dX5_init_42 rfl (lv_at hl 0 rfl) ?_
      refine pw_bipush hx hb dX5_init_43 ?_
      refine pw_asi (((9 : Nat) : Int)) rfl ?_
      refine pw_bipush hx hb dX5_init_45 ?_
      refine pw_asi (((6 : Nat) : Int)) rfl ?_
      refine pw_mna hx hb hown kl_20 hAO.2.2.2 ka_int hK hS 9 6 (by omega) (by omega) rfl rfl (by show _ ≤ 155; omega) (by show _ ≤ 1845; omega) dX5_init_47 (fun H1 hnew hnin hz1 oq hS => ?_)
      have hO := hO.k (oq _ hO.lt)
      have hQ := hQ.k (oq _ hQ.lt)
      have hRS := hRS.k (fun q h1 h2 h3 => (oq _ h3))
      have hsz1 : H1.size = a + 156 := by omega
      rw [hsz] at hnew hnin ⊢
      clear hz1 oq hsz
      have hsz := hsz1
      clear hsz1
      have hPQ := hnew
      have hPI : IAS E (a + 147) 9 6 H1 := fun i hi => by have := hnin i hi; exact this
      clear hnew hnin
      refine pw_putF (C := RX5) (T := TX5) (N := 3) hx hb hts hin5 tyX5 tyX5_ok nmX5 hown hK hO hS (by (try dsimp only); omega) rfl 1 (by decide) lk_22 rfl rfl hini rfl rfl rfl (by show _ < 3; decide) dX5_init_51 (fun H1 locs1 hnew hz1 oq hS => ?_)
      have hQ := hQ.k (oq _ (by omega))
      have hRS := hRS.k (fun q h1 h2 h3 => (oq _ (by omega)))
      have hsz := hz1.trans hsz
      have hPQ := hPQ.k (oq _ (by omega))
      have hPI := hPI.k (fun q h1 h2 h3 => (oq _ (by omega)))
      have hO : OA D (a) 5 [.ref (a + 1), .ref (a + 146), .int (iI (0))] H1 := hnew
      clear hnew oq hz1
      refine lv_aload_n hx hb dX5_init_54 rfl (lv_at hl 0 rfl) ?_
      refine pw_iconst hx hb dX5_init_55 ?_
      refine pw_put (C := RX5) (T := TX5) (N := 3) hx hb hts hin5 tyX5 tyX5_ok nmX5 hown hK hO hS (by (try dsimp only); omega) rfl 2 (by decide) lk_25 rfl rfl rfl rfl (by show _ < 3; decide) dX5_init_56 (fun H1 locs1 hnew hz1 oq hS => ?_)
      have hQ := hQ.k (oq _ (by omega))
      have hRS := hRS.k (fun q h1 h2 h3 => (oq _ (by omega)))
      have hsz := hz1.trans hsz
      have hPQ := hPQ.k (oq _ (by omega))
      have hPI := hPI.k (fun q h1 h2 h3 => (oq _ (by omega)))
      have hO : OA D (a) 5 [.ref (a + 1), .ref (a + 146), .int (iI (0))] H1 := hnew
      clear hnew oq hz1
      refine pw_cs (cells' := 155) (slots' := 1845) (by omega) (by omega) ?_
      exact pw_vret hx hb hr hlocks hS ⟨⟨hO, hQ.up (fun j hj => hf j hj), fun k hk _ => hRS k hk, hPQ, fun k hk _ => hPI k hk⟩, hsz⟩ dX5_init_59
    | succ kk ih =>
      intro k f H locs ls hk hf hO hQ hRS hsz hS hl
      refine lv_iload_n hx hb dX5_init_15 rfl (lv_at hl 1 rfl) ?_
      refine pw_bipush hx hb dX5_init_16 ?_
      refine pw_icmp_gt (tgt := 42) hx hb dX5_init_18 (by decide) (fun c_18 => absurd c_18 (by omega)) (fun c_18 => ?_)
      refine lv_aload_n hx hb dX5_init_21 rfl (lv_at hl 0 rfl) ?_
      refine pw_get (C := RX5) (T := TX5) (N := 3) hx hb hts hin5 hown hK hO rfl 0 (by decide) lk_11 rfl rfl dX5_init_22 ?_
      refine lv_iload_n hx hb dX5_init_25 rfl (lv_at hl 1 rfl) ?_
      refine pw_new (C := RX7) (T := TX7) (N := 2) (ci := 7) hx hb hts hin7 tyX7 tyX7_ok hown kl_9 ki_7 kz_7 hK hS rfl [.null, .null] (fun j hj => by match j, hj with | 0, _ => rfl | 1, _ => rfl) (by show _ ≤ 155; omega) (by show _ ≤ 1845; omega) dX5_init_26 (fun H1 hnew hz1 oq hS => ?_)
      have hO := hO.k (oq _ hO.lt)
      have hQ := hQ.k (oq _ hQ.lt)
      have hRS := hRS.k (fun q h1 h2 h3 => (oq _ h3))
      have hsz1 : H1.size = a + 2 + 16 * k + 1 := by omega
      rw [hsz] at hnew ⊢
      clear hz1 oq hsz
      have hsz := hsz1
      clear hsz1
      have hW := hnew
      clear hnew
      refine lv_dup hx hb dX5_init_29 rfl ?_
      refine pw_bipush hx hb dX5_init_30 ?_
      refine pw_asi (((24 : Nat) : Int)) rfl ?_
      refine pw_callIN (As := [.int (iI (((24 : Nat) : Int)))]) (rest := [.ref (a + 2 + 16 * k), .int (iI ((k : Int))), .ref (a + 1)]) ⟨hx, hb, hml, hown, hts⟩ (c_RowI l D E (a + 2 + 16 * k) 24 (by omega)) (cwI 1 hts gX5_init_X7_init rfl rfl rfl kz_7 km_17 kn_7 rfl (by decide +kernel) ⟨Nat.le_of_ble_eq_true rfl, Nat.le_of_ble_eq_true rfl⟩) hK hAO (⟨hW, hsz⟩) rfl hl.1 rfl (Nat.le_of_ble_eq_true rfl) dX5_init_32 ⟨by show _ ≤ 155; omega, by show _ ≤ 1845; omega⟩ hS (fun q h => by (try dsimp only at h); (try dsimp only); omega) (fun H1 locs1 ⟨hW, hsz⟩ hz1 hk1 hS => ?_)
      have hO := hO.k (hk1 _ hO.lt (by (try dsimp only); omega))
      have hQ := hQ.k (hk1 _ hQ.lt (by (try dsimp only); omega))
      have hRS := hRS.k (fun q h1 h2 h3 => (hk1 _ h3 (by (try dsimp only); omega)))
      clear hz1 hk1
      refine pw_qast hx hb hK hQ rfl hS (by (try dsimp only); omega) (hW.1) rfl (k) rfl (by omega) (by omega) dX5_init_35 (fun H1 locs1 hnew hz1 oq hS => ?_)
      have hO := hO.k (oq _ (by omega))
      have hRS := hRS.k (fun q h1 h2 h3 => (oq _ (by omega)))
      have hsz := hz1.trans hsz
      have hW := hW.k (fun q h1 h2 h3 => (oq _ (by omega)))
      have hQ := hnew
      clear hnew oq hz1
      refine lv_iinc (v := iI (((k + 1 : Nat) : Int))) (lv' := [(1, .int (iI (((k + 1 : Nat) : Int)))), (0, .ref (a))]) hx hb dX5_init_36 hl (k := 1) rfl (by show iI _ + iI _ = _; exact (iI_add _ _).trans (by first | rfl | (congr 1; omega))) (by decide) rfl (fun ls hl => ?_)
      refine lv_goto (tgt := 15) hx hb dX5_init_39 (by decide) ?_
      refine pw_cs (cells' := 1 + 16 * (k + 1)) (slots' := 9 + (k + 1) * 197) (by omega) (by omega) ?_
      exact ih (k + 1) _ _ _ _ (by omega) (uq_ext hf rfl) hO hQ (hRS.up hW) (by omega) hS (lv_sub hl [1, 0] rfl)
  refine lv_aload_n hx hb dX5_init_0 rfl (lv_at hl 0 rfl) ?_
  refine pw_objI hx hb hml hown ko_1 ko_2 ko_3 hl.1 dX5_init_1 ⟨Nat.le_of_ble_eq_true rfl, Nat.le_of_ble_eq_true rfl⟩ ?_
  refine lv_aload_n hx hb dX5_init_4 rfl (lv_at hl 0 rfl) ?_
  refine pw_bipush hx hb dX5_init_5 ?_
  refine pw_newq (C := RX7) hx hb hown kl_9 hAO.2.1 hK hS 4 rfl (9) rfl (by omega) (by show _ ≤ 155; omega) (by show _ ≤ 1845; omega) dX5_init_7 (fun H1 hnew hz1 oq hS => ?_)
  have hO := hO.k (oq _ hO.lt)
  have hsz1 : H1.size = a + 2 := by omega
  rw [hsz] at hnew ⊢
  clear hz1 oq hsz
  have hsz := hsz1
  clear hsz1
  have hQ := hnew
  clear hnew
  refine pw_putF (C := RX5) (T := TX5) (N := 3) hx hb hts hin5 tyX5 tyX5_ok nmX5 hown hK hO hS (by (try dsimp only); omega) rfl 0 (by decide) lk_11 rfl rfl hini rfl rfl rfl (by show _ < 3; decide) dX5_init_10 (fun H1 locs1 hnew hz1 oq hS => ?_)
  have hsz := hz1.trans hsz
  have hQ := hQ.k (oq _ (by omega))
  have hO : OA D (a) 5 [.ref (a + 1), .null, .int (iI (0))] H1 := hnew
  clear hnew oq hz1
  refine pw_iconst hx hb dX5_init_13 ?_
  refine pw_asi (((0 : Nat) : Int)) rfl ?_
  refine lv_istore_n (lv' := [(1, .int (iI (((0 : Nat) : Int)))), (0, .ref (a))]) hx hb dX5_init_14 rfl hl (by decide) rfl (fun ls hl => ?_)
  refine pw_cs (cells' := 1 + 16 * 0) (slots' := 9 + 0 * 197) (by omega) (by omega) ?_
  exact loop 9 0 _ _ _ _ (by omega) (fun j hj => by omega) hO hQ (fun j hj => by omega) (by omega) hS (lv_sub hl [1, 0] rfl)
