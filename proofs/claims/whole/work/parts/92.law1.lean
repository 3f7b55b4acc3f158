/-! the law: what both sides answer is one -/
theorem j_and15n (x : Nat) : (iI (x : Int) &&& iI 15) = iI ((x % 16 : Nat) : Int) := by
  apply Int32.toBitVec_inj.1
  show BitVec.ofInt 32 (x : Int) &&& BitVec.ofInt 32 ((15 : Nat) : Int) = BitVec.ofInt 32 ((x % 16 : Nat) : Int)
  rw [BitVec.ofInt_natCast, BitVec.ofInt_natCast, BitVec.ofInt_natCast, ← BitVec.ofNat_and]
  exact congrArg _ (Nat.and_two_pow_sub_one_eq_mod x 4)
theorem iI_up (z : Int) : iI (z + 4294967296) = iI z := by
  have e : iI 4294967296 = iI 0 := by decide +kernel
  rw [← iI_add, e, iI_add, Int.add_zero]
theorem j_and15 {z : Int} (h1 : -2147483648 ≤ z) (h2 : z ≤ 2147483647) : ∃ v : Nat, v ≤ 15 ∧ (iI z &&& iI 15) = iI (v : Int) := by
  rcases Int.lt_or_le z 0 with h | h
  · refine ⟨(z + 4294967296).toNat % 16, by omega, ?_⟩
    have e : ((z + 4294967296).toNat : Int) = z + 4294967296 := by omega
    rw [← j_and15n, e, iI_up]
  · refine ⟨z.toNat % 16, by omega, ?_⟩
    have e : (z.toNat : Int) = z := by omega
    rw [← j_and15n, e]
theorem PO.k {D : va_G} {E : Nat → ClassId} {o0 : Nat} {σ : MS} {rn : Int} {H H1 : Heap} (h : PO D E o0 σ rn H) (hq : ∀ q, o0 ≤ q → q ≤ o0 + 582 → q < H.size → H1[q]? = H[q]?) : PO D E o0 σ rn H1 := by
  obtain ⟨bv, bd, bp, wn, wd, wq, kn, V, B, pk, ⟨hO, hM, hE, hC, hL, hR, hB, hQ, hW, hZ, hT, hF, h1, h2, h3⟩, hI⟩ := h
  exact ⟨bv, bd, bp, wn, wd, wq, kn, V, B, pk, ⟨hO.k (hq _ (by omega) (by omega) hO.lt), hM.k (fun q a b c => hq q (by omega) (by omega) c), hE.k (fun q a b c => hq q (by omega) (by omega) c), hC.k (fun q a b c => hq q (by omega) (by omega) c), hL.k (fun q a b c => hq q (by omega) (by omega) c), hR.k (fun q a b c => hq q (by omega) (by omega) c), hB.k (hq _ (by omega) (by omega) hB.lt), hQ.k (hq _ (by omega) (by omega) hQ.lt), hW.k (fun q a b c => hq q (by omega) (by omega) c), hZ.k (hq _ (by omega) (by omega) hZ.lt), hT.k (fun q a b c => hq q (by omega) (by omega) c), hF.k (fun q a b c => hq q (by omega) (by omega) c), h1.k (fun q a b c => hq q (by omega) (by omega) c), h2.k (fun q a b c => hq q (by omega) (by omega) c), h3.k (fun q a b c => hq q (by omega) (by omega) c)⟩, hI⟩
theorem RPO.k {D : va_G} {E : Nat → ClassId} {r0 : Nat} {σ : MS} {rn : Int} {H H1 : Heap} (h : RPO D E r0 σ rn H) (hq : ∀ q, r0 ≤ q → q ≤ r0 + 13 → q < H.size → H1[q]? = H[q]?) : RPO D E r0 σ rn H1 := by
  obtain ⟨th, so, co, bst, ch, nx, vs, ow, tg, gU, gD, gW, hO, hC, hU, hDn, hW, hBs, hCh, hNx, hB, hP, hOw, hTg, hRI⟩ := h
  exact ⟨th, so, co, bst, ch, nx, vs, ow, tg, gU, gD, gW, hO.k (hq _ (by omega) (by omega) hO.lt), hC.k (hq _ (by omega) (by omega) hC.lt), hU.k (hq _ (by omega) (by omega) hU.lt), hDn.k (hq _ (by omega) (by omega) hDn.lt), hW.k (hq _ (by omega) (by omega) hW.lt), hBs.k (hq _ (by omega) (by omega) hBs.lt), hCh.k (hq _ (by omega) (by omega) hCh.lt), hNx.k (hq _ (by omega) (by omega) hNx.lt), hB.k (fun q a b c => hq q (by omega) (by omega) c), hP.k (hq _ (by omega) (by omega) hP.lt), hOw.k (hq _ (by omega) (by omega) hOw.lt), hTg.k (hq _ (by omega) (by omega) hTg.lt), hRI⟩
theorem PO.o {D : va_G} {E : Nat → ClassId} {o0 : Nat} {σ : MS} {rn : Int} {H : Heap} (h : PO D E o0 σ rn H) : ∃ fs, OA D o0 9 fs H := by
  obtain ⟨bv, bd, bp, wn, wd, wq, kn, V, B, pk, ⟨hO, _⟩, _⟩ := h
  exact ⟨_, hO⟩
theorem RPO.o {D : va_G} {E : Nat → ClassId} {r0 : Nat} {σ : MS} {rn : Int} {H : Heap} (h : RPO D E r0 σ rn H) : ∃ fs, OA D r0 10 fs H := by
  obtain ⟨th, so, co, bst, ch, nx, vs, ow, tg, gU, gD, gW, hO, _⟩ := h
  exact ⟨_, hO⟩
theorem PO.ok {D : va_G} {E : Nat → ClassId} {o0 : Nat} {σ : MS} {rn : Int} {H : Heap} (h : PO D E o0 σ rn H) : mOK σ ∧ (0 ≤ rn ∧ rn ≤ 4096) ∧ (0 < rn → rdy σ ∧ ∃ bp bv bd, SOL σ rn.toNat bp bv bd) := by
  obtain ⟨bv, bd, bp, wn, wd, wq, kn, V, B, pk, _, hI⟩ := h
  exact ⟨hI.1, hI.2.1, fun h => ⟨(hI.2.2.1 h).1, bp, bv, bd, (hI.2.2.1 h).2⟩⟩
theorem RPO.ok {D : va_G} {E : Nat → ClassId} {r0 : Nat} {σ : MS} {rn : Int} {H : Heap} (h : RPO D E r0 σ rn H) : 0 < rn → rdy σ ∧ ∃ bp bv bd, SOL σ rn.toNat bp bv bd := fun hr => by
  obtain ⟨th, so, co, bst, ch, nx, vs, ow, tg, gU, gD, gW, hO, hC, hU, hDn, hW, hBs, hCh, hNx, hB, hP, hOw, hTg, hRI⟩ := h
  rcases hRI.2.2.2 with ⟨h1, _⟩ | ⟨_, _, h3, bv, bd, h4, _⟩
  · omega
  · exact ⟨h3, bst, bv, bd, h4⟩
/-- both objects hold the same model, solved or not -/
def BO (D : va_G) (E : Nat → ClassId) (o0 r0 : Nat) (H : Heap) : Prop := ∃ σ rn, PO D E o0 σ rn H ∧ RPO D E r0 σ rn H
section CROSS
variable {σ : MS} {rn z1 z2 : Int}
theorem x_sol (hok : mOK σ) (hrd : rdy σ) {k part : Int} (h0 : 0 ≤ k) (hk : k < (mN σ : Int)) (h1 : ∃ bp bv bd, SOL σ rn.toNat bp bv bd ∧ z1 = tellZ (bv k.toNat) bd part) (h2 : ∃ bp bv bd, SOL σ rn.toNat bp bv bd ∧ z2 = tellZ (bv k.toNat) bd part) : z1 = z2 := by
  obtain ⟨bp, bv, bd, a1, rfl⟩ := h1
  obtain ⟨bp', bv', bd', b1, rfl⟩ := h2
  obtain ⟨_, _, u⟩ := sol_uniq hok hrd a1 b1
  exact tellZ_eq a1.bd b1.bd (u k.toNat (by omega)) part
theorem x_pol (hok : mOK σ) (hrd : rdy σ) {k : Int} (h0 : 0 ≤ k) (hk : k < (mN σ : Int)) (h1 : ∃ bp bv bd, SOL σ rn.toNat bp bv bd ∧ z1 = bp k.toNat) (h2 : ∃ bp bv bd, SOL σ rn.toNat bp bv bd ∧ z2 = bp k.toNat) : z1 = z2 := by
  obtain ⟨bp, bv, bd, a1, rfl⟩ := h1
  obtain ⟨bp', bv', bd', b1, rfl⟩ := h2
  exact (sol_uniq hok hrd a1 b1).2.1 k.toNat (by omega)
theorem x_gain (hok : mOK σ) (hrd : rdy σ) {i : Nat} {part : Int} (hg : 0 < gsc σ i) (h1 : ∃ bp bv bd, SOL σ rn.toNat bp bv bd ∧ z1 = tellZ (gnum σ i bv bd) (bd * gsc σ i) part) (h2 : ∃ bp bv bd, SOL σ rn.toNat bp bv bd ∧ z2 = tellZ (gnum σ i bv bd) (bd * gsc σ i) part) : z1 = z2 := by
  obtain ⟨bp, bv, bd, a1, rfl⟩ := h1
  obtain ⟨bp', bv', bd', b1, rfl⟩ := h2
  obtain ⟨_, _, u⟩ := sol_uniq hok hrd a1 b1
  refine tellZ_eq (Int.mul_pos a1.bd hg) (Int.mul_pos b1.bd hg) ?_ part
  rw [← Int.mul_assoc, ← Int.mul_assoc, gnum_prop u i]
theorem x_worth (hok : mOK σ) (hrd : rdy σ) {k : Nat} {st part : Int} (h0 : 0 ≤ st) (hk : st < (mN σ : Int)) (h1 : ∃ w d, PV σ (tpol σ k) w d ∧ z1 = tellZ (w st.toNat) d part) (h2 : ∃ w d, PV σ (tpol σ k) w d ∧ z2 = tellZ (w st.toNat) d part) : z1 = z2 := by
  obtain ⟨w, d, a1, rfl⟩ := h1
  obtain ⟨w', d', b1, rfl⟩ := h2
  exact tellZ_eq a1.1 b1.1 (pv_uniq hok hrd (fun s hs => tpol_lt hrd hs) a1 b1 st.toNat (by omega)) part
theorem x_steps (hok : mOK σ) (hrd : rdy σ) {n : Nat} {st part : Int} (h0 : 0 ≤ st) (hk : st < (mN σ : Int)) (h1 : ∃ v b, GS σ n v b ∧ z1 = tellZ (v st.toNat) b part) (h2 : ∃ v b, GS σ n v b ∧ z2 = tellZ (v st.toNat) b part) : z1 = z2 := by
  obtain ⟨v, b, a1, rfl⟩ := h1
  obtain ⟨v', b', b1, rfl⟩ := h2
  exact tellZ_eq a1.pos b1.pos (GS_uniq hok hrd a1 b1 st.toNat (by omega)) part
theorem x_plan (hok : mOK σ) (hrd : rdy σ) {n : Nat} {st : Int} (h1 : ∃ v b, GS σ n v b ∧ z1 = (spk σ v b st.toNat : Int)) (h2 : ∃ v b, GS σ n v b ∧ z2 = (spk σ v b st.toNat : Int)) : z1 = z2 := by
  obtain ⟨v, b, a1, rfl⟩ := h1
  obtain ⟨v', b', b1, rfl⟩ := h2
  exact congrArg Int.ofNat (gpick_prop a1.pos b1.pos (GS_uniq hok hrd a1 b1) _)
theorem x_bound (hok : mOK σ) (hrd : rdy σ) {n : Nat} {part : Int} (h1 : ∃ x y : Nat, BQ σ x y (mN σ) ∧ z1 = tellZ ((x : Int) * ((mA σ ^ n : Nat) : Int) * (mB σ : Int)) ((y : Int) * ((mB σ ^ n : Nat) : Int) * ((mB σ : Int) - (mA σ : Int))) part) (h2 : ∃ x y : Nat, BQ σ x y (mN σ) ∧ z2 = tellZ ((x : Int) * ((mA σ ^ n : Nat) : Int) * (mB σ : Int)) ((y : Int) * ((mB σ ^ n : Nat) : Int) * ((mB σ : Int) - (mA σ : Int))) part) : z1 = z2 := by
  obtain ⟨x, y, a1, rfl⟩ := h1
  obtain ⟨x', y', b1, rfl⟩ := h2
  have hAB := hok.2.2.2.1
  have hBA : 0 < (mB σ : Int) - (mA σ : Int) := by omega
  have hp : 0 < ((mB σ ^ n : Nat) : Int) := by have : 0 < mB σ ^ n := Nat.pow_pos (by omega); omega
  have hy : 0 < (y : Int) := by have := a1.1; omega
  have hy' : 0 < (y' : Int) := by have := b1.1; omega
  have e : (x : Int) * (y' : Int) = (x' : Int) * (y : Int) := by
    have := bq_uniq hok hrd a1 b1
    rw [← Int.natCast_mul, ← Int.natCast_mul, this]
  refine tellZ_eq (Int.mul_pos (Int.mul_pos hy hp) hBA) (Int.mul_pos (Int.mul_pos hy' hp) hBA) ?_ part
  generalize ((mA σ ^ n : Nat) : Int) = q1
  generalize ((mB σ ^ n : Nat) : Int) = q2
  generalize (mB σ : Int) - (mA σ : Int) = q3
  generalize (mB σ : Int) = q4
  have l1 : (x : Int) * q1 * q4 * ((y' : Int) * q2 * q3) = (x : Int) * (y' : Int) * (q1 * q4 * (q2 * q3)) := by grind
  have l2 : (x' : Int) * q1 * q4 * ((y : Int) * q2 * q3) = (x' : Int) * (y : Int) * (q1 * q4 * (q2 * q3)) := by grind
  rw [l1, l2, e]
end CROSS
section LAWR
variable {p : Program} {l : Launch} {e : Env} {R : Room} {s : State} {m : MethodId} {args : Array Value} {below : List Frame} {meth : Method} {c : Code} {H : Heap} {locs : List Loc} {cells slots : Nat} {Q : State → Prop}
variable {cc : ByteArray} {pc : Nat} {ls : Array Slot} {rest : List Value} {A : Nat → Prop} {H0 : Heap}
theorem pw_lcmp_same (hx : p.tables.exec = Jvm.exec) (hb : c.code = cc) {z : Int} {off : Int} {tgt : Nat} (d1 : decode cc pc = .ok (.lcmp, 1)) (d : decode cc (pc + 1) = .ok (.ifCond .eq off, 3)) (ht : ((pc + 1 : Nat) : Int) + off = (tgt : Int)) (k : W p l e R s m args below meth c H locs cells slots Q (F0 m tgt ls rest)) : W p l e R s m args below meth c H locs cells slots Q (F0 m pc ls (.long (lI z) :: .long (lI z) :: rest)) := by
  have hb2 := lI_b (lI z)
  rw [lI_of (lI z)]
  exact pw_lcmp_eq hx hb d1 d ht (fun _ => k) (fun h => absurd rfl h) hb2.1 hb2.2 hb2.1 hb2.2
theorem pw_icmp_same (hx : p.tables.exec = Jvm.exec) (hb : c.code = cc) {z : Int} {off : Int} {tgt : Nat} (d : decode cc pc = .ok (.if_icmp .eq off, 3)) (ht : (pc : Int) + off = (tgt : Int)) (k : W p l e R s m args below meth c H locs cells slots Q (F0 m tgt ls rest)) : W p l e R s m args below meth c H locs cells slots Q (F0 m pc ls (.int (iI z) :: .int (iI z) :: rest)) := lv_icmp_eq hx hb d ht (fun _ => k) (fun h => absurd rfl h)
theorem pw_slen (hx : p.tables.exec = Jvm.exec) (hb : c.code = cc) {b L : Nat} {xs : Nat → Int32} (hX : va_X b L xs s H0) (hbl : b < H0.size) (hbA : ¬ A b) (hS : va_S A H0 H locs) (d : decode cc pc = .ok (.arraylength, 1)) (k : W p l e R s m args below meth c H locs cells slots Q (F0 m (pc + 1) ls (.int (iI (L : Int)) :: rest))) : W p l e R s m args below meth c H locs cells slots Q (F0 m pc ls (.ref b :: rest)) := by
  refine va_slen hx hb hX hbl hbA hS d ?_
  have e : Int32.ofNat L = iI (L : Int) := Int32.ofInt_eq_ofNat.symm
  rw [e]
  exact k
theorem pw_sld (hx : p.tables.exec = Jvm.exec) (hb : c.code = cc) {b L : Nat} {xs : Nat → Int32} (hX : va_X b L xs s H0) (hbl : b < H0.size) (hbA : ¬ A b) (hS : va_S A H0 H locs) {i : Int} (j : Nat) (hi : i = (j : Int)) (hj : j < L) (hL : L < 2147483648) (d : decode cc pc = .ok (.iaload, 1)) (k : W p l e R s m args below meth c H locs cells slots Q (F0 m (pc + 1) ls (.int (iI ((xs j).toInt)) :: rest))) : W p l e R s m args below meth c H locs cells slots Q (F0 m pc ls (.int (iI i) :: .ref b :: rest)) := by
  obtain ⟨h1, h2⟩ := iI_in hi hj hL
  refine va_sld hx hb hX hbl hbA hS h1 d ?_
  rw [h2, iI_of (xs j)]
  exact k
end LAWR
/-- the classes and array classes as the tables have them -/
theorem law_KK {s : State} {b : Nat} (hts : ∀ w ∈ lw_tbl, w.before #[Value.ref b] s = true) : AOs s ∧ ∃ (D : va_G) (E : Nat → ClassId), KK D E s := by
  have a3 : va_AO "PolicyWorks$Action" s := hts (.arrayOver (.object "PolicyWorks$Action")) (by decide +kernel)
  have a4 : va_AO "PolicyWorks$Row" s := hts (.arrayOver (.object "PolicyWorks$Row")) (by decide +kernel)
  have a5 : va_AO "PolicyWorks$Whole" s := hts (.arrayOver (.object "PolicyWorks$Whole")) (by decide +kernel)
  have a6 : AOi s := hts (.arrayOver (.array .int)) (by decide +kernel)
  refine ⟨⟨a3, a4, a5, a6⟩, ?_⟩
  obtain ⟨c0, i0, k0⟩ := u_known (C := RX0) (T := TX0) (N := 4) (n := 4) hts inX0 (hts (.instantiable RX0 4) (by decide +kernel))
  obtain ⟨c1, i1, k1⟩ := u_known (C := RX1) (T := TX1) (N := 3) (n := 3) hts inX1 (hts (.instantiable RX1 3) (by decide +kernel))
  obtain ⟨c2, i2, k2⟩ := u_known (C := RX2) (T := TX2) (N := 2) (n := 2) hts inX2 (hts (.instantiable RX2 2) (by decide +kernel))
  obtain ⟨c3, i3, k3⟩ := u_known (C := RX3) (T := TX3) (N := 5) (n := 5) hts inX3 (hts (.instantiable RX3 5) (by decide +kernel))
  obtain ⟨c4, i4, k4⟩ := u_known (C := RX4) (T := TX4) (N := 2) (n := 2) hts inX4 (hts (.instantiable RX4 2) (by decide +kernel))
  obtain ⟨c5, i5, k5⟩ := u_known (C := RX5) (T := TX5) (N := 3) (n := 3) hts inX5 (hts (.instantiable RX5 3) (by decide +kernel))
  obtain ⟨c6, i6, k6⟩ := u_known (C := RX6) (T := TX6) (N := 5) (n := 5) hts inX6 (hts (.instantiable RX6 5) (by decide +kernel))
  obtain ⟨c7, i7, k7⟩ := u_known (C := RX7) (T := TX7) (N := 2) (n := 2) hts inX7 (hts (.instantiable RX7 2) (by decide +kernel))
  obtain ⟨c8, i8, k8⟩ := u_known (C := RX8) (T := TX8) (N := 3) (n := 3) hts inX8 (hts (.instantiable RX8 3) (by decide +kernel))
  obtain ⟨c9, i9, k9⟩ := u_known (C := RX9) (T := TX9) (N := 14) (n := 14) hts inX9 (hts (.instantiable RX9 14) (by decide +kernel))
  obtain ⟨c10, i10, k10⟩ := u_known (C := RX10) (T := TX10) (N := 20) (n := 20) hts inX10 (hts (.instantiable RX10 20) (by decide +kernel))
  obtain ⟨e0, q0, x0, f0, g0, h0⟩ := Cond.arrayClass_spec (hts (.arrayClass .int) (by decide +kernel))
  obtain ⟨e1, q1, x1, f1, g1, h1⟩ := Cond.arrayClass_spec (hts (.arrayClass .long) (by decide +kernel))
  obtain ⟨e2, q2, x2, f2, g2, h2⟩ := Cond.arrayClass_spec (hts (.arrayClass .boolean) (by decide +kernel))
  obtain ⟨x3, e3, q3, f3, _, g3, h3, n3⟩ := Cond.arrayOver_spec a3
  obtain ⟨x4, e4, q4, f4, _, g4, h4, n4⟩ := Cond.arrayOver_spec a4
  obtain ⟨x5, e5, q5, f5, _, g5, h5, n5⟩ := Cond.arrayOver_spec a5
  obtain ⟨x6, e6, q6, f6, _, g6, h6, n6⟩ := arrayOverA_spec a6
  have ar : ∀ {cA : ClassId} {k : Class} {x : ClassId} {ty : FieldType}, s.vm.classes[cA]? = some k → k.kind = .array x ty → ArrOfT s cA ty := fun h1 h2 N z => ⟨(fun k h => by cases h), _, h1, _, h2⟩
  refine ⟨(fun k => match k with | 0 => c0 | 1 => c1 | 2 => c2 | 3 => c3 | 4 => c4 | 5 => c5 | 6 => c6 | 7 => c7 | 8 => c8 | 9 => c9 | _ => c10, fun k => match k with | 0 => i0 | 1 => i1 | 2 => i2 | 3 => i3 | 4 => i4 | 5 => i5 | 6 => i6 | 7 => i7 | 8 => i8 | 9 => i9 | _ => i10), (fun k => match k with | 0 => e0 | 1 => e1 | 2 => e2 | 3 => e3 | 4 => e4 | 5 => e5 | _ => e6), fun k q hq => ?_, fun k q hq => ?_⟩
  · match k, hq with
    | 0, hq => cases hq; exact k0
    | 1, hq => cases hq; exact k1
    | 2, hq => cases hq; exact k2
    | 3, hq => cases hq; exact k3
    | 4, hq => cases hq; exact k4
    | 5, hq => cases hq; exact k5
    | 6, hq => cases hq; exact k6
    | 7, hq => cases hq; exact k7
    | 8, hq => cases hq; exact k8
    | 9, hq => cases hq; exact k9
    | 10, hq => cases hq; exact k10
    | k + 11, hq => simp at hq
  · match k, hq with
    | 0, hq => cases hq; exact ⟨ar g0 h0, f0⟩
    | 1, hq => cases hq; exact ⟨ar g1 h1, f1⟩
    | 2, hq => cases hq; exact ⟨ar g2 h2, f2⟩
    | 3, hq => cases hq; exact ⟨ar g3 h3, _, _, g3, h3, f3, n3⟩
    | 4, hq => cases hq; exact ⟨ar g4 h4, _, _, g4, h4, f4, n4⟩
    | 5, hq => cases hq; exact ⟨ar g5 h5, _, _, g5, h5, f5, n5⟩
    | 6, hq => cases hq; exact ⟨ar g6 h6, n6⟩
    | k + 7, hq => simp [pw_tys] at hq
