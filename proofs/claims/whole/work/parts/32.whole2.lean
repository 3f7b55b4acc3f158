/-! the class's whole numbers: settle, clear, put, copy, add, multiply -/
theorem wh_zero {D : va_G} {E : Nat → ClassId} {a n : Nat} {H : Heap} (h : WR D E a n (fun _ => 0) 0 0 H) : WH D E a n 0 H :=
  ⟨0, h.up (fun j _ => (wdig_0 j).symm), Nat.zero_le _, by decide, fun h => absurd h (Nat.lt_irrefl 0)⟩
theorem wv_ud (f : Nat → Int) (i : Nat) (x : Int) : ∀ n : Nat, i < n → wv (ud f i x) n = wv f n + (x - f i) * 1000000 ^ i
  | 0, h => absurd h (Nat.not_lt_zero i)
  | n + 1, h => by
    show wv (ud f i x) n + ud f i x n * _ = wv f n + f n * _ + _
    by_cases e : i = n
    · subst e
      rw [ud_s, wv_congr (g := f) (fun j hj => ud_n f x (by omega)), Int.sub_mul]
      omega
    · rw [wv_ud f i x n (by omega), ud_n f x (by omega)]
      omega
theorem wk_le {v : Int} {m n k : Nat} (h : wk v m k) (hv : v.natAbs < 1000000 ^ n) : k ≤ n := by
  rcases Nat.lt_or_ge n k with hk | hk
  · have h1 := h.2.2 (by omega)
    have h2 := bp_mono (show n ≤ k - 1 by omega)
    omega
  · exact hk
theorem nat_lt {v : Int} {n : Nat} (hv1 : -(1000000 ^ n) < v) (hv2 : v < 1000000 ^ n) : v.natAbs < 1000000 ^ n := by
  have hp := bp_cast n
  have : ((v.natAbs : Nat) : Int) < ((1000000 ^ n : Nat) : Int) := by omega
  exact_mod_cast this
theorem int_lt {v : Int} {n : Nat} (h : v.natAbs < 1000000 ^ n) : -(1000000 ^ n) < v ∧ v < 1000000 ^ n := by
  have hp := bp_cast n
  have : ((v.natAbs : Nat) : Int) < ((1000000 ^ n : Nat) : Int) := by exact_mod_cast h
  omega
theorem wdig_hi {v : Int} {m k j : Nat} (h : wk v m k) (hj : k ≤ j) : wdig v j = 0 := wdig_zero (Nat.lt_of_lt_of_le h.2.1 (bp_mono hj))
section PY
variable {p : Program} {l : Launch} {e : Env} {R : Room} {s : State} {m : MethodId} {args : Array Value} {below : List Frame} {meth : Method} {c : Code} {H : Heap} {locs : List Loc} {cells slots : Nat} {Q : State → Prop}
variable {cc : ByteArray} {pc : Nat} {ls : Array Slot} {rest : List Value} {D : va_G} {E : Nat → ClassId} {A : Nat → Prop} {H0 : Heap}
theorem pw_copyl (hx : p.tables.exec = Jvm.exec) (hb : c.code = cc) (hml : c.maxLocals = ls.size) {own : String} {index : Nat} (hown : s.vm.findClass own = some m.cls) {Ts : List Cond} (hts : ∀ w ∈ Ts, w.before args s = true) (hin : ∀ w ∈ ([.methodLink own index arraycopyName, .native arraycopyName, .static arraycopyName, .initialized "java/lang/System"] : List Cond), w ∈ Ts)
    (hK : KK D E s) {a a0 n0 n1 k : Nat} {f g : Nat → Int} (hA0 : LA E a0 n0 f H) (hA1 : LA E a n1 g H) (hS : va_S A H0 H locs) (hAa : A a) (h4 : k ≤ n0) (h5 : k ≤ n1) (hk : k < 2147483648)
    (hframes : 1 ≤ R.frames) (hlocals : (rest.map fun v => v.category).sum + (nativeFrameWords "java/lang/System" "arraycopy" 5 + 11) ≤ R.locals) (d : decode cc pc = .ok (.invokestatic index, 3))
    (kk : ∀ (H1 : Heap) (locs1 : List Loc), LA E a n1 (fun j => if j < k then f j else g j) H1 → H1.size = H.size → (∀ q : Nat, q ≠ a → H1[q]? = H[q]?) → va_S A H0 H1 locs1 → W p l e R s m args below meth c H1 locs1 cells slots Q (F0 m (pc + 3) ls rest)) : W p l e R s m args below meth c H locs cells slots Q (F0 m pc ls (.int (iI k) :: .int (iI 0) :: .ref a :: .int (iI 0) :: .ref a0 :: rest)) := by
  have hK0 : va_K D vwCl (pw_tys E) s := hK
  have z0 : ¬ iI 0 < 0 := by decide +kernel
  have zc : (iI 0).toNatClampNeg = 0 := by decide +kernel
  have kc : (iI (k : Int)).toNatClampNeg = k := by rw [← iI_nI]; exact nI_clamp hk
  have zk : ¬ iI (k : Int) < 0 := by rw [← iI_nI]; exact nI_pos hk
  have kt : (iI (k : Int)).toInt = (k : Int) := iI_t (by omega) (by omega)
  have zt : (iI 0).toInt = 0 := by decide +kernel
  intro T hT X
  obtain ⟨-, k0, hk0, cm0, hkk0⟩ := (hK0.2 1 _ rfl).1 n0 (fun j => .long (lI (f j)))
  obtain ⟨-, k1, hk1, cm1, hkk1⟩ := (hK0.2 1 _ rfl).1 n1 (fun j => .long (lI (g j)))
  have w1 := hts (.methodLink own index arraycopyName) (hin _ (by simp))
  have w2 := hts (.native arraycopyName) (hin _ (by simp))
  have w3 := hts (.static arraycopyName) (hin _ (by simp))
  have w4 := hts (.initialized "java/lang/System") (hin _ (by simp))
  have h40 : (iI 0).toNatClampNeg + (iI (k : Int)).toNatClampNeg ≤ n0 := by rw [zc, kc]; omega
  obtain ⟨vm', X', step⟩ := X.arraycopy hx hown w1 w2 w3 w4 (src := a0) (dst := a) (cs := vp_cell (E 1) (n0, .inr (.inl (fun j => lI (f j))))) (cd := vp_cell (E 1) (n1, .inr (.inl (fun j => lI (g j))))) (srcPos := iI 0) (destPos := iI 0) (n := iI (k : Int)) (by rw [hT]; exact hA0) (by rw [hT]; exact hA1)
    (fun _ h => by cases h) (fun _ h => by cases h) (fun h => by cases h) (fun h => by cases h) hk0 hk1 hkk0 hkk1 (by rfl) z0 z0 zk
    (by rw [zt, kt]; show ¬ _ > ((arrV (E 1) n0 (fun j => .long (lI (f j)))).slots.size : Int); rw [arrV_size]; omega)
    (by rw [zt, kt]; show ¬ _ > ((arrV (E 1) n1 (fun j => .long (lI (g j)))).slots.size : Int); rw [arrV_size]; omega)
    (fun vm₁ _ i hi => by
      rw [kc] at hi
      rw [zc]
      have e : (vp_cell (E 1) (n0, .inr (.inl (fun j => lI (f j))))).slots.getD (0 + i) .null = .long (lI (f (0 + i))) := by
        show (arrV (E 1) n0 (fun j => .long (lI (f j)))).slots.getD _ _ = _
        rw [Array.getD_eq_getD_getElem?, arrV_read _ _ (by omega)]
        rfl
      refine ⟨?_, ?_⟩
      · rw [e]
        rfl
      · rw [e]
        exact trivial)
    (g := F0 m pc ls (.int (iI (k : Int)) :: .int (iI 0) :: .ref a :: .int (iI 0) :: .ref a0 :: rest)) rfl (by rw [hml]) (rest := rest) rfl (by rw [hb]; exact d) hframes (by show 2 * 0 + _ + _ ≤ _; omega)
  have e1 : copied (vp_cell (E 1) (n0, .inr (.inl (fun j => lI (f j))))) (vp_cell (E 1) (n1, .inr (.inl (fun j => lI (g j))))) (iI 0) (iI 0) (iI (k : Int)) = vp_cell (E 1) (n1, .inr (.inl (va_cpy (fun j => lI (f j)) (fun j => lI (g j)) (iI 0).toNatClampNeg (iI 0).toNatClampNeg (iI (k : Int)).toNatClampNeg))) := va_copied (fun z => .long z) (E 1) (E 1) (fun j => lI (f j)) (fun j => lI (g j)) h40
  have e2 : va_cpy (fun j => lI (f j)) (fun j => lI (g j)) (iI 0).toNatClampNeg (iI 0).toNatClampNeg (iI (k : Int)).toNatClampNeg = fun j => lI (if j < k then f j else g j) := by
    funext j
    rw [zc, kc]
    by_cases h : j < k
    · rw [pk_cpy_in (by omega) (by omega), if_pos h, Nat.zero_add, Nat.sub_zero]
    · rw [pk_cpy_out (by omega), if_neg h]
  rw [e1, e2] at X' step
  have hl : a < H.size := pw_lt hA1
  have hheap : ((T.setVm vm').setCell a (vp_cell (E 1) (n1, .inr (.inl (fun j => lI (if j < k then f j else g j)))))).heap = H.setIfInBounds a (vp_cell (E 1) (n1, .inr (.inl (fun j => lI (if j < k then f j else g j))))) := by rw [← hT]; rfl
  have oq : ∀ q : Nat, q ≠ a → (H.setIfInBounds a (vp_cell (E 1) (n1, .inr (.inl (fun j => lI (if j < k then f j else g j))))))[q]? = H[q]? := fun q hq => by simp [Array.getElem?_setIfInBounds, Ne.symm hq]
  obtain ⟨t, a1, b1⟩ := kk _ _ (show (H.setIfInBounds a _)[a]? = some _ by simp [Array.getElem?_setIfInBounds, hl]) (by simp) oq ⟨by simp; exact hS.1, fun q g1 g2 => by
      rw [oq q (fun e => g2 (by rw [e]; exact hAa))]
      exact hS.2.1 q g1 g2, fun q hq => by
      rcases List.mem_append.mp hq with h | h
      · exact hS.2.2 q h
      · obtain ⟨z, -, hz⟩ := List.mem_map.mp h
        rw [← hz]
        exact hAa⟩ _ hheap X'
  exact ⟨t, step t a1, b1⟩
end PY
set_option maxHeartbeats 4000000 in
set_option maxRecDepth 100000 in
/-- settle(): what is piled up becomes a settled number -/
theorem c_settle (l : Launch) (D : va_G) (E : Nat → ClassId) (a n : Nat) (f : Nat → Int) (sz sg : Int) (hn : n < 1000) (hf : ∀ j, j < n → -9000000000000000000 ≤ f j ∧ f j ≤ 9000000000000000000) (hv1 : -(1000000 ^ n) < wv f n) (hv2 : wv f n < 1000000 ^ n) : pw_M rvV l D E yX8_settle wsX8_settle ({ frames := 1, cells := 0, slots := 0, locals := 25 } : Room) [.ref (a)] (fun H => WR D E a n f sz sg H) (fun _ H => WH D E a n (wv f n) H) (fun q => q = a ∨ q = a + 1) (0) (0) := by
  refine pw_of (cc := cX8_settle) (maxL := 6) (ret := none) (by decide +kernel) rfl (Nat.le_of_ble_eq_true rfl) ?_
  intro p e s m args below meth c hx hb hr hml hts hown hlocks hini hK ⟨hO, hL⟩ ls hl
  have hown : s.vm.findClass RX8 = some m.cls := hown
  have hl : lv_has ls 6 [(0, .ref (a))] := hl
  have hS : va_S (fun q => q = a ∨ q = a + 1) s.heap s.heap [] := va_S.rf
  have lk_7 := hts (.fieldLink RX8 7 "PolicyWorks$Whole" "limbs" "[J") (by decide +kernel)
  have kc_44 := hts (.constantLong RX8 44 (1000000)) (by decide +kernel)
  have hin8 : ∀ w ∈ wsX80, w ∈ wsX8_settle := by decide +kernel
  have loop : ∀ (k i : Nat) (g : Nat → Int) (H : Heap) (locs : List Loc) (ls : Array Slot), i + k = n → (∀ j, j < i → g j = sd f j) → (∀ j, i ≤ j → j < n → g j = f j) → OA D (a) 8 [.ref (a + 1), .int (iI (sz)), .int (iI (sg))] H → LA E (a + 1) n g H → va_S (fun q => q = a ∨ q = a + 1) s.heap H locs → lv_has ls 6 [(0, .ref (a)), (1, .long (lI (sc f i))), (3, .int (iI ((i : Int))))] → W p l e ({ frames := 1, cells := 0, slots := 0, locals := 25 } : Room) s m args below meth c H locs (0) (0) (MQ below (pw_Q rvV (fun _ H => WH D E a n (wv f n) H) (fun q => q = a ∨ q = a + 1)) args s (0) (0) (fun q => q = a ∨ q = a + 1)) (F0 m 4 ls []) := by
    intro k
    induction k with
    | zero =>
      intro i g H locs ls hi h0 h1 hO hL hS hl
      have hL := hL.up (g := sd f) (fun j hj => h0 j (by omega))
      have ein : i = n := by omega
      subst ein
      have hcb := sc_b hf i (Nat.le_refl i)
      refine lv_iload_n hx hb dX8_settle_4 rfl (lv_at hl 2 rfl) ?_
      refine lv_aload_n hx hb dX8_settle_5 rfl (lv_at hl 0 rfl) ?_
      refine pw_get (C := RX8) (T := TX8) (N := 3) hx hb hts hin8 hown hK hO rfl 0 (by decide) lk_7 rfl rfl dX8_settle_6 ?_
      refine pw_alen (n := i) (k0 := 1) hx hb hK hL rfl rfl dX8_settle_9 ?_
      refine pw_icmp_ge (tgt := 52) hx hb dX8_settle_10 (by decide) (fun c_10 => ?_) (fun c_10 => absurd c_10 (by omega))
      refine lv_lload_n hx hb dX8_settle_52 rfl (lv_at hl 1 rfl) ?_
      refine pw_lconst (z := 0) hx hb dX8_settle_53 ?_
      refine pw_lcmp_ge (tgt := 62) hx hb dX8_settle_54 dX8_settle_55 (by decide) (fun c_54 => ?_) (fun c_54 => ?_)
      · refine lv_aload_n hx hb dX8_settle_62 rfl (lv_at hl 0 rfl) ?_
        refine pw_callVv (As := []) (rest := []) ⟨hx, hb, hml, hown, hts⟩ (c_measure l D E a i (sd f) sz sg hn (fun j hj => by have := sd_b f j; omega)) (cwV 0 hts gX8_settle_X8_measure rfl rfl rfl (by decide +kernel) ⟨Nat.le_of_ble_eq_true rfl, Nat.le_of_ble_eq_true rfl⟩) hK hO rfl ⟨hO, hL⟩ rfl hl.1 rfl (by decide) dX8_settle_63 ⟨Nat.zero_le _, Nat.zero_le _⟩ hS (fun q h => h) (fun H1 locs1 ⟨k, hk, h0, h1, hW⟩ hz1 hk1 hS => ?_)
        exact pw_vret hx hb hr hlocks hS (wh_of hv1 hv2 (settle_pos hv1 hv2 c_54) hk h0 h1 hW) dX8_settle_66
      · refine lv_aload_n hx hb dX8_settle_58 rfl (lv_at hl 0 rfl) ?_
        refine pw_callVv (As := []) (rest := []) ⟨hx, hb, hml, hown, hts⟩ (c_turnNegative l D E a i (sd f) sz sg hn (fun j _ => by have := sd_b f j; omega)) (cwV 0 hts gX8_settle_X8_turnNegative rfl rfl rfl (by decide +kernel) ⟨Nat.le_of_ble_eq_true rfl, Nat.le_of_ble_eq_true rfl⟩) hK hO rfl ⟨hO, hL⟩ rfl hl.1 rfl (by decide) dX8_settle_59 ⟨Nat.zero_le _, Nat.zero_le _⟩ hS (fun q h => h) (fun H1 locs1 ⟨hO, hL⟩ hz1 hk1 hS => ?_)
        refine lv_aload_n hx hb dX8_settle_62 rfl (lv_at hl 0 rfl) ?_
        refine pw_callVv (As := []) (rest := []) ⟨hx, hb, hml, hown, hts⟩ (c_measure l D E a i (tn (sd f)) sz sg hn (fun j hj => by have := tn_b (fun j _ => sd_b f j) j hj; omega)) (cwV 0 hts gX8_settle_X8_measure rfl rfl rfl (by decide +kernel) ⟨Nat.le_of_ble_eq_true rfl, Nat.le_of_ble_eq_true rfl⟩) hK hO rfl ⟨hO, hL⟩ rfl hl.1 rfl (by decide) dX8_settle_63 ⟨Nat.zero_le _, Nat.zero_le _⟩ hS (fun q h => h) (fun H1 locs1 ⟨k, hk, h0, h1, hW⟩ hz1 hk1 hS => ?_)
        exact pw_vret hx hb hr hlocks hS (wh_of hv1 hv2 (settle_neg hv1 hv2 c_54) hk h0 h1 hW) dX8_settle_66
    | succ k ih =>
      intro i g H locs ls hi h0 h1 hO hL hS hl
      have hgi := h1 i (Nat.le_refl i) (by omega)
      have hfi := hf i (by omega)
      have hcb := sc_b hf i (by omega)
      refine lv_iload_n hx hb dX8_settle_4 rfl (lv_at hl 2 rfl) ?_
      refine lv_aload_n hx hb dX8_settle_5 rfl (lv_at hl 0 rfl) ?_
      refine pw_get (C := RX8) (T := TX8) (N := 3) hx hb hts hin8 hown hK hO rfl 0 (by decide) lk_7 rfl rfl dX8_settle_6 ?_
      refine pw_alen (n := n) (k0 := 1) hx hb hK hL rfl rfl dX8_settle_9 ?_
      refine pw_icmp_ge (tgt := 52) hx hb dX8_settle_10 (by decide) (fun c_10 => absurd c_10 (by omega)) (fun c_10 => ?_)
      refine lv_aload_n hx hb dX8_settle_13 rfl (lv_at hl 0 rfl) ?_
      refine pw_get (C := RX8) (T := TX8) (N := 3) hx hb hts hin8 hown hK hO rfl 0 (by decide) lk_7 rfl rfl dX8_settle_14 ?_
      refine lv_iload_n hx hb dX8_settle_17 rfl (lv_at hl 2 rfl) ?_
      refine pw_lald hx hb hK hL (i) rfl (by omega) (by omega) dX8_settle_18 ?_
      refine lv_lload_n hx hb dX8_settle_19 rfl (lv_at hl 1 rfl) ?_
      refine pw_ladd hx hb dX8_settle_20 ?_
      refine pw_asl (f i + sc f i) (by rw [hgi]) ?_
      refine lv_lstore (lv' := [(4, .long (lI (f i + sc f i))), (0, .ref (a)), (1, .long (lI (sc f i))), (3, .int (iI ((i : Int))))]) hx hb dX8_settle_21 hl (by decide) rfl (fun ls hl => ?_)
      refine lv_lload hx hb dX8_settle_23 (lv_at hl 0 rfl) ?_
      refine pw_ldc2 (z := 1000000) hx hb hown kc_44 (by decide +kernel) dX8_settle_25 ?_
      refine pw_callSl (As := [.long (lI (f i + sc f i)), .long (lI (1000000))]) (rest := []) ⟨hx, hb, hml, hown, hts⟩ (c_floorDiv l D E (f i + sc f i) 1000000 (by omega) (by omega) (by omega) (by omega)) (va_cwS 2 hts gX8_settle_J9_floorDiv_f86c9 rfl rfl rfl (by decide +kernel) ⟨Nat.le_of_ble_eq_true rfl, Nat.le_of_ble_eq_true rfl⟩) hK trivial rfl hl.1 rfl (by decide) dX8_settle_28 ⟨Nat.zero_le _, Nat.zero_le _⟩ hS (fun q h => h.elim) (fun z H1 locs1 hz hz1 hk1 hS => ?_)
      have hO := hO.k (hk1 _ hO.lt (fun h => h))
      have hL := hL.k (hk1 _ hL.lt (fun h => h))
      have hz : z = sc f (i + 1) := hz.1
      subst hz
      refine lv_lstore_n (lv' := [(1, .long (lI (sc f (i + 1)))), (4, .long (lI (f i + sc f i))), (0, .ref (a)), (3, .int (iI ((i : Int))))]) hx hb dX8_settle_31 rfl hl (by decide) rfl (fun ls hl => ?_)
      refine lv_aload_n hx hb dX8_settle_32 rfl (lv_at hl 2 rfl) ?_
      refine pw_get (C := RX8) (T := TX8) (N := 3) hx hb hts hin8 hown hK hO rfl 0 (by decide) lk_7 rfl rfl dX8_settle_33 ?_
      refine lv_iload_n hx hb dX8_settle_36 rfl (lv_at hl 3 rfl) ?_
      refine lv_lload hx hb dX8_settle_37 (lv_at hl 1 rfl) ?_
      refine lv_lload_n hx hb dX8_settle_39 rfl (lv_at hl 0 rfl) ?_
      refine pw_ldc2 (z := 1000000) hx hb hown kc_44 (by decide +kernel) dX8_settle_40 ?_
      refine pw_lmul hx hb dX8_settle_43 ?_
      refine pw_lsub hx hb dX8_settle_44 ?_
      refine pw_last hx hb hK hL hS (Or.inr rfl) (i) rfl (by omega) (by omega) dX8_settle_45 (fun H1 locs1 hnew hz1 oq hS => ?_)
      have hO := hO.k (oq _ (by omega))
      have hL := hnew
      clear hnew oq hz1
      refine lv_iinc (v := iI (((i + 1 : Nat) : Int))) (lv' := [(3, .int (iI (((i + 1 : Nat) : Int)))), (1, .long (lI (sc f (i + 1)))), (4, .long (lI (f i + sc f i))), (0, .ref (a))]) hx hb dX8_settle_46 hl (k := 3) rfl (by show iI _ + iI _ = _; rw [iI_add]; first | rfl | (congr 1; omega)) (by decide) rfl (fun ls hl => ?_)
      refine lv_goto (tgt := 4) hx hb dX8_settle_49 (by decide) ?_
      exact ih (i + 1) _ _ _ _ (by omega) (fun j hj => ud_ext h0 rfl j hj) (fun j h2 h3 => by rw [ud_n _ _ (by omega)]; exact h1 j (by omega) h3) hO hL hS (lv_sub hl [3, 1, 0] rfl)
  refine pw_lconst (z := 0) hx hb dX8_settle_0 ?_
  refine lv_lstore_n (lv' := [(1, .long (lI (0))), (0, .ref (a))]) hx hb dX8_settle_1 rfl hl (by decide) rfl (fun ls hl => ?_)
  refine pw_iconst hx hb dX8_settle_2 ?_
  refine lv_istore_n (lv' := [(3, .int (iI (0))), (1, .long (lI (0))), (0, .ref (a))]) hx hb dX8_settle_3 rfl hl (by decide) rfl (fun ls hl => ?_)
  exact loop n 0 f _ _ _ (by omega) (fun j hj => by omega) (fun j _ _ => rfl) hO hL hS (lv_sub hl [2, 1, 0] rfl)
set_option maxHeartbeats 4000000 in
set_option maxRecDepth 100000 in
/-- clear() -/
theorem c_clear (l : Launch) (D : va_G) (E : Nat → ClassId) (a n : Nat) (f : Nat → Int) (sz sg : Int) (hn : n < 1000) : pw_M rvV l D E yX8_clear wsX8_clear ({ frames := 1, cells := 0, slots := 0, locals := 24 } : Room) [.ref (a)] (fun H => WR D E a n f sz sg H) (fun _ H => WR D E a n (fun _ => 0) 0 0 H) (fun q => q = a ∨ q = a + 1) (0) (0) := by
  refine pw_of (cc := cX8_clear) (maxL := 1) (ret := none) (by decide +kernel) rfl (Nat.le_of_ble_eq_true rfl) ?_
  intro p e s m args below meth c hx hb hr hml hts hown hlocks hini hK ⟨hO, hL⟩ ls hl
  have hown : s.vm.findClass RX8 = some m.cls := hown
  have hl : lv_has ls 1 [(0, .ref (a))] := hl
  have hS : va_S (fun q => q = a ∨ q = a + 1) s.heap s.heap [] := va_S.rf
  have lk_7 := hts (.fieldLink RX8 7 "PolicyWorks$Whole" "limbs" "[J") (by decide +kernel)
  have lk_13 := hts (.fieldLink RX8 13 "PolicyWorks$Whole" "size" "I") (by decide +kernel)
  have lk_17 := hts (.fieldLink RX8 17 "PolicyWorks$Whole" "sign" "I") (by decide +kernel)
  have hin8 : ∀ w ∈ wsX80, w ∈ wsX8_clear := by decide +kernel
  refine lv_aload_n hx hb dX8_clear_0 rfl (lv_at hl 0 rfl) ?_
  refine pw_get (C := RX8) (T := TX8) (N := 3) hx hb hts hin8 hown hK hO rfl 0 (by decide) lk_7 rfl rfl dX8_clear_1 ?_
  refine pw_lconst (z := 0) hx hb dX8_clear_4 ?_
  refine pw_callSv (As := [.ref (a + 1), .long (lI (0))]) (rest := []) ⟨hx, hb, hml, hown, hts⟩ (c_fillL l D E (a + 1) n f 0 (by omega)) (va_cwS 2 hts gX8_clear_J7_fill_d0a16 rfl rfl rfl (by decide +kernel) ⟨Nat.le_of_ble_eq_true rfl, Nat.le_of_ble_eq_true rfl⟩) hK hL rfl hl.1 rfl (by decide) dX8_clear_5 ⟨Nat.zero_le _, Nat.zero_le _⟩ hS (fun q h => Or.inr h) (fun H1 locs1 hL hz1 hk1 hS => ?_)
  have hO := hO.k (hk1 _ hO.lt (by (try dsimp only); omega))
  refine lv_aload_n hx hb dX8_clear_8 rfl (lv_at hl 0 rfl) ?_
  refine pw_iconst hx hb dX8_clear_9 ?_
  refine pw_put (C := RX8) (T := TX8) (N := 3) hx hb hts hin8 tyX8 tyX8_ok nmX8 hown hK hO hS (Or.inl rfl) rfl 1 (by decide) lk_13 rfl rfl rfl rfl (by show _ < 3; decide) dX8_clear_10 (fun H1 locs1 hnew hz1 oq hS => ?_)
  have hL := hL.k (oq _ (by omega))
  have hO : OA D (a) 8 [.ref (a + 1), .int (iI (0)), .int (iI (sg))] H1 := hnew
  clear hnew oq hz1
  refine lv_aload_n hx hb dX8_clear_13 rfl (lv_at hl 0 rfl) ?_
  refine pw_iconst hx hb dX8_clear_14 ?_
  refine pw_put (C := RX8) (T := TX8) (N := 3) hx hb hts hin8 tyX8 tyX8_ok nmX8 hown hK hO hS (Or.inl rfl) rfl 2 (by decide) lk_17 rfl rfl rfl rfl (by show _ < 3; decide) dX8_clear_15 (fun H1 locs1 hnew hz1 oq hS => ?_)
  have hL := hL.k (oq _ (by omega))
  have hO : OA D (a) 8 [.ref (a + 1), .int (iI (0)), .int (iI (0))] H1 := hnew
  clear hnew oq hz1
  exact pw_vret hx hb hr hlocks hS ⟨hO, hL⟩ dX8_clear_18
set_option maxHeartbeats 4000000 in
set_option maxRecDepth 100000 in
/-- put(x) -/
theorem c_put (l : Launch) (D : va_G) (E : Nat → ClassId) (a n : Nat) (f : Nat → Int) (sz sg x : Int) (hn : n < 1000) (hn0 : 0 < n) (hx1 : -9000000000000000000 ≤ x) (hx2 : x ≤ 9000000000000000000) (hv1 : -(1000000 ^ n) < x) (hv2 : x < 1000000 ^ n) : pw_M rvV l D E yX8_put wsX8_put ({ frames := 2, cells := 0, slots := 0, locals := 50 } : Room) [.ref (a), .long (lI (x))] (fun H => WR D E a n f sz sg H) (fun _ H => WH D E a n x H) (fun q => q = a ∨ q = a + 1) (0) (0) := by
  refine pw_of (cc := cX8_put) (maxL := 3) (ret := none) (by decide +kernel) rfl (Nat.le_of_ble_eq_true rfl) ?_
  intro p e s m args below meth c hx hb hr hml hts hown hlocks hini hK ⟨hO, hL⟩ ls hl
  have hown : s.vm.findClass RX8 = some m.cls := hown
  have hl : lv_has ls 3 [(0, .ref (a)), (1, .long (lI (x)))] := hl
  have hS : va_S (fun q => q = a ∨ q = a + 1) s.heap s.heap [] := va_S.rf
  have lk_7 := hts (.fieldLink RX8 7 "PolicyWorks$Whole" "limbs" "[J") (by decide +kernel)
  have hin8 : ∀ w ∈ wsX80, w ∈ wsX8_put := by decide +kernel
  have ev : wv (ud (fun _ => 0) 0 x) n = x := by rw [wv_ud _ 0 x n hn0, wv_zero]; simp
  refine lv_aload_n hx hb dX8_put_0 rfl (lv_at hl 0 rfl) ?_
  refine pw_callVv (As := []) (rest := []) ⟨hx, hb, hml, hown, hts⟩ (c_clear l D E a n f sz sg hn) (cwV 0 hts gX8_put_X8_clear rfl rfl rfl (by decide +kernel) ⟨Nat.le_of_ble_eq_true rfl, Nat.le_of_ble_eq_true rfl⟩) hK hO rfl ⟨hO, hL⟩ rfl hl.1 rfl (by decide) dX8_put_1 ⟨Nat.zero_le _, Nat.zero_le _⟩ hS (fun q h => h) (fun H1 locs1 ⟨hO, hL⟩ hz1 hk1 hS => ?_)
  refine lv_aload_n hx hb dX8_put_4 rfl (lv_at hl 0 rfl) ?_
  refine pw_get (C := RX8) (T := TX8) (N := 3) hx hb hts hin8 hown hK hO rfl 0 (by decide) lk_7 rfl rfl dX8_put_5 ?_
  refine pw_iconst hx hb dX8_put_8 ?_
  refine lv_lload_n hx hb dX8_put_9 rfl (lv_at hl 1 rfl) ?_
  refine pw_last hx hb hK hL hS (Or.inr rfl) (0) rfl (by omega) (by omega) dX8_put_10 (fun H1 locs1 hnew hz1 oq hS => ?_)
  have hO := hO.k (oq _ (by omega))
  have hL := hnew
  clear hnew oq hz1
  refine lv_aload_n hx hb dX8_put_11 rfl (lv_at hl 0 rfl) ?_
  refine pw_callVv (As := []) (rest := []) ⟨hx, hb, hml, hown, hts⟩ (c_settle l D E a n (ud (fun _ => 0) 0 x) 0 0 hn (fun j _ => by simp only [ud]; split <;> omega) (by rw [ev]; exact hv1) (by rw [ev]; exact hv2)) (cwV 0 hts gX8_put_X8_settle rfl rfl rfl (by decide +kernel) ⟨Nat.le_of_ble_eq_true rfl, Nat.le_of_ble_eq_true rfl⟩) hK hO rfl ⟨hO, hL⟩ rfl hl.1 rfl (by decide) dX8_put_12 ⟨Nat.zero_le _, Nat.zero_le _⟩ hS (fun q h => h) (fun H1 locs1 hW hz1 hk1 hS => ?_)
  rw [ev] at hW
  exact pw_vret hx hb hr hlocks hS hW dX8_put_15
set_option maxHeartbeats 4000000 in
set_option maxRecDepth 100000 in
/-- add(more, times): piles up -/
theorem c_add (l : Launch) (D : va_G) (E : Nat → ClassId) (a n b nb : Nat) (f : Nat → Int) (sz sg v t : Int) (hn : n < 1000) (hnb : nb < 1000) (hab : a + 1 < b ∨ b + 1 < a) : pw_M rvV l D E yX8_add wsX8_add ({ frames := 1, cells := 0, slots := 0, locals := 40 } : Room) [.ref (a), .ref (b), .long (lI (t))] (fun H => WR D E a n f sz sg H ∧ WH D E b nb v H) (fun _ H => WR D E a n (fun j => f j + t * wdig v j) sz sg H) (fun q => q = a ∨ q = a + 1) (0) (0) := by
  refine pw_of (cc := cX8_add) (maxL := 6) (ret := none) (by decide +kernel) rfl (Nat.le_of_ble_eq_true rfl) ?_
  intro p e s m args below meth c hx hb hr hml hts hown hlocks hini hK ⟨⟨hO, hL⟩, kb, ⟨hOb, hLb⟩, hkb⟩ ls hl
  have hown : s.vm.findClass RX8 = some m.cls := hown
  have hl : lv_has ls 6 [(0, .ref (a)), (1, .ref (b)), (2, .long (lI (t)))] := hl
  have hS : va_S (fun q => q = a ∨ q = a + 1) s.heap s.heap [] := va_S.rf
  have lk_7 := hts (.fieldLink RX8 7 "PolicyWorks$Whole" "limbs" "[J") (by decide +kernel)
  have lk_13 := hts (.fieldLink RX8 13 "PolicyWorks$Whole" "size" "I") (by decide +kernel)
  have hin8 : ∀ w ∈ wsX80, w ∈ wsX8_add := by decide +kernel
  have hkb1 := hkb.1
  have loop : ∀ (k i : Nat) (g : Nat → Int) (H : Heap) (locs : List Loc) (ls : Array Slot), i + k = min kb n → (∀ j, j < i → g j = f j + t * wdig v j) → (∀ j, i ≤ j → j < n → g j = f j) → OA D (a) 8 [.ref (a + 1), .int (iI (sz)), .int (iI (sg))] H → LA E (a + 1) n g H → OA D (b) 8 [.ref (b + 1), .int (iI ((kb : Int))), .int (iI (v.sign))] H → LA E (b + 1) nb (wdig v) H → va_S (fun q => q = a ∨ q = a + 1) s.heap H locs → lv_has ls 6 [(0, .ref (a)), (1, .ref (b)), (2, .long (lI (t))), (4, .int (iI (min (kb : Int) (n : Int)))), (5, .int (iI ((i : Int))))] → W p l e ({ frames := 1, cells := 0, slots := 0, locals := 40 } : Room) s m args below meth c H locs (0) (0) (MQ below (pw_Q rvV (fun _ H => WR D E a n (fun j => f j + t * wdig v j) sz sg H) (fun q => q = a ∨ q = a + 1)) args s (0) (0) (fun q => q = a ∨ q = a + 1)) (F0 m 17 ls []) := by
    intro k
    induction k with
    | zero =>
      intro i g H locs ls hi h0 h1 hO hL hOb hLb hS hl
      refine lv_iload hx hb dX8_add_17 (lv_at hl 4 rfl) ?_
      refine lv_iload hx hb dX8_add_19 (lv_at hl 3 rfl) ?_
      refine pw_icmp_ge (tgt := 49) hx hb dX8_add_21 (by decide) (fun c_21 => ?_) (fun c_21 => absurd c_21 (by omega))
      exact pw_vret hx hb hr hlocks hS ⟨hO, hL.up (fun j hj => by
        by_cases e : j < i
        · exact h0 j e
        · rw [h1 j (by omega) hj, wdig_hi hkb (by omega)]; omega)⟩ dX8_add_49
    | succ k ih =>
      intro i g H locs ls hi h0 h1 hO hL hOb hLb hS hl
      have hgi := h1 i (Nat.le_refl i) (by omega)
      refine lv_iload hx hb dX8_add_17 (lv_at hl 4 rfl) ?_
      refine lv_iload hx hb dX8_add_19 (lv_at hl 3 rfl) ?_
      refine pw_icmp_ge (tgt := 49) hx hb dX8_add_21 (by decide) (fun c_21 => absurd c_21 (by omega)) (fun c_21 => ?_)
      refine lv_aload_n hx hb dX8_add_24 rfl (lv_at hl 0 rfl) ?_
      refine pw_get (C := RX8) (T := TX8) (N := 3) hx hb hts hin8 hown hK hO rfl 0 (by decide) lk_7 rfl rfl dX8_add_25 ?_
      refine lv_iload hx hb dX8_add_28 (lv_at hl 4 rfl) ?_
      refine lv_dup2_11 hx hb dX8_add_30 rfl rfl ?_
      refine pw_lald hx hb hK hL (i) rfl (by omega) (by omega) dX8_add_31 ?_
      refine pw_asl (f i) hgi ?_
      refine lv_lload_n hx hb dX8_add_32 rfl (lv_at hl 2 rfl) ?_
      refine lv_aload_n hx hb dX8_add_33 rfl (lv_at hl 1 rfl) ?_
      refine pw_get (C := RX8) (T := TX8) (N := 3) hx hb hts hin8 hown hK hOb rfl 0 (by decide) lk_7 rfl rfl dX8_add_34 ?_
      refine lv_iload hx hb dX8_add_37 (lv_at hl 4 rfl) ?_
      refine pw_lald hx hb hK hLb (i) rfl (by omega) (by omega) dX8_add_39 ?_
      refine pw_lmul hx hb dX8_add_40 ?_
      refine pw_ladd hx hb dX8_add_41 ?_
      refine pw_last hx hb hK hL hS (Or.inr rfl) (i) rfl (by omega) (by omega) dX8_add_42 (fun H1 locs1 hnew hz1 oq hS => ?_)
      have hO := hO.k (oq _ (by omega))
      have hOb := hOb.k (oq _ (by omega))
      have hLb := hLb.k (oq _ (by omega))
      have hL := hnew
      clear hnew oq hz1
      refine lv_iinc (v := iI (((i + 1 : Nat) : Int))) (lv' := [(5, .int (iI (((i + 1 : Nat) : Int)))), (0, .ref (a)), (1, .ref (b)), (2, .long (lI (t))), (4, .int (iI (min (kb : Int) (n : Int))))]) hx hb dX8_add_43 hl (k := 4) rfl (by show iI _ + iI _ = _; rw [iI_add]; first | rfl | (congr 1; omega)) (by decide) rfl (fun ls hl => ?_)
      refine lv_goto (tgt := 17) hx hb dX8_add_46 (by decide) ?_
      exact ih (i + 1) _ _ _ _ (by omega) (fun j hj => ud_ext h0 rfl j hj) (fun j h2 h3 => by rw [ud_n _ _ (by omega)]; exact h1 j (by omega) h3) hO hL hOb hLb hS (lv_sub hl [1, 2, 3, 4, 0] rfl)
  refine lv_aload_n hx hb dX8_add_0 rfl (lv_at hl 1 rfl) ?_
  refine pw_get (C := RX8) (T := TX8) (N := 3) hx hb hts hin8 hown hK hOb rfl 1 (by decide) lk_13 rfl rfl dX8_add_1 ?_
  refine lv_aload_n hx hb dX8_add_4 rfl (lv_at hl 0 rfl) ?_
  refine pw_get (C := RX8) (T := TX8) (N := 3) hx hb hts hin8 hown hK hO rfl 0 (by decide) lk_7 rfl rfl dX8_add_5 ?_
  refine pw_alen (n := n) (k0 := 1) hx hb hK hL rfl rfl dX8_add_8 ?_
  refine pw_mmin hx hb (hml.trans hl.1.symm) hown hts (by decide +kernel) (Nat.le_of_ble_eq_true rfl) (Nat.le_of_ble_eq_true rfl) (Nat.le_of_ble_eq_true rfl) (Nat.le_of_ble_eq_true rfl) dX8_add_9 ?_
  refine lv_istore (lv' := [(4, .int (iI (min ((kb : Int)) ((n : Int))))), (0, .ref (a)), (1, .ref (b)), (2, .long (lI (t)))]) hx hb dX8_add_12 hl (by decide) rfl (fun ls hl => ?_)
  refine pw_iconst hx hb dX8_add_14 ?_
  refine lv_istore (lv' := [(5, .int (iI (0))), (4, .int (iI (min ((kb : Int)) ((n : Int))))), (0, .ref (a)), (1, .ref (b)), (2, .long (lI (t)))]) hx hb dX8_add_15 hl (by decide) rfl (fun ls hl => ?_)
  exact loop (min kb n) 0 f _ _ _ (by omega) (fun j hj => by omega) (fun j _ _ => rfl) hO hL hOb hLb hS (lv_sub hl [2, 3, 4, 1, 0] rfl)
set_option maxHeartbeats 4000000 in
set_option maxRecDepth 100000 in
/-- multiply(t) -/
theorem c_multiply (l : Launch) (D : va_G) (E : Nat → ClassId) (a n : Nat) (v t : Int) (hn : n < 1000) (ht1 : -9000000000000 ≤ t) (ht2 : t ≤ 9000000000000) (hv1 : -(1000000 ^ n) < v * t) (hv2 : v * t < 1000000 ^ n) : pw_M rvV l D E yX8_multiply wsX8_multiply ({ frames := 2, cells := 0, slots := 0, locals := 50 } : Room) [.ref (a), .long (lI (t))] (fun H => WH D E a n v H) (fun _ H => WH D E a n (v * t) H) (fun q => q = a ∨ q = a + 1) (0) (0) := by
  refine pw_of (cc := cX8_multiply) (maxL := 4) (ret := none) (by decide +kernel) rfl (Nat.le_of_ble_eq_true rfl) ?_
  intro p e s m args below meth c hx hb hr hml hts hown hlocks hini hK ⟨ka, ⟨hO, hL⟩, hka⟩ ls hl
  have hown : s.vm.findClass RX8 = some m.cls := hown
  have hl : lv_has ls 4 [(0, .ref (a)), (1, .long (lI (t)))] := hl
  have hS : va_S (fun q => q = a ∨ q = a + 1) s.heap s.heap [] := va_S.rf
  have lk_7 := hts (.fieldLink RX8 7 "PolicyWorks$Whole" "limbs" "[J") (by decide +kernel)
  have lk_13 := hts (.fieldLink RX8 13 "PolicyWorks$Whole" "size" "I") (by decide +kernel)
  have hin8 : ∀ w ∈ wsX80, w ∈ wsX8_multiply := by decide +kernel
  have hka1 := hka.1
  have ev : wv (fun j => wdig v j * t) n = v * t := by rw [wv_mul, wv_wdig (wh_bound hka)]
  have hbd : ∀ j, -9000000000000000000 ≤ wdig v j * t ∧ wdig v j * t ≤ 9000000000000000000 := fun j => by
    have h1 := wdig_b v j
    have h2 : (wdig v j * t).natAbs ≤ 1000000 * 9000000000000 := by rw [Int.natAbs_mul]; exact Nat.mul_le_mul (by omega) (by omega)
    omega
  have loop : ∀ (k i : Nat) (g : Nat → Int) (H : Heap) (locs : List Loc) (ls : Array Slot), i + k = ka → (∀ j, j < i → g j = wdig v j * t) → (∀ j, i ≤ j → j < n → g j = wdig v j) → OA D (a) 8 [.ref (a + 1), .int (iI ((ka : Int))), .int (iI (v.sign))] H → LA E (a + 1) n g H → va_S (fun q => q = a ∨ q = a + 1) s.heap H locs → lv_has ls 4 [(0, .ref (a)), (1, .long (lI (t))), (3, .int (iI ((i : Int))))] → W p l e ({ frames := 2, cells := 0, slots := 0, locals := 50 } : Room) s m args below meth c H locs (0) (0) (MQ below (pw_Q rvV (fun _ H => WH D E a n (v * t) H) (fun q => q = a ∨ q = a + 1)) args s (0) (0) (fun q => q = a ∨ q = a + 1)) (F0 m 2 ls []) := by
    intro k
    induction k with
    | zero =>
      intro i g H locs ls hi h0 h1 hO hL hS hl
      have hL := hL.up (g := fun j => wdig v j * t) (fun j hj => by
        by_cases e : j < i
        · exact h0 j e
        · rw [h1 j (by omega) hj, wdig_hi hka (by omega)]; omega)
      refine lv_iload_n hx hb dX8_multiply_2 rfl (lv_at hl 2 rfl) ?_
      refine lv_aload_n hx hb dX8_multiply_3 rfl (lv_at hl 0 rfl) ?_
      refine pw_get (C := RX8) (T := TX8) (N := 3) hx hb hts hin8 hown hK hO rfl 1 (by decide) lk_13 rfl rfl dX8_multiply_4 ?_
      refine pw_icmp_ge (tgt := 26) hx hb dX8_multiply_7 (by decide) (fun c_7 => ?_) (fun c_7 => absurd c_7 (by omega))
      refine lv_aload_n hx hb dX8_multiply_26 rfl (lv_at hl 0 rfl) ?_
      refine pw_callVv (As := []) (rest := []) ⟨hx, hb, hml, hown, hts⟩ (c_settle l D E a n (fun j => wdig v j * t) ka v.sign hn (fun j _ => hbd j) (by rw [ev]; exact hv1) (by rw [ev]; exact hv2)) (cwV 0 hts gX8_multiply_X8_settle rfl rfl rfl (by decide +kernel) ⟨Nat.le_of_ble_eq_true rfl, Nat.le_of_ble_eq_true rfl⟩) hK hO rfl ⟨hO, hL⟩ rfl hl.1 rfl (by decide) dX8_multiply_27 ⟨Nat.zero_le _, Nat.zero_le _⟩ hS (fun q h => h) (fun H1 locs1 hW hz1 hk1 hS => ?_)
      rw [ev] at hW
      exact pw_vret hx hb hr hlocks hS hW dX8_multiply_30
    | succ k ih =>
      intro i g H locs ls hi h0 h1 hO hL hS hl
      have hgi := h1 i (Nat.le_refl i) (by omega)
      refine lv_iload_n hx hb dX8_multiply_2 rfl (lv_at hl 2 rfl) ?_
      refine lv_aload_n hx hb dX8_multiply_3 rfl (lv_at hl 0 rfl) ?_
      refine pw_get (C := RX8) (T := TX8) (N := 3) hx hb hts hin8 hown hK hO rfl 1 (by decide) lk_13 rfl rfl dX8_multiply_4 ?_
      refine pw_icmp_ge (tgt := 26) hx hb dX8_multiply_7 (by decide) (fun c_7 => absurd c_7 (by omega)) (fun c_7 => ?_)
      refine lv_aload_n hx hb dX8_multiply_10 rfl (lv_at hl 0 rfl) ?_
      refine pw_get (C := RX8) (T := TX8) (N := 3) hx hb hts hin8 hown hK hO rfl 0 (by decide) lk_7 rfl rfl dX8_multiply_11 ?_
      refine lv_iload_n hx hb dX8_multiply_14 rfl (lv_at hl 2 rfl) ?_
      refine lv_dup2_11 hx hb dX8_multiply_15 rfl rfl ?_
      refine pw_lald hx hb hK hL (i) rfl (by omega) (by omega) dX8_multiply_16 ?_
      refine pw_asl (wdig v i) hgi ?_
      refine lv_lload_n hx hb dX8_multiply_17 rfl (lv_at hl 1 rfl) ?_
      refine pw_lmul hx hb dX8_multiply_18 ?_
      refine pw_last hx hb hK hL hS (Or.inr rfl) (i) rfl (by omega) (by omega) dX8_multiply_19 (fun H1 locs1 hnew hz1 oq hS => ?_)
      have hO := hO.k (oq _ (by omega))
      have hL := hnew
      clear hnew oq hz1
      refine lv_iinc (v := iI (((i + 1 : Nat) : Int))) (lv' := [(3, .int (iI (((i + 1 : Nat) : Int)))), (0, .ref (a)), (1, .long (lI (t)))]) hx hb dX8_multiply_20 hl (k := 2) rfl (by show iI _ + iI _ = _; rw [iI_add]; first | rfl | (congr 1; omega)) (by decide) rfl (fun ls hl => ?_)
      refine lv_goto (tgt := 2) hx hb dX8_multiply_23 (by decide) ?_
      exact ih (i + 1) _ _ _ _ (by omega) (fun j hj => ud_ext h0 rfl j hj) (fun j h2 h3 => by rw [ud_n _ _ (by omega)]; exact h1 j (by omega) h3) hO hL hS (lv_sub hl [1, 2, 0] rfl)
  refine pw_iconst hx hb dX8_multiply_0 ?_
  refine lv_istore_n (lv' := [(3, .int (iI (0))), (0, .ref (a)), (1, .long (lI (t)))]) hx hb dX8_multiply_1 rfl hl (by decide) rfl (fun ls hl => ?_)
  exact loop ka 0 _ _ _ _ (by omega) (fun j hj => by omega) (fun j _ _ => rfl) hO hL hS (lv_sub hl [1, 2, 0] rfl)
set_option maxHeartbeats 4000000 in
set_option maxRecDepth 100000 in
/-- copy(from) -/
theorem c_copy (l : Launch) (D : va_G) (E : Nat → ClassId) (a n b nb : Nat) (f : Nat → Int) (sz sg v : Int) (hn : n < 1000) (hnb : nb < 1000) (hab : a + 1 < b ∨ b + 1 < a) (hv1 : -(1000000 ^ n) < v) (hv2 : v < 1000000 ^ n) : pw_M rvV l D E yX8_copy wsX8_copy ({ frames := 2, cells := 0, slots := 0, locals := 44 } : Room) [.ref (a), .ref (b)] (fun H => WR D E a n f sz sg H ∧ WH D E b nb v H) (fun _ H => WH D E a n v H) (fun q => q = a ∨ q = a + 1) (0) (0) := by
  refine pw_of (cc := cX8_copy) (maxL := 2) (ret := none) (by decide +kernel) rfl (Nat.le_of_ble_eq_true rfl) ?_
  intro p e s m args below meth c hx hb hr hml hts hown hlocks hini hK ⟨⟨hO, hL⟩, kb, ⟨hOb, hLb⟩, hkb⟩ ls hl
  have hown : s.vm.findClass RX8 = some m.cls := hown
  have hl : lv_has ls 2 [(0, .ref (a)), (1, .ref (b))] := hl
  have hS : va_S (fun q => q = a ∨ q = a + 1) s.heap s.heap [] := va_S.rf
  have lk_7 := hts (.fieldLink RX8 7 "PolicyWorks$Whole" "limbs" "[J") (by decide +kernel)
  have lk_13 := hts (.fieldLink RX8 13 "PolicyWorks$Whole" "size" "I") (by decide +kernel)
  have lk_17 := hts (.fieldLink RX8 17 "PolicyWorks$Whole" "sign" "I") (by decide +kernel)
  have hin8 : ∀ w ∈ wsX80, w ∈ wsX8_copy := by decide +kernel
  have hkb1 := hkb.1
  have hkn := wk_le hkb (nat_lt hv1 hv2)
  have emin : min (kb : Int) (n : Int) = kb := by omega
  refine lv_aload_n hx hb dX8_copy_0 rfl (lv_at hl 0 rfl) ?_
  refine pw_callVv (As := []) (rest := []) ⟨hx, hb, hml, hown, hts⟩ (c_clear l D E a n f sz sg hn) (cwV 0 hts gX8_copy_X8_clear rfl rfl rfl (by decide +kernel) ⟨Nat.le_of_ble_eq_true rfl, Nat.le_of_ble_eq_true rfl⟩) hK hO rfl ⟨hO, hL⟩ rfl hl.1 rfl (by decide) dX8_copy_1 ⟨Nat.zero_le _, Nat.zero_le _⟩ hS (fun q h => h) (fun H1 locs1 ⟨hO, hL⟩ hz1 hk1 hS => ?_)
  have hOb := hOb.k (hk1 _ hOb.lt (by (try dsimp only); omega))
  have hLb := hLb.k (hk1 _ hLb.lt (by (try dsimp only); omega))
  refine lv_aload_n hx hb dX8_copy_4 rfl (lv_at hl 0 rfl) ?_
  refine lv_aload_n hx hb dX8_copy_5 rfl (lv_at hl 1 rfl) ?_
  refine pw_get (C := RX8) (T := TX8) (N := 3) hx hb hts hin8 hown hK hOb rfl 1 (by decide) lk_13 rfl rfl dX8_copy_6 ?_
  refine lv_aload_n hx hb dX8_copy_9 rfl (lv_at hl 0 rfl) ?_
  refine pw_get (C := RX8) (T := TX8) (N := 3) hx hb hts hin8 hown hK hO rfl 0 (by decide) lk_7 rfl rfl dX8_copy_10 ?_
  refine pw_alen (n := n) (k0 := 1) hx hb hK hL rfl rfl dX8_copy_13 ?_
  refine pw_mmin hx hb (hml.trans hl.1.symm) hown hts (by decide +kernel) (Nat.le_of_ble_eq_true rfl) (Nat.le_of_ble_eq_true rfl) (Nat.le_of_ble_eq_true rfl) (Nat.le_of_ble_eq_true rfl) dX8_copy_14 ?_
  refine pw_asi ((kb : Int)) emin ?_
  refine pw_put (C := RX8) (T := TX8) (N := 3) hx hb hts hin8 tyX8 tyX8_ok nmX8 hown hK hO hS (Or.inl rfl) rfl 1 (by decide) lk_13 rfl rfl rfl rfl (by show _ < 3; decide) dX8_copy_17 (fun H1 locs1 hnew hz1 oq hS => ?_)
  have hL := hL.k (oq _ (by omega))
  have hOb := hOb.k (oq _ (by omega))
  have hLb := hLb.k (oq _ (by omega))
  have hO : OA D (a) 8 [.ref (a + 1), .int (iI ((kb : Int))), .int (iI (0))] H1 := hnew
  clear hnew oq hz1
  refine lv_aload_n hx hb dX8_copy_20 rfl (lv_at hl 1 rfl) ?_
  refine pw_get (C := RX8) (T := TX8) (N := 3) hx hb hts hin8 hown hK hOb rfl 0 (by decide) lk_7 rfl rfl dX8_copy_21 ?_
  refine pw_iconst hx hb dX8_copy_24 ?_
  refine lv_aload_n hx hb dX8_copy_25 rfl (lv_at hl 0 rfl) ?_
  refine pw_get (C := RX8) (T := TX8) (N := 3) hx hb hts hin8 hown hK hO rfl 0 (by decide) lk_7 rfl rfl dX8_copy_26 ?_
  refine pw_iconst hx hb dX8_copy_29 ?_
  refine lv_aload_n hx hb dX8_copy_30 rfl (lv_at hl 0 rfl) ?_
  refine pw_get (C := RX8) (T := TX8) (N := 3) hx hb hts hin8 hown hK hO rfl 1 (by decide) lk_13 rfl rfl dX8_copy_31 ?_
  refine pw_copyl hx hb (hml.trans hl.1.symm) hown hts (by decide +kernel) hK hLb hL hS (Or.inr rfl) (k := kb) (by omega) (by omega) (by omega) (Nat.le_of_ble_eq_true rfl) (Nat.le_of_ble_eq_true rfl) dX8_copy_34 (fun H1 locs1 hnew hz1 oq hS => ?_)
  have hO := hO.k (oq _ (by omega))
  have hOb := hOb.k (oq _ (by omega))
  have hLb := hLb.k (oq _ (by omega))
  have hL := hnew
  clear hnew oq hz1
  refine lv_aload_n hx hb dX8_copy_37 rfl (lv_at hl 0 rfl) ?_
  refine lv_aload_n hx hb dX8_copy_38 rfl (lv_at hl 1 rfl) ?_
  refine pw_get (C := RX8) (T := TX8) (N := 3) hx hb hts hin8 hown hK hOb rfl 2 (by decide) lk_17 rfl rfl dX8_copy_39 ?_
  refine pw_put (C := RX8) (T := TX8) (N := 3) hx hb hts hin8 tyX8 tyX8_ok nmX8 hown hK hO hS (Or.inl rfl) rfl 2 (by decide) lk_17 rfl rfl rfl rfl (by show _ < 3; decide) dX8_copy_42 (fun H1 locs1 hnew hz1 oq hS => ?_)
  have hL := hL.k (oq _ (by omega))
  have hOb := hOb.k (oq _ (by omega))
  have hLb := hLb.k (oq _ (by omega))
  have hO : OA D (a) 8 [.ref (a + 1), .int (iI ((kb : Int))), .int (iI (v.sign))] H1 := hnew
  clear hnew oq hz1
  exact pw_vret hx hb hr hlocks hS ⟨kb, ⟨hO, hL.up (fun j hj => by
    by_cases e : j < kb
    · rw [if_pos e]
    · rw [if_neg e, wdig_hi hkb (by omega)])⟩, hkn, hkb.2⟩ dX8_copy_45
