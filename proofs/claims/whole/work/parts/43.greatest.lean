/-! the action with the greatest gain -/
abbrev gmore (σ : MS) (v : Nat → Int) (b : Int) (i j : Nat) : Prop := gnum σ j v b * gsc σ i < gnum σ i v b * gsc σ j
def gpick (σ : MS) (st beg : Nat) (v : Nat → Int) (b : Int) : Nat → Nat
  | 0 => beg
  | a + 1 => if a ≠ beg ∧ gmore σ v b (4 * st + a) (4 * st + gpick σ st beg v b a) then a else gpick σ st beg v b a
theorem gpick_lt {σ : MS} {st beg : Nat} {v : Nat → Int} {b : Int} {m : Nat} (hb : beg < m) : ∀ a, a ≤ m → gpick σ st beg v b a < m
  | 0, _ => hb
  | a + 1, h => by
    have ih := gpick_lt (σ := σ) (st := st) (v := v) (b := b) hb a (by omega)
    show (if _ then a else _) < m
    split
    · omega
    · exact ih
set_option maxHeartbeats 4000000 in
set_option maxRecDepth 100000 in
/-- greatest(model, state, begin, row) -/
theorem c_greatest (l : Launch) (D : va_G) (E : Nat → ClassId) (c0 gb gr m0 r n st beg : Nat) (σ : MS) (v : Nat → Int) (b vb0 sb0 vr0 sr0 : Int) (hok : mOK σ) (hst : st < mN σ) (hbeg : beg < mC σ st) (hn : n ≤ 24) (hcr : c0 + 8 < r ∨ r + 15 < c0) (hcm : c0 + 8 < m0 ∨ m0 + 50 < c0) (hbnd : ∀ k, k < mC σ st → (gnum σ (4 * st + k) v b).natAbs < 1000000 ^ 23) : pw_M rvI l D E yX1_greatest wsX1_greatest ({ frames := 3, cells := 0, slots := 0, locals := 89 } : Room) [.ref (c0), .ref (m0), .int (iI ((st : Int))), .int (iI ((beg : Int))), .ref (r)] (fun H => CH D E c0 gb gr vb0 sb0 vr0 sr0 H ∧ MO D E m0 σ H ∧ RW D E r n v b H) (fun z H => z = ((gpick σ st beg v b (mC σ st) : Nat) : Int) ∧ ∃ gb gr vr sr, CH D E c0 gb gr (gnum σ (4 * st + gpick σ st beg v b (mC σ st)) v b) (gsc σ (4 * st + gpick σ st beg v b (mC σ st))) vr sr H) (fun q => c0 ≤ q ∧ q ≤ c0 + 8) (0) (0) := by
  refine pw_of (cc := cX1_greatest) (maxL := 8) (ret := (some .int)) (by decide +kernel) rfl (Nat.le_of_ble_eq_true rfl) ?_
  intro p e s m args below meth c hx hb hr hml hts hown hlocks hini hK ⟨⟨hO, hgg, hGb, hGr, w, hWg⟩, hM, hRW⟩ ls hl
  have hown : s.vm.findClass RX1 = some m.cls := hown
  have hl : lv_has ls 8 [(0, .ref (c0)), (1, .ref (m0)), (2, .int (iI ((st : Int)))), (3, .int (iI ((beg : Int)))), (4, .ref (r))] := hl
  have hS : va_S (fun q => c0 ≤ q ∧ q ≤ c0 + 8) s.heap s.heap [] := va_S.rf
  have lk_12 := hts (.fieldLink RX1 12 "PolicyWorks$Chooser" "best" "LPolicyWorks$Gain;") (by decide +kernel)
  have lk_18 := hts (.fieldLink RX1 18 "PolicyWorks$Chooser" "rival" "LPolicyWorks$Gain;") (by decide +kernel)
  have lk_40 := hts (.fieldLink RX1 40 "PolicyWorks$Model" "actionCounts" "[I") (by decide +kernel)
  have hin1 : ∀ w ∈ wsX10, w ∈ wsX1_greatest := by decide +kernel
  have hin6 : ∀ w ∈ wsX60, w ∈ wsX1_greatest := by decide +kernel
  have hN6 := hok.1
  have hC4 := hok.2.1 st (by omega)
  have e23 := bp_mono (show 23 ≤ 24 by omega)
  have hbi := fun k hk => int_lt (Nat.lt_of_lt_of_le (hbnd k hk) e23)
  have hMO := hM.1
  have hC := hM.2.1
  have loop : ∀ (k a gb gr : Nat) (vr sr w : Int) (H : Heap) (locs : List Loc) (ls : Array Slot), a + k = mC σ st → OA D c0 1 [.ref (gb), .ref (gr), .ref (c0 + 7)] H → (gb = c0 + 1 ∧ gr = c0 + 4 ∨ gb = c0 + 4 ∧ gr = c0 + 1) → GN D E gb (gnum σ (4 * st + gpick σ st beg v b a) v b) (gsc σ (4 * st + gpick σ st beg v b a)) H → GN D E gr vr sr H → WH D E (c0 + 7) 24 w H → MO D E m0 σ H → RW D E r n v b H → va_S (fun q => c0 ≤ q ∧ q ≤ c0 + 8) s.heap H locs → lv_has ls 8 [(0, .ref (c0)), (1, .ref (m0)), (2, .int (iI ((st : Int)))), (3, .int (iI ((beg : Int)))), (4, .ref (r)), (5, .int (iI (((gpick σ st beg v b a : Nat) : Int)))), (6, .int (iI ((a : Int))))] → W p l e ({ frames := 3, cells := 0, slots := 0, locals := 89 } : Room) s m args below meth c H locs (0) (0) (MQ below (pw_Q rvI (fun z H => z = ((gpick σ st beg v b (mC σ st) : Nat) : Int) ∧ ∃ gb gr vr sr, CH D E c0 gb gr (gnum σ (4 * st + gpick σ st beg v b (mC σ st)) v b) (gsc σ (4 * st + gpick σ st beg v b (mC σ st))) vr sr H) (fun q => c0 ≤ q ∧ q ≤ c0 + 8)) args s (0) (0) (fun q => c0 ≤ q ∧ q ≤ c0 + 8)) (F0 m 22 ls []) := by
    intro k
    induction k with
    | zero =>
      intro a gb gr vr sr w H locs ls ha hO hgg hGb hGr hWg hM hRW hS hl
      have hMO := hM.1
      have hC := hM.2.1
      have hpk := gpick_lt (σ := σ) (st := st) (v := v) (b := b) hbeg a (by omega)
      have ea : a = mC σ st := by omega
      refine lv_iload hx hb dX1_greatest_22 (lv_at hl 6 rfl) ?_
      refine lv_aload_n hx hb dX1_greatest_24 rfl (lv_at hl 1 rfl) ?_
      refine pw_get (C := RX6) (T := TX6) (N := 5) hx hb hts hin6 hown hK hMO rfl 0 (by decide) lk_40 rfl rfl dX1_greatest_25 ?_
      refine lv_iload_n hx hb dX1_greatest_28 rfl (lv_at hl 2 rfl) ?_
      refine pw_iald hx hb hK hC (st) rfl (by omega) (by omega) dX1_greatest_29 ?_
      refine pw_asi ((mC σ (st) : Int)) rfl ?_
      refine pw_icmp_ge (tgt := 93) hx hb dX1_greatest_30 (by decide) (fun c_30 => ?_) (fun c_30 => absurd c_30 (by omega))
      refine lv_iload hx hb dX1_greatest_93 (lv_at hl 5 rfl) ?_
      subst ea
      exact pw_iret hx hb hr hlocks hS ⟨rfl, gb, gr, vr, sr, hO, hgg, hGb, hGr, _, hWg⟩ dX1_greatest_95
    | succ k ih =>
      intro a gb gr vr sr w H locs ls ha hO hgg hGb hGr hWg hM hRW hS hl
      have hMO := hM.1
      have hC := hM.2.1
      have hpk := gpick_lt (σ := σ) (st := st) (v := v) (b := b) hbeg a (by omega)
      refine lv_iload hx hb dX1_greatest_22 (lv_at hl 6 rfl) ?_
      refine lv_aload_n hx hb dX1_greatest_24 rfl (lv_at hl 1 rfl) ?_
      refine pw_get (C := RX6) (T := TX6) (N := 5) hx hb hts hin6 hown hK hMO rfl 0 (by decide) lk_40 rfl rfl dX1_greatest_25 ?_
      refine lv_iload_n hx hb dX1_greatest_28 rfl (lv_at hl 2 rfl) ?_
      refine pw_iald hx hb hK hC (st) rfl (by omega) (by omega) dX1_greatest_29 ?_
      refine pw_asi ((mC σ (st) : Int)) rfl ?_
      refine pw_icmp_ge (tgt := 93) hx hb dX1_greatest_30 (by decide) (fun c_30 => absurd c_30 (by omega)) (fun c_30 => ?_)
      refine lv_iload hx hb dX1_greatest_33 (lv_at hl 6 rfl) ?_
      refine lv_iload_n hx hb dX1_greatest_35 rfl (lv_at hl 3 rfl) ?_
      refine pw_icmp_eq (tgt := 87) hx hb dX1_greatest_36 (by decide) (fun c_36 => ?_) (fun c_36 => ?_)
      · refine lv_iinc (v := iI (((a + 1 : Nat) : Int))) (lv' := [(6, .int (iI (((a + 1 : Nat) : Int)))), (0, .ref (c0)), (1, .ref (m0)), (2, .int (iI ((st : Int)))), (3, .int (iI ((beg : Int)))), (4, .ref (r)), (5, .int (iI (((gpick σ st beg v b a : Nat) : Int))))]) hx hb dX1_greatest_87 hl (k := 6) rfl (by show iI _ + iI _ = _; exact (iI_add _ _).trans (by first | rfl | (congr 1; omega))) (by decide) rfl (fun ls hl => ?_)
        refine lv_goto (tgt := 22) hx hb dX1_greatest_90 (by decide) ?_
        have epk : gpick σ st beg v b (a + 1) = gpick σ st beg v b a := by show (if _ then a else _) = _; rw [if_neg (fun h => h.1 (by omega))]
        have hl : lv_has ls 8 [(0, .ref (c0)), (1, .ref (m0)), (2, .int (iI ((st : Int)))), (3, .int (iI ((beg : Int)))), (4, .ref (r)), (5, .int (iI (((gpick σ st beg v b (a + 1) : Nat) : Int)))), (6, .int (iI (((a + 1 : Nat) : Int))))] := by rw [epk]; exact lv_sub hl [1, 2, 3, 4, 5, 6, 0] rfl
        have hGb := hGb
        exact ih (a + 1) gb gr _ _ _ _ _ _ (by omega) hO hgg (by rw [epk]; exact hGb) hGr hWg hM hRW hS hl
      · refine lv_aload_n hx hb dX1_greatest_39 rfl (lv_at hl 0 rfl) ?_
        refine pw_get (C := RX1) (T := TX1) (N := 3) hx hb hts hin1 hown hK hO rfl 1 (by decide) lk_18 rfl rfl dX1_greatest_40 ?_
        refine lv_aload_n hx hb dX1_greatest_43 rfl (lv_at hl 1 rfl) ?_
        refine lv_aload_n hx hb dX1_greatest_44 rfl (lv_at hl 1 rfl) ?_
        refine lv_iload_n hx hb dX1_greatest_45 rfl (lv_at hl 2 rfl) ?_
        refine lv_iload hx hb dX1_greatest_46 (lv_at hl 6 rfl) ?_
        refine pw_callVr (As := [.int (iI ((st : Int))), .int (iI ((a : Int)))]) (rest := [.ref (m0), .ref (gr)]) ⟨hx, hb, hml, hown, hts⟩ (c_find l D E m0 σ st a (by omega) (by omega)) (cwV 2 hts gX1_greatest_X6_find rfl rfl rfl (by decide +kernel) ⟨Nat.le_of_ble_eq_true rfl, Nat.le_of_ble_eq_true rfl⟩) hK hMO rfl hM rfl hl.1 rfl (Nat.le_of_ble_eq_true rfl) dX1_greatest_48 ⟨Nat.zero_le _, Nat.zero_le _⟩ hS (fun q h => h.elim) (fun z H1 locs1 hz hz1 hk1 hS => ?_)
        have hO := hO.k (hk1 _ hO.lt (fun h => h))
        have hGb := hGb.k (fun q h1 h2 h3 => (hk1 _ h3 (fun h => h)))
        have hGr := hGr.k (fun q h1 h2 h3 => (hk1 _ h3 (fun h => h)))
        have hWg := hWg.k (hk1 _ (by have := hWg.lt; omega) (fun h => h)) (hk1 _ hWg.lt (fun h => h))
        have hM := hM.k (fun q h1 h2 h3 => (hk1 _ h3 (fun h => h)))
        have hRW := hRW.k (fun q h1 h2 h3 => (hk1 _ h3 (fun h => h)))
        have hMO := hMO.k (hk1 _ hMO.lt (fun h => h))
        have hC := hC.k (hk1 _ hC.lt (fun h => h))
        subst hz
        refine lv_aload hx hb dX1_greatest_51 (lv_at hl 4 rfl) ?_
        refine pw_callVv (As := [.ref (m0), .ref (m0 + 3 + 2 * (4 * st + a)), .ref (r)]) (rest := []) ⟨hx, hb, hml, hown, hts⟩ (c_weigh l D E gr m0 r n (4 * st + a) σ v b vr sr hok (by omega) hn (by omega) (by omega) (hbi a (by omega)).1 (hbi a (by omega)).2) (cwV 3 hts gX1_greatest_X4_weigh rfl rfl rfl (by decide +kernel) ⟨Nat.le_of_ble_eq_true rfl, Nat.le_of_ble_eq_true rfl⟩) hK hGr.1 rfl ⟨hGr, hM, hRW⟩ rfl hl.1 rfl (Nat.le_of_ble_eq_true rfl) dX1_greatest_53 ⟨Nat.zero_le _, Nat.zero_le _⟩ hS (fun q h => by (try dsimp only at h); (try dsimp only); omega) (fun H1 locs1 hGr hz1 hk1 hS => ?_)
        have hO := hO.k (hk1 _ hO.lt (by (try dsimp only); omega))
        have hGb := hGb.k (fun q h1 h2 h3 => (hk1 _ h3 (by (try dsimp only); omega)))
        have hWg := hWg.k (hk1 _ (by have := hWg.lt; omega) (by (try dsimp only); omega)) (hk1 _ hWg.lt (by (try dsimp only); omega))
        have hM := hM.k (fun q h1 h2 h3 => (hk1 _ h3 (by (try dsimp only); omega)))
        have hRW := hRW.k (fun q h1 h2 h3 => (hk1 _ h3 (by (try dsimp only); omega)))
        have hMO := hMO.k (hk1 _ hMO.lt (by (try dsimp only); omega))
        have hC := hC.k (hk1 _ hC.lt (by (try dsimp only); omega))
        refine lv_aload_n hx hb dX1_greatest_56 rfl (lv_at hl 0 rfl) ?_
        refine pw_callVi (As := []) (rest := []) ⟨hx, hb, hml, hown, hts⟩ (c_rivalIsMore l D E c0 gb gr _ _ _ _ (hbnd (gpick σ st beg v b a) (by omega)) (hbnd a (by omega)) (gsc_b hok (by omega)) (gsc_b hok (by omega))) (cwV 0 hts gX1_greatest_X1_rivalIsMore rfl rfl rfl (by decide +kernel) ⟨Nat.le_of_ble_eq_true rfl, Nat.le_of_ble_eq_true rfl⟩) hK hO rfl ⟨hO, hgg, hGb, hGr, _, hWg⟩ rfl hl.1 rfl (Nat.le_of_ble_eq_true rfl) dX1_greatest_57 ⟨Nat.zero_le _, Nat.zero_le _⟩ hS (fun q h => by (try dsimp only at h); (try dsimp only); omega) (fun z H1 locs1 ⟨hz, hzi, hO, _, hGb, hGr, w2, hWg⟩ hz1 hk1 hS => ?_)
        have hM := hM.k (fun q h1 h2 h3 => (hk1 _ h3 (by (try dsimp only); omega)))
        have hRW := hRW.k (fun q h1 h2 h3 => (hk1 _ h3 (by (try dsimp only); omega)))
        have hMO := hMO.k (hk1 _ hMO.lt (by (try dsimp only); omega))
        have hC := hC.k (hk1 _ hC.lt (by (try dsimp only); omega))
        refine pw_if_eq (tgt := 87) hx hb dX1_greatest_60 (by decide) (fun c_60 => ?_) (fun c_60 => ?_)
        · refine lv_iinc (v := iI (((a + 1 : Nat) : Int))) (lv' := [(6, .int (iI (((a + 1 : Nat) : Int)))), (0, .ref (c0)), (1, .ref (m0)), (2, .int (iI ((st : Int)))), (3, .int (iI ((beg : Int)))), (4, .ref (r)), (5, .int (iI (((gpick σ st beg v b a : Nat) : Int))))]) hx hb dX1_greatest_87 hl (k := 6) rfl (by show iI _ + iI _ = _; exact (iI_add _ _).trans (by first | rfl | (congr 1; omega))) (by decide) rfl (fun ls hl => ?_)
          refine lv_goto (tgt := 22) hx hb dX1_greatest_90 (by decide) ?_
          have epk : gpick σ st beg v b (a + 1) = gpick σ st beg v b a := by show (if _ then a else _) = _; rw [if_neg (fun h => by have := hzi.mpr h.2; omega)]
          have hl : lv_has ls 8 [(0, .ref (c0)), (1, .ref (m0)), (2, .int (iI ((st : Int)))), (3, .int (iI ((beg : Int)))), (4, .ref (r)), (5, .int (iI (((gpick σ st beg v b (a + 1) : Nat) : Int)))), (6, .int (iI (((a + 1 : Nat) : Int))))] := by rw [epk]; exact lv_sub hl [1, 2, 3, 4, 5, 6, 0] rfl
          have hGb := hGb
          exact ih (a + 1) gb gr _ _ _ _ _ _ (by omega) hO hgg (by rw [epk]; exact hGb) hGr hWg hM hRW hS hl
        · refine lv_aload_n hx hb dX1_greatest_63 rfl (lv_at hl 0 rfl) ?_
          refine pw_get (C := RX1) (T := TX1) (N := 3) hx hb hts hin1 hown hK hO rfl 0 (by decide) lk_12 rfl rfl dX1_greatest_64 ?_
          refine lv_astore (lv' := [(7, .ref (gb)), (0, .ref (c0)), (1, .ref (m0)), (2, .int (iI ((st : Int)))), (3, .int (iI ((beg : Int)))), (4, .ref (r)), (5, .int (iI (((gpick σ st beg v b a : Nat) : Int)))), (6, .int (iI ((a : Int))))]) hx hb dX1_greatest_67 hl (by decide) rfl (fun ls hl => ?_)
          refine lv_aload_n hx hb dX1_greatest_69 rfl (lv_at hl 1 rfl) ?_
          refine lv_aload_n hx hb dX1_greatest_70 rfl (lv_at hl 1 rfl) ?_
          refine pw_get (C := RX1) (T := TX1) (N := 3) hx hb hts hin1 hown hK hO rfl 1 (by decide) lk_18 rfl rfl dX1_greatest_71 ?_
          refine pw_put (C := RX1) (T := TX1) (N := 3) hx hb hts hin1 tyX1 tyX1_ok nmX1 hown hK hO hS (by (try dsimp only); omega) rfl 0 (by decide) lk_12 rfl rfl rfl rfl (by show _ < 3; decide) dX1_greatest_74 (fun H1 locs1 hnew hz1 oq hS => ?_)
          have hGb := hGb.k (fun q h1 h2 h3 => (oq _ (by omega)))
          have hGr := hGr.k (fun q h1 h2 h3 => (oq _ (by omega)))
          have hWg := hWg.k (oq _ (by omega)) (oq _ (by omega))
          have hM := hM.k (fun q h1 h2 h3 => (oq _ (by omega)))
          have hRW := hRW.k (fun q h1 h2 h3 => (oq _ (by omega)))
          have hMO := hMO.k (oq _ (by omega))
          have hC := hC.k (oq _ (by omega))
          have hO : OA D (c0) 1 [.ref (gr), .ref (gr), .ref (c0 + 7)] H1 := hnew
          clear hnew oq hz1
          refine lv_aload_n hx hb dX1_greatest_77 rfl (lv_at hl 1 rfl) ?_
          refine lv_aload hx hb dX1_greatest_78 (lv_at hl 0 rfl) ?_
          refine pw_put (C := RX1) (T := TX1) (N := 3) hx hb hts hin1 tyX1 tyX1_ok nmX1 hown hK hO hS (by (try dsimp only); omega) rfl 1 (by decide) lk_18 rfl rfl rfl rfl (by show _ < 3; decide) dX1_greatest_80 (fun H1 locs1 hnew hz1 oq hS => ?_)
          have hGb := hGb.k (fun q h1 h2 h3 => (oq _ (by omega)))
          have hGr := hGr.k (fun q h1 h2 h3 => (oq _ (by omega)))
          have hWg := hWg.k (oq _ (by omega)) (oq _ (by omega))
          have hM := hM.k (fun q h1 h2 h3 => (oq _ (by omega)))
          have hRW := hRW.k (fun q h1 h2 h3 => (oq _ (by omega)))
          have hMO := hMO.k (oq _ (by omega))
          have hC := hC.k (oq _ (by omega))
          have hO : OA D (c0) 1 [.ref (gr), .ref (gb), .ref (c0 + 7)] H1 := hnew
          clear hnew oq hz1
          refine lv_iload hx hb dX1_greatest_83 (lv_at hl 7 rfl) ?_
          refine lv_istore (lv' := [(5, .int (iI ((a : Int)))), (7, .ref (gb)), (0, .ref (c0)), (1, .ref (m0)), (2, .int (iI ((st : Int)))), (3, .int (iI ((beg : Int)))), (4, .ref (r)), (6, .int (iI ((a : Int))))]) hx hb dX1_greatest_85 hl (by decide) rfl (fun ls hl => ?_)
          refine lv_iinc (v := iI (((a + 1 : Nat) : Int))) (lv' := [(6, .int (iI (((a + 1 : Nat) : Int)))), (5, .int (iI ((a : Int)))), (7, .ref (gb)), (0, .ref (c0)), (1, .ref (m0)), (2, .int (iI ((st : Int)))), (3, .int (iI ((beg : Int)))), (4, .ref (r))]) hx hb dX1_greatest_87 hl (k := 7) rfl (by show iI _ + iI _ = _; exact (iI_add _ _).trans (by first | rfl | (congr 1; omega))) (by decide) rfl (fun ls hl => ?_)
          refine lv_goto (tgt := 22) hx hb dX1_greatest_90 (by decide) ?_
          have epk : gpick σ st beg v b (a + 1) = a := by show (if _ then a else _) = _; rw [if_pos ⟨(by omega), hzi.mp (by omega)⟩]
          have hl : lv_has ls 8 [(0, .ref (c0)), (1, .ref (m0)), (2, .int (iI ((st : Int)))), (3, .int (iI ((beg : Int)))), (4, .ref (r)), (5, .int (iI (((gpick σ st beg v b (a + 1) : Nat) : Int)))), (6, .int (iI (((a + 1 : Nat) : Int))))] := by rw [epk]; exact lv_sub hl [3, 4, 5, 6, 7, 1, 0] rfl
          rw [← epk] at hGr
          exact ih (a + 1) gr gb _ _ _ _ _ _ (by omega) hO (by omega) hGr hGb hWg hM hRW hS hl
  refine lv_iload_n hx hb dX1_greatest_0 rfl (lv_at hl 3 rfl) ?_
  refine lv_istore (lv' := [(5, .int (iI ((beg : Int)))), (0, .ref (c0)), (1, .ref (m0)), (2, .int (iI ((st : Int)))), (3, .int (iI ((beg : Int)))), (4, .ref (r))]) hx hb dX1_greatest_1 hl (by decide) rfl (fun ls hl => ?_)
  refine lv_aload_n hx hb dX1_greatest_3 rfl (lv_at hl 1 rfl) ?_
  refine pw_get (C := RX1) (T := TX1) (N := 3) hx hb hts hin1 hown hK hO rfl 0 (by decide) lk_12 rfl rfl dX1_greatest_4 ?_
  refine lv_aload_n hx hb dX1_greatest_7 rfl (lv_at hl 2 rfl) ?_
  refine lv_aload_n hx hb dX1_greatest_8 rfl (lv_at hl 2 rfl) ?_
  refine lv_iload_n hx hb dX1_greatest_9 rfl (lv_at hl 3 rfl) ?_
  refine lv_iload_n hx hb dX1_greatest_10 rfl (lv_at hl 4 rfl) ?_
  refine pw_callVr (As := [.int (iI ((st : Int))), .int (iI ((beg : Int)))]) (rest := [.ref (m0), .ref (gb)]) ⟨hx, hb, hml, hown, hts⟩ (c_find l D E m0 σ st beg (by omega) (by omega)) (cwV 2 hts gX1_greatest_X6_find rfl rfl rfl (by decide +kernel) ⟨Nat.le_of_ble_eq_true rfl, Nat.le_of_ble_eq_true rfl⟩) hK hMO rfl hM rfl hl.1 rfl (Nat.le_of_ble_eq_true rfl) dX1_greatest_11 ⟨Nat.zero_le _, Nat.zero_le _⟩ hS (fun q h => h.elim) (fun z H1 locs1 hz hz1 hk1 hS => ?_)
  have hO := hO.k (hk1 _ hO.lt (fun h => h))
  have hGb := hGb.k (fun q h1 h2 h3 => (hk1 _ h3 (fun h => h)))
  have hGr := hGr.k (fun q h1 h2 h3 => (hk1 _ h3 (fun h => h)))
  have hWg := hWg.k (hk1 _ (by have := hWg.lt; omega) (fun h => h)) (hk1 _ hWg.lt (fun h => h))
  have hM := hM.k (fun q h1 h2 h3 => (hk1 _ h3 (fun h => h)))
  have hRW := hRW.k (fun q h1 h2 h3 => (hk1 _ h3 (fun h => h)))
  have hMO := hMO.k (hk1 _ hMO.lt (fun h => h))
  have hC := hC.k (hk1 _ hC.lt (fun h => h))
  subst hz
  refine lv_aload hx hb dX1_greatest_14 (lv_at hl 5 rfl) ?_
  refine pw_callVv (As := [.ref (m0), .ref (m0 + 3 + 2 * (4 * st + beg)), .ref (r)]) (rest := []) ⟨hx, hb, hml, hown, hts⟩ (c_weigh l D E gb m0 r n (4 * st + beg) σ v b vb0 sb0 hok (by omega) hn (by omega) (by omega) (hbi beg (by omega)).1 (hbi beg (by omega)).2) (cwV 3 hts gX1_greatest_X4_weigh rfl rfl rfl (by decide +kernel) ⟨Nat.le_of_ble_eq_true rfl, Nat.le_of_ble_eq_true rfl⟩) hK hGb.1 rfl ⟨hGb, hM, hRW⟩ rfl hl.1 rfl (Nat.le_of_ble_eq_true rfl) dX1_greatest_16 ⟨Nat.zero_le _, Nat.zero_le _⟩ hS (fun q h => by (try dsimp only at h); (try dsimp only); omega) (fun H1 locs1 hGb hz1 hk1 hS => ?_)
  have hO := hO.k (hk1 _ hO.lt (by (try dsimp only); omega))
  have hGr := hGr.k (fun q h1 h2 h3 => (hk1 _ h3 (by (try dsimp only); omega)))
  have hWg := hWg.k (hk1 _ (by have := hWg.lt; omega) (by (try dsimp only); omega)) (hk1 _ hWg.lt (by (try dsimp only); omega))
  have hM := hM.k (fun q h1 h2 h3 => (hk1 _ h3 (by (try dsimp only); omega)))
  have hRW := hRW.k (fun q h1 h2 h3 => (hk1 _ h3 (by (try dsimp only); omega)))
  have hMO := hMO.k (hk1 _ hMO.lt (by (try dsimp only); omega))
  have hC := hC.k (hk1 _ hC.lt (by (try dsimp only); omega))
  refine pw_iconst hx hb dX1_greatest_19 ?_
  refine lv_istore (lv' := [(6, .int (iI (0))), (5, .int (iI ((beg : Int)))), (0, .ref (c0)), (1, .ref (m0)), (2, .int (iI ((st : Int)))), (3, .int (iI ((beg : Int)))), (4, .ref (r))]) hx hb dX1_greatest_20 hl (by decide) rfl (fun ls hl => ?_)
  exact loop (mC σ st) 0 gb gr _ _ _ _ _ _ (by omega) hO hgg hGb hGr hWg hM hRW hS (lv_sub hl [2, 3, 4, 5, 6, 1, 0] rfl)
theorem nat_dvd_tm (a d : Nat) : ((a : Int).tmod (d : Int) = 0) ↔ d ∣ a := by
  rw [nat_tm]
  constructor
  · intro h
    exact Nat.dvd_of_mod_eq_zero (by omega)
  · intro h
    rw [Nat.mod_eq_zero_of_dvd h]
    rfl
theorem gcd_at {a b d : Nat} (h1 : d ∣ a) (h2 : d ∣ b) (hb : 0 < b) (h : ∀ e, d < e → e ≤ b → ¬ (e ∣ a ∧ e ∣ b)) : d = Nat.gcd a b := by
  have g1 := Nat.gcd_dvd_left a b
  have g2 := Nat.gcd_dvd_right a b
  have g3 := Nat.dvd_gcd h1 h2
  have g4 := Nat.gcd_pos_of_pos_right a hb
  have g5 := Nat.le_of_dvd g4 g3
  have g6 := Nat.le_of_dvd hb g2
  rcases Nat.lt_or_ge d (Nat.gcd a b) with g7 | g7
  · exact absurd ⟨g1, g2⟩ (h _ g7 g6)
  · omega
theorem dvd_L : ∀ b, 1 ≤ b → b ≤ 20 → b ∣ 232792560 := by
  intro b h1 h2
  have : ∀ b : Fin 21, 1 ≤ b.val → b.val ∣ 232792560 := by decide +kernel
  exact this ⟨b, by omega⟩ h1
set_option maxHeartbeats 4000000 in
set_option maxRecDepth 100000 in
/-- commonDivisor(x, y) -/
theorem c_cdSmall (l : Launch) (D : va_G) (E : Nat → ClassId) (x y : Nat) (hx1 : 1 ≤ x) (hx2 : x ≤ 2147483647) (hy1 : 1 ≤ y) (hy2 : y ≤ 1000) : pw_M rvI l D E yX6_commonDivisor wsX6_commonDivisor ({ frames := 1, cells := 0, slots := 0, locals := 40 } : Room) [.int (iI ((x : Int))), .int (iI ((y : Int)))] (fun H => True) (fun z H => z = ((Nat.gcd x y : Nat) : Int)) (fun _ => False) (0) (0) := by
  refine pw_of (cc := cX6_commonDivisor) (maxL := 3) (ret := (some .int)) (by decide +kernel) rfl (Nat.le_of_ble_eq_true rfl) ?_
  intro p e s m args below meth c hx hb hr hml hts hown hlocks hini hK hPre ls hl
  have hown : s.vm.findClass RX6 = some m.cls := hown
  have hl : lv_has ls 3 [(0, .int (iI ((x : Int)))), (1, .int (iI ((y : Int))))] := hl
  have hS : va_S (fun _ => False) s.heap s.heap [] := va_S.rf
  have loop : ∀ (d : Nat) (H : Heap) (locs : List Loc) (ls : Array Slot), 1 ≤ d → d ≤ y → (∀ e, d < e → e ≤ y → ¬ (e ∣ x ∧ e ∣ y)) → va_S (fun _ => False) s.heap H locs → lv_has ls 3 [(0, .int (iI ((x : Int)))), (1, .int (iI ((y : Int)))), (2, .int (iI ((d : Int))))] → W p l e ({ frames := 1, cells := 0, slots := 0, locals := 40 } : Room) s m args below meth c H locs (0) (0) (MQ below (pw_Q rvI (fun z H => z = ((Nat.gcd x y : Nat) : Int)) (fun _ => False)) args s (0) (0) (fun _ => False)) (F0 m 2 ls []) := by
    intro d
    induction d with
    | zero => intro H locs ls h1; exact absurd h1 (by omega)
    | succ d ih =>
      intro H locs ls h1 h2 h3 hS hl
      have r1 := nat_dvd_tm x (d + 1)
      have r2 := nat_dvd_tm y (d + 1)
      have b1 : (x : Int).tmod ((d + 1 : Nat) : Int) = ((x % (d + 1) : Nat) : Int) := nat_tm _ _
      have b2 : (y : Int).tmod ((d + 1 : Nat) : Int) = ((y % (d + 1) : Nat) : Int) := nat_tm _ _
      have b3 := Nat.mod_lt x (show 0 < d + 1 by omega)
      have b4 := Nat.mod_lt y (show 0 < d + 1 by omega)
      refine lv_iload_n hx hb dX6_commonDivisor_2 rfl (lv_at hl 2 rfl) ?_
      refine pw_iconst hx hb dX6_commonDivisor_3 ?_
      refine pw_icmp_le (tgt := 25) hx hb dX6_commonDivisor_4 (by decide) (fun c_4 => ?_) (fun c_4 => ?_)
      · refine lv_iload_n hx hb dX6_commonDivisor_25 rfl (lv_at hl 2 rfl) ?_
        refine pw_iconst hx hb dX6_commonDivisor_26 ?_
        refine pw_mmax hx hb (hml.trans hl.1.symm) hown hts (by decide +kernel) (Nat.le_of_ble_eq_true rfl) (Nat.le_of_ble_eq_true rfl) (Nat.le_of_ble_eq_true rfl) (Nat.le_of_ble_eq_true rfl) dX6_commonDivisor_27 ?_
        have eg := (gcd_at (d := d + 1) (by rw [show d + 1 = 1 by omega]; exact Nat.one_dvd x) (by rw [show d + 1 = 1 by omega]; exact Nat.one_dvd y) (by omega) h3)
        exact pw_iret hx hb hr hlocks hS (by rw [← eg]; omega) dX6_commonDivisor_30
      · refine lv_iload_n hx hb dX6_commonDivisor_7 rfl (lv_at hl 0 rfl) ?_
        refine lv_iload_n hx hb dX6_commonDivisor_8 rfl (lv_at hl 2 rfl) ?_
        refine pw_irem hx hb dX6_commonDivisor_9 (by omega) ?_
        refine pw_if_ne (tgt := 19) hx hb dX6_commonDivisor_10 (by decide) (fun c_10 => ?_) (fun c_10 => ?_) (by rw [b1]; omega) (by rw [b1]; omega)
        · refine lv_iinc (v := iI ((d : Int))) (lv' := [(2, .int (iI ((d : Int)))), (0, .int (iI ((x : Int)))), (1, .int (iI ((y : Int))))]) hx hb dX6_commonDivisor_19 hl (k := 2) rfl (by show iI _ + iI _ = _; exact (iI_add _ _).trans (by first | rfl | (congr 1; omega))) (by decide) rfl (fun ls hl => ?_)
          refine lv_goto (tgt := 2) hx hb dX6_commonDivisor_22 (by decide) ?_
          refine ih _ _ _ (by omega) (by omega) (fun e a1 a2 a3 => ?_) hS (lv_sub hl [1, 2, 0] rfl)
          by_cases e1 : e = d + 1
          · subst e1
            exact c_10 (r1.mpr a3.1)
          · exact h3 e (by omega) a2 a3
        · refine lv_iload_n hx hb dX6_commonDivisor_13 rfl (lv_at hl 1 rfl) ?_
          refine lv_iload_n hx hb dX6_commonDivisor_14 rfl (lv_at hl 2 rfl) ?_
          refine pw_irem hx hb dX6_commonDivisor_15 (by omega) ?_
          refine pw_if_eq (tgt := 25) hx hb dX6_commonDivisor_16 (by decide) (fun c_16 => ?_) (fun c_16 => ?_) (by rw [b2]; omega) (by rw [b2]; omega)
          · refine lv_iload_n hx hb dX6_commonDivisor_25 rfl (lv_at hl 2 rfl) ?_
            refine pw_iconst hx hb dX6_commonDivisor_26 ?_
            refine pw_mmax hx hb (hml.trans hl.1.symm) hown hts (by decide +kernel) (Nat.le_of_ble_eq_true rfl) (Nat.le_of_ble_eq_true rfl) (Nat.le_of_ble_eq_true rfl) (Nat.le_of_ble_eq_true rfl) dX6_commonDivisor_27 ?_
            have eg := (gcd_at (d := d + 1) (r1.mp c_10) (r2.mp c_16) (by omega) h3)
            exact pw_iret hx hb hr hlocks hS (by rw [← eg]; omega) dX6_commonDivisor_30
          · refine lv_iinc (v := iI ((d : Int))) (lv' := [(2, .int (iI ((d : Int)))), (0, .int (iI ((x : Int)))), (1, .int (iI ((y : Int))))]) hx hb dX6_commonDivisor_19 hl (k := 2) rfl (by show iI _ + iI _ = _; exact (iI_add _ _).trans (by first | rfl | (congr 1; omega))) (by decide) rfl (fun ls hl => ?_)
            refine lv_goto (tgt := 2) hx hb dX6_commonDivisor_22 (by decide) ?_
            refine ih _ _ _ (by omega) (by omega) (fun e a1 a2 a3 => ?_) hS (lv_sub hl [1, 2, 0] rfl)
            by_cases e1 : e = d + 1
            · subst e1
              exact c_16 (r2.mpr a3.2)
            · exact h3 e (by omega) a2 a3
  refine lv_iload_n hx hb dX6_commonDivisor_0 rfl (lv_at hl 1 rfl) ?_
  refine lv_istore_n (lv' := [(2, .int (iI ((y : Int)))), (0, .int (iI ((x : Int)))), (1, .int (iI ((y : Int))))]) hx hb dX6_commonDivisor_1 rfl hl (by decide) rfl (fun ls hl => ?_)
  exact loop y _ _ _ hy1 (Nat.le_refl y) (fun e h1 h2 => by omega) hS (lv_sub hl [1, 2, 0] rfl)
