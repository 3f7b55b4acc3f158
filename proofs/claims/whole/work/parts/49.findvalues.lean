/-! the values of a policy: findValues -/
set_option maxHeartbeats 4000000 in
set_option maxRecDepth 100000 in
/-- findValues(model, policy, values) -/
theorem c_findValues (l : Launch) (D : va_G) (E : Nat → ClassId) (e0 m0 pa r : Nat) (σ : MS) (π : Nat → Nat) (pf : Nat → Int) (R : Nat → Nat → Int) (mn v0 : Nat → Int) (b0 : Int) (hpf : ∀ s, s < mN σ → pf s = (π s : Int)) (hok : mOK σ) (hrd : rdy σ) (hπ : ∀ s, s < mN σ → π s < mC σ s) (hem : e0 + 264 < m0 ∨ m0 + 50 < e0) (her : e0 + 264 < r ∨ r + 15 < e0) (hmr : m0 + 50 < r ∨ r + 15 < m0) (hpe : pa < e0 ∨ e0 + 264 < pa) (hpr : pa < r ∨ r + 15 < pa) : pw_M rvV l D E yX2_findValues wsX2_findValues ({ frames := 3, cells := 0, slots := 0, locals := 91 } : Room) [.ref (e0), .ref (m0), .ref (pa), .ref (r)] (fun H => EQ D E e0 R mn H ∧ MO D E m0 σ H ∧ IA E pa 6 pf H ∧ RW D E r 8 v0 b0 H) (fun _ H => ∃ R mn v b, EQ D E e0 R mn H ∧ RW D E r 8 v b H ∧ PV σ π v b) (fun q => (e0 ≤ q ∧ q ≤ e0 + 264) ∨ (r + 2 ≤ q ∧ q ≤ r + 15)) (0) (0) := by
  refine pw_of (cc := cX2_findValues) (maxL := 8) (ret := none) (by decide +kernel) rfl (Nat.le_of_ble_eq_true rfl) ?_
  intro p e s m args below meth c hx hb hr hml hts hown hlocks hini hK ⟨hEQ, hM, hpa, hRW⟩ ls hl
  have hown : s.vm.findClass RX2 = some m.cls := hown
  have hl : lv_has ls 8 [(0, .ref (e0)), (1, .ref (m0)), (2, .ref (pa)), (3, .ref (r))] := hl
  have hS : va_S (fun q => (e0 ≤ q ∧ q ≤ e0 + 264) ∨ (r + 2 ≤ q ∧ q ≤ r + 15)) s.heap s.heap [] := va_S.rf
  have lk_18 := hts (.fieldLink RX2 18 "PolicyWorks$Equations" "minors" "[LPolicyWorks$Whole;") (by decide +kernel)
  have lk_25 := hts (.fieldLink RX2 25 "PolicyWorks$Model" "states" "I") (by decide +kernel)
  have lk_47 := hts (.fieldLink RX2 47 "PolicyWorks$Row" "below" "LPolicyWorks$Whole;") (by decide +kernel)
  have lk_57 := hts (.fieldLink RX2 57 "PolicyWorks$Row" "above" "[LPolicyWorks$Whole;") (by decide +kernel)
  have kc_60 := hts (.constantLong RX2 60 (-1)) (by decide +kernel)
  have hin2 : ∀ w ∈ wsX20, w ∈ wsX2_findValues := by decide +kernel
  have hin6 : ∀ w ∈ wsX60, w ∈ wsX2_findValues := by decide +kernel
  have hin7 : ∀ w ∈ wsX70, w ∈ wsX2_findValues := by decide +kernel
  have hN6 := hok.1
  have hC4 := hok.2.1
  have hN0 := hrd.1
  have hMO := hM.1
  obtain ⟨ja1, ja2⟩ := j_all (show mN σ < 7 by omega)
  have hp7 : 2 ^ (mN σ + 1) ≤ 128 := p2_mono (show mN σ + 1 ≤ 7 by omega)
  have hp1 : 2 ≤ 2 ^ (mN σ + 1) := by rw [Nat.pow_succ]; have : 0 < 2 ^ mN σ := Nat.pow_pos (by omega); omega
  obtain ⟨cd1, cd2⟩ := col_det (show mN σ < 7 by omega)
  have hpn : 2 ^ (mN σ + 1) = 2 * 2 ^ mN σ := by rw [Nat.pow_succ, Nat.mul_comm]
  have hpp : 0 < 2 ^ mN σ := Nat.pow_pos (by omega)
  have loop3 : ∀ (R : Nat → Nat → Int) (mn : Nat → Int), (∀ j, j < 2 ^ (mN σ + 1) - 1 → mn j = dl (pm σ π) (pop j) (bl j 7)) → ∀ (kk k : Nat) (vv : Nat → Int) (H : Heap) (locs : List Loc) (ls : Array Slot), k + kk = mN σ → (∀ s, s < k → vv s = (if (mN σ - 1 - s) % 2 = 0 then 1 else -1) * dl (pm σ π) (mN σ) (rm (mN σ + 1) s)) → EQ D E e0 R mn H → OA D r 7 [.ref (r + 1), .ref (r + 14)] H → QA E 5 (r + 1) 6 (fun s => some (r + 2 + 2 * s)) H → RV D E r 8 6 vv H → WH D E (r + 14) 8 (dl (pm σ π) (mN σ) (ds (mN σ))) H → va_S (fun q => (e0 ≤ q ∧ q ≤ e0 + 264) ∨ (r + 2 ≤ q ∧ q ≤ r + 15)) s.heap H locs → lv_has ls 8 [(0, .ref (e0)), (1, .ref (m0)), (2, .ref (pa)), (3, .ref (r)), (4, .int (iI ((mN σ : Int)))), (5, .int (iI (((2 ^ (mN σ + 1) - 1 : Nat) : Int)))), (6, .int (iI ((k : Int))))] → W p l e ({ frames := 3, cells := 0, slots := 0, locals := 91 } : Room) s m args below meth c H locs (0) (0) (MQ below (pw_Q rvV (fun _ H => ∃ R mn v b, EQ D E e0 R mn H ∧ RW D E r 8 v b H ∧ PV σ π v b) (fun q => (e0 ≤ q ∧ q ≤ e0 + 264) ∨ (r + 2 ≤ q ∧ q ≤ r + 15))) args s (0) (0) (fun q => (e0 ≤ q ∧ q ≤ e0 + 264) ∨ (r + 2 ≤ q ∧ q ≤ r + 15))) (F0 m 102 ls []) := by
    intro R mn hmn kk
    induction kk with
    | zero =>
      intro k vv H locs ls hk h0 hEQ hRO hRQ hRV hRB hS hl
      refine lv_iload hx hb dX2_findValues_102 (lv_at hl 6 rfl) ?_
      refine lv_iload hx hb dX2_findValues_104 (lv_at hl 4 rfl) ?_
      refine pw_icmp_ge (tgt := 161) hx hb dX2_findValues_106 (by decide) (fun c_106 => ?_) (fun c_106 => absurd c_106 (by omega))
      exact pw_vret hx hb hr hlocks hS ⟨_, _, vv, _, hEQ, ⟨hRO, hRQ, fun s hs => hRV s hs (by omega), hRB⟩, pv_of hok hrd hπ (fun s hs => h0 s (by omega))⟩ dX2_findValues_161
    | succ kk ih =>
      intro k vv H locs ls hk h0 hEQ hRO hRQ hRV hRB hS hl
      obtain ⟨cf1, cf2, cf3, cf4⟩ := col_fin (show mN σ < 7 by omega) (show k < mN σ by omega)
      obtain ⟨_, _, jb3, jb4⟩ := j_bit (m := 2 ^ (mN σ + 1) - 1) (c := k) (by omega) (by omega)
      have hmk := hmn _ cf3
      rw [cf2, cf1] at hmk
      obtain ⟨kz, hVR⟩ := (hRV k (by omega) (by omega)).r
      have hRVx : RV D E r 8 k vv H := fun i h1 _ => hRV i h1 (by omega)
      have hEO := hEQ.1
      have hEM := hEQ.2.2.2.1
      refine lv_iload hx hb dX2_findValues_102 (lv_at hl 6 rfl) ?_
      refine lv_iload hx hb dX2_findValues_104 (lv_at hl 4 rfl) ?_
      refine pw_icmp_ge (tgt := 161) hx hb dX2_findValues_106 (by decide) (fun c_106 => absurd c_106 (by omega)) (fun c_106 => ?_)
      refine lv_aload_n hx hb dX2_findValues_109 rfl (lv_at hl 3 rfl) ?_
      refine pw_get (C := RX7) (T := TX7) (N := 2) hx hb hts hin7 hown hK hRO rfl 0 (by decide) lk_57 rfl rfl dX2_findValues_110 ?_
      refine lv_iload hx hb dX2_findValues_113 (lv_at hl 6 rfl) ?_
      refine pw_qald hx hb hK hRQ rfl (k) rfl (by omega) (by omega) rfl dX2_findValues_115 ?_
      refine lv_astore (lv' := [(7, .ref (r + 2 + 2 * k)), (0, .ref (e0)), (1, .ref (m0)), (2, .ref (pa)), (3, .ref (r)), (4, .int (iI ((mN σ : Int)))), (5, .int (iI (((2 ^ (mN σ + 1) - 1 : Nat) : Int)))), (6, .int (iI ((k : Int))))]) hx hb dX2_findValues_116 hl (by decide) rfl (fun ls hl => ?_)
      refine lv_aload hx hb dX2_findValues_118 (lv_at hl 0 rfl) ?_
      refine lv_aload_n hx hb dX2_findValues_120 rfl (lv_at hl 1 rfl) ?_
      refine pw_get (C := RX2) (T := TX2) (N := 2) hx hb hts hin2 hown hK hEO rfl 1 (by decide) lk_18 rfl rfl dX2_findValues_121 ?_
      refine lv_iload hx hb dX2_findValues_124 (lv_at hl 6 rfl) ?_
      refine pw_iconst hx hb dX2_findValues_126 ?_
      refine lv_iload hx hb dX2_findValues_127 (lv_at hl 7 rfl) ?_
      refine lv_ishl hx hb dX2_findValues_129 ?_
      refine pw_eqi (((2 ^ k : Nat) : Int)) jb3 ?_
      refine lv_ixor hx hb dX2_findValues_130 ?_
      refine pw_eqi (((((2 ^ (mN σ + 1) - 1) ^^^ 2 ^ k) : Nat) : Int)) jb4 ?_
      refine pw_qald hx hb hK hEM rfl (((2 ^ (mN σ + 1) - 1) ^^^ 2 ^ k)) rfl (by omega) (by omega) rfl dX2_findValues_131 ?_
      have hsrc := hEQ.2.2.2.2 ((2 ^ (mN σ + 1) - 1) ^^^ 2 ^ k) (by omega) (by omega)
      refine pw_callVv (As := [.ref (e0 + 9 + 2 * ((2 ^ (mN σ + 1) - 1) ^^^ 2 ^ k))]) (rest := []) ⟨hx, hb, hml, hown, hts⟩ (c_copy l D E (r + 2 + 2 * k) 8 (e0 + 9 + 2 * ((2 ^ (mN σ + 1) - 1) ^^^ 2 ^ k)) 8 (wdig (vv k)) kz (vv k).sign (mn ((2 ^ (mN σ + 1) - 1) ^^^ 2 ^ k)) (by omega) (by omega) (by omega) hsrc.bi.1 hsrc.bi.2) (cwV 1 hts gX2_findValues_X8_copy rfl rfl rfl (by decide +kernel) ⟨Nat.le_of_ble_eq_true rfl, Nat.le_of_ble_eq_true rfl⟩) hK hVR.1 rfl ⟨hVR, hsrc⟩ rfl hl.1 rfl (Nat.le_of_ble_eq_true rfl) dX2_findValues_132 ⟨Nat.zero_le _, Nat.zero_le _⟩ hS (fun q h => by (try dsimp only at h); (try dsimp only); omega) (fun H1 locs1 hW hz1 hk1 hS => ?_)
      have hRO := hRO.k (hk1 _ hRO.lt (by (try dsimp only); omega))
      have hRQ := hRQ.k (hk1 _ hRQ.lt (by (try dsimp only); omega))
      have hRVx := hRVx.k (fun q h1 h2 h3 => (hk1 _ h3 (by (try dsimp only); omega)))
      have hRB := hRB.k (hk1 _ (by have := hRB.lt; omega) (by (try dsimp only); omega)) (hk1 _ hRB.lt (by (try dsimp only); omega))
      have hEQ := hEQ.k (fun q h1 h2 h3 => (hk1 _ h3 (by (try dsimp only); omega)))
      have hEO := hEO.k (hk1 _ hEO.lt (by (try dsimp only); omega))
      have hEM := hEM.k (hk1 _ hEM.lt (by (try dsimp only); omega))
      rw [hmk] at hW
      refine lv_iload hx hb dX2_findValues_135 (lv_at hl 5 rfl) ?_
      refine pw_iconst hx hb dX2_findValues_137 ?_
      refine pw_isub hx hb dX2_findValues_138 ?_
      refine lv_iload hx hb dX2_findValues_139 (lv_at hl 7 rfl) ?_
      refine pw_isub hx hb dX2_findValues_141 ?_
      refine pw_iconst hx hb dX2_findValues_142 ?_
      refine pw_irem hx hb dX2_findValues_143 (by omega) ?_
      refine pw_asi ((((mN σ - 1 - k) % 2 : Nat) : Int)) (by rw [show ((mN σ : Int)) - (1) - ((k : Int)) = ((mN σ - 1 - k : Nat) : Int) by omega]; exact nat_tm _ 2) ?_
      refine pw_if_eq (tgt := 155) hx hb dX2_findValues_144 (by decide) (fun c_144 => ?_) (fun c_144 => ?_)
      · refine lv_iinc (v := iI (((k + 1 : Nat) : Int))) (lv' := [(6, .int (iI (((k + 1 : Nat) : Int)))), (7, .ref (r + 2 + 2 * k)), (0, .ref (e0)), (1, .ref (m0)), (2, .ref (pa)), (3, .ref (r)), (4, .int (iI ((mN σ : Int)))), (5, .int (iI (((2 ^ (mN σ + 1) - 1 : Nat) : Int))))]) hx hb dX2_findValues_155 hl (k := 7) rfl (by show iI _ + iI _ = _; exact (iI_add _ _).trans (by first | rfl | (congr 1; omega))) (by decide) rfl (fun ls hl => ?_)
        refine lv_goto (tgt := 102) hx hb dX2_findValues_158 (by decide) ?_
        exact ih (k + 1) _ _ _ _ (by omega) (fun j hj => ud_ext h0 (by rw [if_pos (by omega)]; omega) j hj) hEQ hRO hRQ (hRVx.up hW) hRB hS (lv_sub hl [2, 3, 4, 5, 6, 7, 0] rfl)
      · refine lv_aload hx hb dX2_findValues_147 (lv_at hl 0 rfl) ?_
        refine pw_ldc2 (z := -1) hx hb hown kc_60 (by decide +kernel) dX2_findValues_149 ?_
        have hWb := hW.bi
        refine pw_callVv (As := [.long (lI (-1))]) (rest := []) ⟨hx, hb, hml, hown, hts⟩ (c_multiply l D E (r + 2 + 2 * k) 8 (dl (pm σ π) (mN σ) (rm (mN σ + 1) k)) (-1) (by omega) (by omega) (by omega) (by omega) (by omega)) (cwV 1 hts gX2_findValues_X8_multiply rfl rfl rfl (by decide +kernel) ⟨Nat.le_of_ble_eq_true rfl, Nat.le_of_ble_eq_true rfl⟩) hK hW.o.choose_spec rfl hW rfl hl.1 rfl (Nat.le_of_ble_eq_true rfl) dX2_findValues_152 ⟨Nat.zero_le _, Nat.zero_le _⟩ hS (fun q h => by (try dsimp only at h); (try dsimp only); omega) (fun H1 locs1 hW hz1 hk1 hS => ?_)
        have hRO := hRO.k (hk1 _ hRO.lt (by (try dsimp only); omega))
        have hRQ := hRQ.k (hk1 _ hRQ.lt (by (try dsimp only); omega))
        have hRVx := hRVx.k (fun q h1 h2 h3 => (hk1 _ h3 (by (try dsimp only); omega)))
        have hRB := hRB.k (hk1 _ (by have := hRB.lt; omega) (by (try dsimp only); omega)) (hk1 _ hRB.lt (by (try dsimp only); omega))
        have hEQ := hEQ.k (fun q h1 h2 h3 => (hk1 _ h3 (by (try dsimp only); omega)))
        have hEO := hEO.k (hk1 _ hEO.lt (by (try dsimp only); omega))
        have hEM := hEM.k (hk1 _ hEM.lt (by (try dsimp only); omega))
        refine lv_iinc (v := iI (((k + 1 : Nat) : Int))) (lv' := [(6, .int (iI (((k + 1 : Nat) : Int)))), (7, .ref (r + 2 + 2 * k)), (0, .ref (e0)), (1, .ref (m0)), (2, .ref (pa)), (3, .ref (r)), (4, .int (iI ((mN σ : Int)))), (5, .int (iI (((2 ^ (mN σ + 1) - 1 : Nat) : Int))))]) hx hb dX2_findValues_155 hl (k := 7) rfl (by show iI _ + iI _ = _; exact (iI_add _ _).trans (by first | rfl | (congr 1; omega))) (by decide) rfl (fun ls hl => ?_)
        refine lv_goto (tgt := 102) hx hb dX2_findValues_158 (by decide) ?_
        exact ih (k + 1) _ _ _ _ (by omega) (fun j hj => ud_ext h0 (by rw [if_neg (by omega)]; omega) j hj) hEQ hRO hRQ (hRVx.up hW) hRB hS (lv_sub hl [2, 3, 4, 5, 6, 7, 0] rfl)
  have loop2 : ∀ (R : Nat → Nat → Int), (∀ i c, i < mN σ → c ≤ mN σ → R i c = pm σ π i c) → ∀ (kk cols : Nat) (mn : Nat → Int) (H : Heap) (locs : List Loc) (ls : Array Slot), cols + kk = 2 ^ (mN σ + 1) - 1 → 0 < cols → (∀ j, j < cols → mn j = dl (pm σ π) (pop j) (bl j 7)) → EQ D E e0 R mn H → RW D E r 8 v0 b0 H → va_S (fun q => (e0 ≤ q ∧ q ≤ e0 + 264) ∨ (r + 2 ≤ q ∧ q ≤ r + 15)) s.heap H locs → lv_has ls 8 [(0, .ref (e0)), (1, .ref (m0)), (2, .ref (pa)), (3, .ref (r)), (4, .int (iI ((mN σ : Int)))), (5, .int (iI (((2 ^ (mN σ + 1) - 1 : Nat) : Int)))), (6, .int (iI ((cols : Int))))] → W p l e ({ frames := 3, cells := 0, slots := 0, locals := 91 } : Room) s m args below meth c H locs (0) (0) (MQ below (pw_Q rvV (fun _ H => ∃ R mn v b, EQ D E e0 R mn H ∧ RW D E r 8 v b H ∧ PV σ π v b) (fun q => (e0 ≤ q ∧ q ≤ e0 + 264) ∨ (r + 2 ≤ q ∧ q ≤ r + 15))) args s (0) (0) (fun q => (e0 ≤ q ∧ q ≤ e0 + 264) ∨ (r + 2 ≤ q ∧ q ≤ r + 15))) (F0 m 62 ls []) := by
    intro R hRM kk
    induction kk with
    | zero =>
      intro cols mn H locs ls hk hc0 h0 hEQ hRW hS hl
      have ec : cols = 2 ^ (mN σ + 1) - 1 := by omega
      have hRO := hRW.1
      have hRQ := hRW.2.1
      have hRV : RV D E r 8 6 v0 H := fun i h1 _ => hRW.2.2.1 i h1
      have hRB := hRW.2.2.2
      have hEO := hEQ.1
      have hEM := hEQ.2.2.2.1
      obtain ⟨kz, hBR⟩ := hRB.r
      have hmd := h0 (2 ^ mN σ - 1) (by omega)
      rw [cd2, cd1] at hmd
      refine lv_iload hx hb dX2_findValues_62 (lv_at hl 6 rfl) ?_
      refine lv_iload hx hb dX2_findValues_64 (lv_at hl 5 rfl) ?_
      refine pw_icmp_ge (tgt := 83) hx hb dX2_findValues_66 (by decide) (fun c_66 => ?_) (fun c_66 => absurd c_66 (by omega))
      refine lv_aload_n hx hb dX2_findValues_83 rfl (lv_at hl 3 rfl) ?_
      refine pw_get (C := RX7) (T := TX7) (N := 2) hx hb hts hin7 hown hK hRO rfl 1 (by decide) lk_47 rfl rfl dX2_findValues_84 ?_
      refine lv_aload_n hx hb dX2_findValues_87 rfl (lv_at hl 0 rfl) ?_
      refine pw_get (C := RX2) (T := TX2) (N := 2) hx hb hts hin2 hown hK hEO rfl 1 (by decide) lk_18 rfl rfl dX2_findValues_88 ?_
      refine lv_iload hx hb dX2_findValues_91 (lv_at hl 5 rfl) ?_
      refine pw_iconst hx hb dX2_findValues_93 ?_
      refine lv_ishr hx hb dX2_findValues_94 ?_
      refine pw_eqi (((2 ^ mN σ - 1 : Nat) : Int)) ja2 ?_
      refine pw_qald hx hb hK hEM rfl (2 ^ mN σ - 1) rfl (by omega) (by omega) rfl dX2_findValues_95 ?_
      have hsrc := hEQ.2.2.2.2 (2 ^ mN σ - 1) (by omega) (by omega)
      refine pw_callVv (As := [.ref (e0 + 9 + 2 * (2 ^ mN σ - 1))]) (rest := []) ⟨hx, hb, hml, hown, hts⟩ (c_copy l D E (r + 14) 8 (e0 + 9 + 2 * (2 ^ mN σ - 1)) 8 (wdig b0) kz b0.sign (mn (2 ^ mN σ - 1)) (by omega) (by omega) (by omega) hsrc.bi.1 hsrc.bi.2) (cwV 1 hts gX2_findValues_X8_copy rfl rfl rfl (by decide +kernel) ⟨Nat.le_of_ble_eq_true rfl, Nat.le_of_ble_eq_true rfl⟩) hK hBR.1 rfl ⟨hBR, hsrc⟩ rfl hl.1 rfl (Nat.le_of_ble_eq_true rfl) dX2_findValues_96 ⟨Nat.zero_le _, Nat.zero_le _⟩ hS (fun q h => by (try dsimp only at h); (try dsimp only); omega) (fun H1 locs1 hRB hz1 hk1 hS => ?_)
      have hRO := hRO.k (hk1 _ hRO.lt (by (try dsimp only); omega))
      have hRQ := hRQ.k (hk1 _ hRQ.lt (by (try dsimp only); omega))
      have hRV := hRV.k (fun q h1 h2 h3 => (hk1 _ h3 (by (try dsimp only); omega)))
      have hEQ := hEQ.k (fun q h1 h2 h3 => (hk1 _ h3 (by (try dsimp only); omega)))
      have hEO := hEO.k (hk1 _ hEO.lt (by (try dsimp only); omega))
      have hEM := hEM.k (hk1 _ hEM.lt (by (try dsimp only); omega))
      rw [hmd] at hRB
      refine pw_iconst hx hb dX2_findValues_99 ?_
      refine lv_istore (lv' := [(6, .int (iI (0))), (0, .ref (e0)), (1, .ref (m0)), (2, .ref (pa)), (3, .ref (r)), (4, .int (iI ((mN σ : Int)))), (5, .int (iI (((2 ^ (mN σ + 1) - 1 : Nat) : Int))))]) hx hb dX2_findValues_100 hl (by decide) rfl (fun ls hl => ?_)
      exact loop3 R mn (fun j hj => h0 j (by omega)) (mN σ) 0 v0 _ _ _ (by omega) (fun s hs => by omega) hEQ hRO hRQ hRV hRB hS (lv_sub hl [1, 2, 3, 4, 5, 6, 0] rfl)
    | succ kk ih =>
      intro cols mn H locs ls hk hc0 h0 hEQ hRW hS hl
      have hEO := hEQ.1
      refine lv_iload hx hb dX2_findValues_62 (lv_at hl 6 rfl) ?_
      refine lv_iload hx hb dX2_findValues_64 (lv_at hl 5 rfl) ?_
      refine pw_icmp_ge (tgt := 83) hx hb dX2_findValues_66 (by decide) (fun c_66 => absurd c_66 (by omega)) (fun c_66 => ?_)
      refine lv_aload_n hx hb dX2_findValues_69 rfl (lv_at hl 0 rfl) ?_
      refine lv_iload hx hb dX2_findValues_70 (lv_at hl 6 rfl) ?_
      refine lv_iload hx hb dX2_findValues_72 (lv_at hl 4 rfl) ?_
      refine pw_callVv (As := [.int (iI ((cols : Int))), .int (iI ((mN σ : Int)))]) (rest := []) ⟨hx, hb, hml, hown, hts⟩ (c_expand l D E e0 (mN σ) cols R (pm σ π) mn (by omega) hc0 (by omega) hRM (pm_b hok hπ) h0) (cwV 2 hts gX2_findValues_X2_expand rfl rfl rfl (by decide +kernel) ⟨Nat.le_of_ble_eq_true rfl, Nat.le_of_ble_eq_true rfl⟩) hK hEO rfl hEQ rfl hl.1 rfl (Nat.le_of_ble_eq_true rfl) dX2_findValues_74 ⟨Nat.zero_le _, Nat.zero_le _⟩ hS (fun q h => by (try dsimp only at h); (try dsimp only); omega) (fun H1 locs1 hEQ hz1 hk1 hS => ?_)
      have hEO := hEO.k (hk1 _ hEO.lt (by (try dsimp only); omega))
      have hRW := hRW.k (fun q h1 h2 h3 => (hk1 _ h3 (by (try dsimp only); omega)))
      refine lv_iinc (v := iI (((cols + 1 : Nat) : Int))) (lv' := [(6, .int (iI (((cols + 1 : Nat) : Int)))), (0, .ref (e0)), (1, .ref (m0)), (2, .ref (pa)), (3, .ref (r)), (4, .int (iI ((mN σ : Int)))), (5, .int (iI (((2 ^ (mN σ + 1) - 1 : Nat) : Int))))]) hx hb dX2_findValues_77 hl (k := 6) rfl (by show iI _ + iI _ = _; exact (iI_add _ _).trans (by first | rfl | (congr 1; omega))) (by decide) rfl (fun ls hl => ?_)
      refine lv_goto (tgt := 62) hx hb dX2_findValues_80 (by decide) ?_
      exact ih (cols + 1) _ _ _ _ (by omega) (by omega) (fun j hj => ud_ext h0 rfl j hj) hEQ hRW hS (lv_sub hl [1, 2, 3, 4, 5, 6, 0] rfl)
  have loop1 : ∀ (kk k : Nat) (R : Nat → Nat → Int) (H : Heap) (locs : List Loc) (ls : Array Slot), k + kk = mN σ → (∀ i c, i < k → c ≤ mN σ → R i c = pm σ π i c) → EQ D E e0 R mn H → MO D E m0 σ H → IA E pa 6 pf H → RW D E r 8 v0 b0 H → va_S (fun q => (e0 ≤ q ∧ q ≤ e0 + 264) ∨ (r + 2 ≤ q ∧ q ≤ r + 15)) s.heap H locs → lv_has ls 8 [(0, .ref (e0)), (1, .ref (m0)), (2, .ref (pa)), (3, .ref (r)), (4, .int (iI ((mN σ : Int)))), (5, .int (iI ((k : Int))))] → W p l e ({ frames := 3, cells := 0, slots := 0, locals := 91 } : Room) s m args below meth c H locs (0) (0) (MQ below (pw_Q rvV (fun _ H => ∃ R mn v b, EQ D E e0 R mn H ∧ RW D E r 8 v b H ∧ PV σ π v b) (fun q => (e0 ≤ q ∧ q ≤ e0 + 264) ∨ (r + 2 ≤ q ∧ q ≤ r + 15))) args s (0) (0) (fun q => (e0 ≤ q ∧ q ≤ e0 + 264) ∨ (r + 2 ≤ q ∧ q ≤ r + 15))) (F0 m 9 ls []) := by
    intro kk
    induction kk with
    | zero =>
      intro k R H locs ls hk h0 hEQ hM hpa hRW hS hl
      have hEO := hEQ.1
      have hMO := hM.1
      have hEM := hEQ.2.2.2.1
      have hM0 := hEQ.2.2.2.2 0 (by omega) (by omega)
      obtain ⟨kz, h0r⟩ := hM0.r
      have hMX : MN D E e0 0 mn H := fun i h1 _ => hEQ.2.2.2.2 i h1 (by omega)
      have hRS := hEQ.2.2.1
      have hEQ1 := hEQ.2.1
      refine lv_iload hx hb dX2_findValues_9 (lv_at hl 5 rfl) ?_
      refine lv_iload hx hb dX2_findValues_11 (lv_at hl 4 rfl) ?_
      refine pw_icmp_ge (tgt := 39) hx hb dX2_findValues_13 (by decide) (fun c_13 => ?_) (fun c_13 => absurd c_13 (by omega))
      refine pw_iconst hx hb dX2_findValues_39 ?_
      refine lv_iload hx hb dX2_findValues_40 (lv_at hl 4 rfl) ?_
      refine pw_iconst hx hb dX2_findValues_42 ?_
      refine pw_iadd hx hb dX2_findValues_43 ?_
      refine pw_asi (((mN σ + 1 : Nat) : Int)) (by omega) ?_
      refine lv_ishl hx hb dX2_findValues_44 ?_
      refine pw_eqi (((2 ^ (mN σ + 1) : Nat) : Int)) ja1 ?_
      refine pw_iconst hx hb dX2_findValues_45 ?_
      refine pw_isub hx hb dX2_findValues_46 ?_
      refine pw_asi (((2 ^ (mN σ + 1) - 1 : Nat) : Int)) (by omega) ?_
      refine lv_istore (lv' := [(5, .int (iI (((2 ^ (mN σ + 1) - 1 : Nat) : Int)))), (0, .ref (e0)), (1, .ref (m0)), (2, .ref (pa)), (3, .ref (r)), (4, .int (iI ((mN σ : Int))))]) hx hb dX2_findValues_47 hl (by decide) rfl (fun ls hl => ?_)
      refine lv_aload_n hx hb dX2_findValues_49 rfl (lv_at hl 1 rfl) ?_
      refine pw_get (C := RX2) (T := TX2) (N := 2) hx hb hts hin2 hown hK hEO rfl 1 (by decide) lk_18 rfl rfl dX2_findValues_50 ?_
      refine pw_iconst hx hb dX2_findValues_53 ?_
      refine pw_qald hx hb hK hEM rfl (0) rfl (by omega) (by omega) rfl dX2_findValues_54 ?_
      refine pw_lconst (z := 1) hx hb dX2_findValues_55 ?_
      refine pw_callVv (As := [.long (lI (1))]) (rest := []) ⟨hx, hb, hml, hown, hts⟩ (c_put l D E (e0 + 9 + 2 * 0) 8 (wdig (mn 0)) kz (mn 0).sign 1 (by omega) (by omega) (by omega) (by omega) (by decide +kernel) (by decide +kernel)) (cwV 1 hts gX2_findValues_X8_put rfl rfl rfl (by decide +kernel) ⟨Nat.le_of_ble_eq_true rfl, Nat.le_of_ble_eq_true rfl⟩) hK h0r.1 rfl h0r rfl hl.1 rfl (Nat.le_of_ble_eq_true rfl) dX2_findValues_56 ⟨Nat.zero_le _, Nat.zero_le _⟩ hS (fun q h => by (try dsimp only at h); (try dsimp only); omega) (fun H1 locs1 hW hz1 hk1 hS => ?_)
      have hEO := hEO.k (hk1 _ hEO.lt (by (try dsimp only); omega))
      have hRW := hRW.k (fun q h1 h2 h3 => (hk1 _ h3 (by (try dsimp only); omega)))
      have hM := hM.k (fun q h1 h2 h3 => (hk1 _ h3 (by (try dsimp only); omega)))
      have hMO := hMO.k (hk1 _ hMO.lt (by (try dsimp only); omega))
      have hpa := hpa.k (hk1 _ hpa.lt (by (try dsimp only); omega))
      have hEQ1 := hEQ1.k (hk1 _ hEQ1.lt (by (try dsimp only); omega))
      have hRS := hRS.k (fun q h1 h2 h3 => (hk1 _ h3 (by (try dsimp only); omega)))
      have hEM := hEM.k (hk1 _ hEM.lt (by (try dsimp only); omega))
      have hMX := hMX.k (fun q h1 h2 h3 => (hk1 _ h3 (by (try dsimp only); omega)))
      refine pw_iconst hx hb dX2_findValues_59 ?_
      refine lv_istore (lv' := [(6, .int (iI (1))), (5, .int (iI (((2 ^ (mN σ + 1) - 1 : Nat) : Int)))), (0, .ref (e0)), (1, .ref (m0)), (2, .ref (pa)), (3, .ref (r)), (4, .int (iI ((mN σ : Int))))]) hx hb dX2_findValues_60 hl (by decide) rfl (fun ls hl => ?_)
      have hEQ : EQ D E e0 R (ud mn 0 1) H1 := ⟨hEO, hEQ1, hRS, hEM, hMX.up hW⟩
      exact loop2 R (fun i c h1 h2 => h0 i c (by omega) h2) (2 ^ (mN σ + 1) - 2) 1 _ _ _ _ (by omega) (by omega) (fun j hj => by rw [show j = 0 by omega, ud_s]; rfl) hEQ hRW hS (lv_sub hl [2, 3, 4, 5, 6, 1, 0] rfl)
    | succ kk ih =>
      intro k R H locs ls hk h0 hEQ hM hpa hRW hS hl
      have hEO := hEQ.1
      have hMO := hM.1
      have hpk := hπ k (by omega)
      have hck := hC4 k (by omega)
      refine lv_iload hx hb dX2_findValues_9 (lv_at hl 5 rfl) ?_
      refine lv_iload hx hb dX2_findValues_11 (lv_at hl 4 rfl) ?_
      refine pw_icmp_ge (tgt := 39) hx hb dX2_findValues_13 (by decide) (fun c_13 => absurd c_13 (by omega)) (fun c_13 => ?_)
      refine lv_aload_n hx hb dX2_findValues_16 rfl (lv_at hl 0 rfl) ?_
      refine lv_aload_n hx hb dX2_findValues_17 rfl (lv_at hl 1 rfl) ?_
      refine lv_iload hx hb dX2_findValues_18 (lv_at hl 5 rfl) ?_
      refine lv_aload_n hx hb dX2_findValues_20 rfl (lv_at hl 1 rfl) ?_
      refine lv_iload hx hb dX2_findValues_21 (lv_at hl 5 rfl) ?_
      refine lv_aload_n hx hb dX2_findValues_23 rfl (lv_at hl 2 rfl) ?_
      refine lv_iload hx hb dX2_findValues_24 (lv_at hl 5 rfl) ?_
      refine pw_iald hx hb hK hpa (k) rfl (by omega) (by omega) dX2_findValues_26 ?_
      refine pw_asi ((π k : Int)) (hpf k (by omega)) ?_
      refine pw_callVr (As := [.int (iI ((k : Int))), .int (iI ((π k : Int)))]) (rest := [.int (iI ((k : Int))), .ref (m0), .ref (e0)]) ⟨hx, hb, hml, hown, hts⟩ (c_find l D E m0 σ k (π k) (by omega) (by omega)) (cwV 2 hts gX2_findValues_X6_find rfl rfl rfl (by decide +kernel) ⟨Nat.le_of_ble_eq_true rfl, Nat.le_of_ble_eq_true rfl⟩) hK hMO rfl hM rfl hl.1 rfl (Nat.le_of_ble_eq_true rfl) dX2_findValues_27 ⟨Nat.zero_le _, Nat.zero_le _⟩ hS (fun q h => h.elim) (fun z H1 locs1 hz hz1 hk1 hS => ?_)
      have hEO := hEO.k (hk1 _ hEO.lt (fun h => h))
      have hEQ := hEQ.k (fun q h1 h2 h3 => (hk1 _ h3 (fun h => h)))
      have hRW := hRW.k (fun q h1 h2 h3 => (hk1 _ h3 (fun h => h)))
      have hM := hM.k (fun q h1 h2 h3 => (hk1 _ h3 (fun h => h)))
      have hMO := hMO.k (hk1 _ hMO.lt (fun h => h))
      have hpa := hpa.k (hk1 _ hpa.lt (fun h => h))
      subst hz
      refine pw_callVv (As := [.ref (m0), .int (iI ((k : Int))), .ref (m0 + 3 + 2 * (4 * k + π k))]) (rest := []) ⟨hx, hb, hml, hown, hts⟩ (c_writeRow l D E e0 m0 k (4 * k + π k) σ R mn hok (by omega) (by omega) hem) (cwV 3 hts gX2_findValues_X2_writeRow rfl rfl rfl (by decide +kernel) ⟨Nat.le_of_ble_eq_true rfl, Nat.le_of_ble_eq_true rfl⟩) hK hEO rfl ⟨hEQ, hM⟩ rfl hl.1 rfl (Nat.le_of_ble_eq_true rfl) dX2_findValues_30 ⟨Nat.zero_le _, Nat.zero_le _⟩ hS (fun q h => by (try dsimp only at h); (try dsimp only); omega) (fun H1 locs1 ⟨row, hrw, hEQ⟩ hz1 hk1 hS => ?_)
      have hEO := hEO.k (hk1 _ hEO.lt (by (try dsimp only); omega))
      have hRW := hRW.k (fun q h1 h2 h3 => (hk1 _ h3 (by (try dsimp only); omega)))
      have hM := hM.k (fun q h1 h2 h3 => (hk1 _ h3 (by (try dsimp only); omega)))
      have hMO := hMO.k (hk1 _ hMO.lt (by (try dsimp only); omega))
      have hpa := hpa.k (hk1 _ hpa.lt (by (try dsimp only); omega))
      refine lv_iinc (v := iI (((k + 1 : Nat) : Int))) (lv' := [(5, .int (iI (((k + 1 : Nat) : Int)))), (0, .ref (e0)), (1, .ref (m0)), (2, .ref (pa)), (3, .ref (r)), (4, .int (iI ((mN σ : Int))))]) hx hb dX2_findValues_33 hl (k := 5) rfl (by show iI _ + iI _ = _; exact (iI_add _ _).trans (by first | rfl | (congr 1; omega))) (by decide) rfl (fun ls hl => ?_)
      refine lv_goto (tgt := 9) hx hb dX2_findValues_36 (by decide) ?_
      refine ih (k + 1) _ _ _ _ (by omega) (fun i c h1 h2 => ?_) hEQ hM hpa hRW hS (lv_sub hl [1, 2, 3, 4, 5, 0] rfl)
      unfold uR
      by_cases e1 : i = k
      · rw [if_pos e1, hrw c h2, e1]
        unfold pm
        rw [if_pos ⟨by omega, h2⟩]
      · rw [if_neg e1]; exact h0 i c (by omega) h2
  have hEO := hEQ.1
  refine lv_aload_n hx hb dX2_findValues_0 rfl (lv_at hl 1 rfl) ?_
  refine pw_get (C := RX6) (T := TX6) (N := 5) hx hb hts hin6 hown hK hMO rfl 2 (by decide) lk_25 rfl rfl dX2_findValues_1 ?_
  refine lv_istore (lv' := [(4, .int (iI ((mN σ : Int)))), (0, .ref (e0)), (1, .ref (m0)), (2, .ref (pa)), (3, .ref (r))]) hx hb dX2_findValues_4 hl (by decide) rfl (fun ls hl => ?_)
  refine pw_iconst hx hb dX2_findValues_6 ?_
  refine lv_istore (lv' := [(5, .int (iI (0))), (4, .int (iI ((mN σ : Int)))), (0, .ref (e0)), (1, .ref (m0)), (2, .ref (pa)), (3, .ref (r))]) hx hb dX2_findValues_7 hl (by decide) rfl (fun ls hl => ?_)
  exact loop1 (mN σ) 0 R _ _ _ (by omega) (fun i c h1 => by omega) hEQ hM hpa hRW hS (lv_sub hl [2, 3, 4, 5, 1, 0] rfl)
