/-! best: all its checks hold when it is solved -/
set_option maxHeartbeats 4000000 in
set_option maxRecDepth 100000 in
/-- valuesAreGreatestGains() -/
theorem c_vagg (l : Launch) (D : va_G) (E : Nat → ClassId) (o0 : Nat) (σ : MS) (rn : Int) (bv bp : Nat → Int) (bd : Int) (π : Nat → Nat) (hok : mOK σ) (hrd : rdy σ) (hπ : ∀ s, s < mN σ → π s < mC σ s ∧ bp s = (π s : Int)) (hPV : PV σ π bv bd) (hmax : ∀ s, s < mN σ → ∀ j, j < mC σ s → gnum σ (4 * s + j) bv bd ≤ bv s * gsc σ (4 * s + j)) : pw_M rvI l D E yX9_valuesAreGreatestGains wsX9_valuesAreGreatestGains ({ frames := 3, cells := 0, slots := 0, locals := 89 } : Room) [.ref (o0)] (fun H => OA D o0 9 [.ref (o0 + 1), .ref (o0 + 52), .ref (o0 + 317), .ref (o0 + 326), .ref (o0 + 482), .ref (o0 + 498), .ref (o0 + 499), .ref (o0 + 564), .ref (o0 + 565), .ref (o0 + 566), .ref (o0 + 577), .ref (o0 + 579), .ref (o0 + 581), .int (iI (rn))] H ∧ MO D E (o0 + 1) σ H ∧ CHx D E (o0 + 317) H ∧ RW D E (o0 + 482) 8 bv bd H ∧ IA E (o0 + 498) 6 bp H ∧ WHx D E (o0 + 577) H) (fun z H => z = 1 ∧ CHx D E (o0 + 317) H ∧ WHx D E (o0 + 577) H) (fun q => (o0 + 317 ≤ q ∧ q ≤ o0 + 325) ∨ (o0 + 577 ≤ q ∧ q ≤ o0 + 578)) (0) (0) := by
  refine pw_of (cc := cX9_valuesAreGreatestGains) (maxL := 5) (ret := (some .boolean)) (by decide +kernel) rfl (Nat.le_of_ble_eq_true rfl) ?_
  intro p e s m args below meth c hx hb hr hml hts hown hlocks hini hK ⟨hO, hM, ⟨gb, gr, vb, sb, vr, sr, hCO, hgg, hGb, hGr, gw, hGw⟩, hRW, hBP, ⟨xl, hLf⟩⟩ ls hl
  have hown : s.vm.findClass RX9 = some m.cls := hown
  have hl : lv_has ls 5 [(0, .ref (o0))] := hl
  have hS : va_S (fun q => (o0 + 317 ≤ q ∧ q ≤ o0 + 325) ∨ (o0 + 577 ≤ q ∧ q ≤ o0 + 578)) s.heap s.heap [] := va_S.rf
  have lk_10 := hts (.fieldLink RX9 10 "PolicyWorks" "model" "LPolicyWorks$Model;") (by decide +kernel)
  have lk_26 := hts (.fieldLink RX9 26 "PolicyWorks" "chooser" "LPolicyWorks$Chooser;") (by decide +kernel)
  have lk_42 := hts (.fieldLink RX9 42 "PolicyWorks" "bestValues" "LPolicyWorks$Row;") (by decide +kernel)
  have lk_46 := hts (.fieldLink RX9 46 "PolicyWorks" "bestPolicy" "[I") (by decide +kernel)
  have lk_71 := hts (.fieldLink RX9 71 "PolicyWorks" "left" "LPolicyWorks$Whole;") (by decide +kernel)
  have lk_85 := hts (.fieldLink RX9 85 "PolicyWorks$Model" "states" "I") (by decide +kernel)
  have lk_95 := hts (.fieldLink RX9 95 "PolicyWorks$Model" "actionCounts" "[I") (by decide +kernel)
  have lk_154 := hts (.fieldLink RX9 154 "PolicyWorks$Chooser" "best" "LPolicyWorks$Gain;") (by decide +kernel)
  have lk_166 := hts (.fieldLink RX9 166 "PolicyWorks$Gain" "above" "LPolicyWorks$Whole;") (by decide +kernel)
  have lk_174 := hts (.fieldLink RX9 174 "PolicyWorks$Gain" "scale" "I") (by decide +kernel)
  have lk_232 := hts (.fieldLink RX9 232 "PolicyWorks$Row" "above" "[LPolicyWorks$Whole;") (by decide +kernel)
  have hin1 : ∀ w ∈ wsX10, w ∈ wsX9_valuesAreGreatestGains := by decide +kernel
  have hin4 : ∀ w ∈ wsX40, w ∈ wsX9_valuesAreGreatestGains := by decide +kernel
  have hin6 : ∀ w ∈ wsX60, w ∈ wsX9_valuesAreGreatestGains := by decide +kernel
  have hin7 : ∀ w ∈ wsX70, w ∈ wsX9_valuesAreGreatestGains := by decide +kernel
  have hin9 : ∀ w ∈ wsX90, w ∈ wsX9_valuesAreGreatestGains := by decide +kernel
  have hN6 := hok.1
  have hC4 := hok.2.1
  have loop : ∀ (mm n : Nat) (vb sb xl : Int) (H : Heap) (locs : List Loc) (ls : Array Slot), n + mm = mN σ → OA D o0 9 [.ref (o0 + 1), .ref (o0 + 52), .ref (o0 + 317), .ref (o0 + 326), .ref (o0 + 482), .ref (o0 + 498), .ref (o0 + 499), .ref (o0 + 564), .ref (o0 + 565), .ref (o0 + 566), .ref (o0 + 577), .ref (o0 + 579), .ref (o0 + 581), .int (iI (rn))] H → MO D E (o0 + 1) σ H → OA D (o0 + 317) 1 [.ref gb, .ref gr, .ref (o0 + 317 + 7)] H → GN D E gb vb sb H → GN D E gr vr sr H → WH D E (o0 + 317 + 7) 24 gw H → RW D E (o0 + 482) 8 bv bd H → IA E (o0 + 498) 6 bp H → WH D E (o0 + 577) 24 xl H → va_S (fun q => (o0 + 317 ≤ q ∧ q ≤ o0 + 325) ∨ (o0 + 577 ≤ q ∧ q ≤ o0 + 578)) s.heap H locs → lv_has ls 5 [(0, .ref (o0)), (1, .ref (gb)), (2, .int (iI ((n : Int))))] → W p l e ({ frames := 3, cells := 0, slots := 0, locals := 89 } : Room) s m args below meth c H locs (0) (0) (MQ below (pw_Q rvI (fun z H => z = 1 ∧ CHx D E (o0 + 317) H ∧ WHx D E (o0 + 577) H) (fun q => (o0 + 317 ≤ q ∧ q ≤ o0 + 325) ∨ (o0 + 577 ≤ q ∧ q ≤ o0 + 578))) args s (0) (0) (fun q => (o0 + 317 ≤ q ∧ q ≤ o0 + 325) ∨ (o0 + 577 ≤ q ∧ q ≤ o0 + 578))) (F0 m 10 ls []) := by
    intro mm
    induction mm with
    | zero =>
      intro n vb sb xl H locs ls hn hO hM hCO hGb hGr hGw hRW hBP hLf hS hl
      have en : n = mN σ := by omega
      subst en
      have hMO := hM.1
      have hMC := hM.2.1
      have hROw := hRW.1
      have hRQw := hRW.2.1
      refine lv_iload_n hx hb dX9_valuesAreGreatestGains_10 rfl (lv_at hl 2 rfl) ?_
      refine lv_aload_n hx hb dX9_valuesAreGreatestGains_11 rfl (lv_at hl 0 rfl) ?_
      refine pw_get (C := RX9) (T := TX9) (N := 14) hx hb hts hin9 hown hK hO rfl 0 (by decide) lk_10 rfl rfl dX9_valuesAreGreatestGains_12 ?_
      refine pw_get (C := RX6) (T := TX6) (N := 5) hx hb hts hin6 hown hK hMO rfl 2 (by decide) lk_85 rfl rfl dX9_valuesAreGreatestGains_15 ?_
      refine pw_icmp_ge (tgt := 132) hx hb dX9_valuesAreGreatestGains_18 (by decide) (fun c_18 => ?_) (fun c_18 => absurd c_18 (by omega))
      refine pw_iconst hx hb dX9_valuesAreGreatestGains_132 ?_
      exact pw_zret hx hb hr hlocks hS (by omega) ⟨rfl, ⟨_, _, _, _, _, _, hCO, hgg, hGb, hGr, gw, hGw⟩, ⟨_, hLf⟩⟩ dX9_valuesAreGreatestGains_133
    | succ mm ih =>
      intro n vb sb xl H locs ls hn
      have hc4 := hC4 n (by omega)
      have hpn := hπ n (by omega)
      have hvn := (hPV.2.2 n (by omega)).2
      have hvni := int_lt (Nat.lt_of_le_of_lt hvn (show 16800000 ^ 6 < 1000000 ^ 24 by decide +kernel))
      have loop2 : ∀ (ii a : Nat) (vb sb xl : Int) (H : Heap) (locs : List Loc) (ls : Array Slot), a + ii = mC σ n → OA D o0 9 [.ref (o0 + 1), .ref (o0 + 52), .ref (o0 + 317), .ref (o0 + 326), .ref (o0 + 482), .ref (o0 + 498), .ref (o0 + 499), .ref (o0 + 564), .ref (o0 + 565), .ref (o0 + 566), .ref (o0 + 577), .ref (o0 + 579), .ref (o0 + 581), .int (iI (rn))] H → MO D E (o0 + 1) σ H → OA D (o0 + 317) 1 [.ref gb, .ref gr, .ref (o0 + 317 + 7)] H → GN D E gb vb sb H → GN D E gr vr sr H → WH D E (o0 + 317 + 7) 24 gw H → RW D E (o0 + 482) 8 bv bd H → IA E (o0 + 498) 6 bp H → WH D E (o0 + 577) 24 xl H → va_S (fun q => (o0 + 317 ≤ q ∧ q ≤ o0 + 325) ∨ (o0 + 577 ≤ q ∧ q ≤ o0 + 578)) s.heap H locs → lv_has ls 5 [(0, .ref (o0)), (1, .ref (gb)), (2, .int (iI ((n : Int)))), (3, .int (iI ((a : Int))))] → W p l e ({ frames := 3, cells := 0, slots := 0, locals := 89 } : Room) s m args below meth c H locs (0) (0) (MQ below (pw_Q rvI (fun z H => z = 1 ∧ CHx D E (o0 + 317) H ∧ WHx D E (o0 + 577) H) (fun q => (o0 + 317 ≤ q ∧ q ≤ o0 + 325) ∨ (o0 + 577 ≤ q ∧ q ≤ o0 + 578))) args s (0) (0) (fun q => (o0 + 317 ≤ q ∧ q ≤ o0 + 325) ∨ (o0 + 577 ≤ q ∧ q ≤ o0 + 578))) (F0 m 23 ls []) := by
        intro ii
        induction ii with
        | zero =>
          intro a vb sb xl H locs ls ha hO hM hCO hGb hGr hGw hRW hBP hLf hS hl
          have ea : a = mC σ n := by omega
          have hMO := hM.1
          have hMC := hM.2.1
          have hROw := hRW.1
          have hRQw := hRW.2.1
          refine lv_iload_n hx hb dX9_valuesAreGreatestGains_23 rfl (lv_at hl 3 rfl) ?_
          refine lv_aload_n hx hb dX9_valuesAreGreatestGains_24 rfl (lv_at hl 0 rfl) ?_
          refine pw_get (C := RX9) (T := TX9) (N := 14) hx hb hts hin9 hown hK hO rfl 0 (by decide) lk_10 rfl rfl dX9_valuesAreGreatestGains_25 ?_
          refine pw_get (C := RX6) (T := TX6) (N := 5) hx hb hts hin6 hown hK hMO rfl 0 (by decide) lk_95 rfl rfl dX9_valuesAreGreatestGains_28 ?_
          refine lv_iload_n hx hb dX9_valuesAreGreatestGains_31 rfl (lv_at hl 2 rfl) ?_
          refine pw_iald hx hb hK hMC (n) rfl (by omega) (by omega) dX9_valuesAreGreatestGains_32 ?_
          refine pw_asi ((mC σ (n) : Int)) rfl ?_
          refine pw_icmp_ge (tgt := 126) hx hb dX9_valuesAreGreatestGains_33 (by decide) (fun c_33 => ?_) (fun c_33 => absurd c_33 (by omega))
          refine lv_iinc (v := iI (((n + 1 : Nat) : Int))) (lv' := [(2, .int (iI (((n + 1 : Nat) : Int)))), (0, .ref (o0)), (1, .ref (gb)), (3, .int (iI ((a : Int))))]) hx hb dX9_valuesAreGreatestGains_126 hl (k := 2) rfl (by show iI _ + iI _ = _; exact (iI_add _ _).trans (by first | rfl | (congr 1; omega))) (by decide) rfl (fun ls hl => ?_)
          refine lv_goto (tgt := 10) hx hb dX9_valuesAreGreatestGains_129 (by decide) ?_
          exact ih (n + 1) _ _ _ _ _ _ (by omega) hO hM hCO hGb hGr hGw hRW hBP hLf hS (lv_sub hl [1, 2, 0] rfl)
        | succ ii ih2 =>
          intro a vb sb xl H locs ls ha hO hM hCO hGb hGr hGw hRW hBP hLf hS hl
          have hgb := int_lt (Nat.lt_of_lt_of_le (pv_gn hok hPV (show (4 * n + a) < 24 by omega)) (bp_mono (show 23 ≤ 24 by omega)))
          have hgs := gsc_b hok (show (4 * n + a) < 24 by omega)
          have hbg := int_lt (Nat.lt_of_le_of_lt (mulb hvn (show (gsc σ (4 * n + a)).natAbs ≤ 48000 by omega)) (show 16800000 ^ 6 * 48000 < 1000000 ^ 24 by decide +kernel))
          have hmx := hmax n (by omega) a (by omega)
          have heq : a = π n → bv n * gsc σ (4 * n + a) = gnum σ (4 * n + a) bv bd := fun e => by rw [e]; exact (hPV.2.2 n (by omega)).1
          have hMO := hM.1
          have hMC := hM.2.1
          have hROw := hRW.1
          have hRQw := hRW.2.1
          refine lv_iload_n hx hb dX9_valuesAreGreatestGains_23 rfl (lv_at hl 3 rfl) ?_
          refine lv_aload_n hx hb dX9_valuesAreGreatestGains_24 rfl (lv_at hl 0 rfl) ?_
          refine pw_get (C := RX9) (T := TX9) (N := 14) hx hb hts hin9 hown hK hO rfl 0 (by decide) lk_10 rfl rfl dX9_valuesAreGreatestGains_25 ?_
          refine pw_get (C := RX6) (T := TX6) (N := 5) hx hb hts hin6 hown hK hMO rfl 0 (by decide) lk_95 rfl rfl dX9_valuesAreGreatestGains_28 ?_
          refine lv_iload_n hx hb dX9_valuesAreGreatestGains_31 rfl (lv_at hl 2 rfl) ?_
          refine pw_iald hx hb hK hMC (n) rfl (by omega) (by omega) dX9_valuesAreGreatestGains_32 ?_
          refine pw_asi ((mC σ (n) : Int)) rfl ?_
          refine pw_icmp_ge (tgt := 126) hx hb dX9_valuesAreGreatestGains_33 (by decide) (fun c_33 => absurd c_33 (by omega)) (fun c_33 => ?_)
          refine lv_aload_n hx hb dX9_valuesAreGreatestGains_36 rfl (lv_at hl 1 rfl) ?_
          refine lv_aload_n hx hb dX9_valuesAreGreatestGains_37 rfl (lv_at hl 0 rfl) ?_
          refine pw_get (C := RX9) (T := TX9) (N := 14) hx hb hts hin9 hown hK hO rfl 0 (by decide) lk_10 rfl rfl dX9_valuesAreGreatestGains_38 ?_
          refine lv_aload_n hx hb dX9_valuesAreGreatestGains_41 rfl (lv_at hl 0 rfl) ?_
          refine pw_get (C := RX9) (T := TX9) (N := 14) hx hb hts hin9 hown hK hO rfl 0 (by decide) lk_10 rfl rfl dX9_valuesAreGreatestGains_42 ?_
          refine lv_iload_n hx hb dX9_valuesAreGreatestGains_45 rfl (lv_at hl 2 rfl) ?_
          refine lv_iload_n hx hb dX9_valuesAreGreatestGains_46 rfl (lv_at hl 3 rfl) ?_
          refine pw_callVr (As := [.int (iI ((n : Int))), .int (iI ((a : Int)))]) (rest := [.ref (o0 + 1), .ref (gb)]) ⟨hx, hb, hml, hown, hts⟩ (c_find l D E (o0 + 1) σ n a (by omega) (by omega)) (cwV 2 hts gX9_valuesAreGreatestGains_X6_find rfl rfl rfl (by decide +kernel) ⟨Nat.le_of_ble_eq_true rfl, Nat.le_of_ble_eq_true rfl⟩) hK hMO rfl hM rfl hl.1 rfl (Nat.le_of_ble_eq_true rfl) dX9_valuesAreGreatestGains_47 ⟨Nat.zero_le _, Nat.zero_le _⟩ hS (fun q h => h.elim) (fun zf H1 locs1 hzf hz1 hk1 hS => ?_)
          have hO := hO.k (hk1 _ hO.lt (fun h => h))
          have hM := hM.k (fun q h1 h2 h3 => (hk1 _ h3 (fun h => h)))
          have hMO := hMO.k (hk1 _ hMO.lt (fun h => h))
          have hMC := hMC.k (hk1 _ hMC.lt (fun h => h))
          have hCO := hCO.k (hk1 _ hCO.lt (fun h => h))
          have hGb := hGb.k (fun q h1 h2 h3 => (hk1 _ h3 (fun h => h)))
          have hGr := hGr.k (fun q h1 h2 h3 => (hk1 _ h3 (fun h => h)))
          have hGw := hGw.k (hk1 _ (by have := hGw.lt; omega) (fun h => h)) (hk1 _ hGw.lt (fun h => h))
          have hRW := hRW.k (fun q h1 h2 h3 => (hk1 _ h3 (fun h => h)))
          have hROw := hROw.k (hk1 _ hROw.lt (fun h => h))
          have hRQw := hRQw.k (hk1 _ hRQw.lt (fun h => h))
          have hBP := hBP.k (hk1 _ hBP.lt (fun h => h))
          have hLf := hLf.k (hk1 _ (by have := hLf.lt; omega) (fun h => h)) (hk1 _ hLf.lt (fun h => h))
          subst hzf
          refine lv_aload_n hx hb dX9_valuesAreGreatestGains_50 rfl (lv_at hl 0 rfl) ?_
          refine pw_get (C := RX9) (T := TX9) (N := 14) hx hb hts hin9 hown hK hO rfl 4 (by decide) lk_42 rfl rfl dX9_valuesAreGreatestGains_51 ?_
          refine pw_callVv (As := [.ref (o0 + 1), .ref (o0 + 1 + 3 + 2 * (4 * n + a)), .ref (o0 + 482)]) (rest := []) ⟨hx, hb, hml, hown, hts⟩ (c_weigh l D E gb (o0 + 1) (o0 + 482) 8 (4 * n + a) σ bv bd vb sb hok (by omega) (by omega) (by omega) (by omega) hgb.1 hgb.2) (cwV 3 hts gX9_valuesAreGreatestGains_X4_weigh rfl rfl rfl (by decide +kernel) ⟨Nat.le_of_ble_eq_true rfl, Nat.le_of_ble_eq_true rfl⟩) hK hGb.1 rfl ⟨hGb, hM, hRW⟩ rfl hl.1 rfl (Nat.le_of_ble_eq_true rfl) dX9_valuesAreGreatestGains_54 ⟨Nat.zero_le _, Nat.zero_le _⟩ hS (fun q h => by (try dsimp only at h); (try dsimp only); omega) (fun H1 locs1 hGb hz1 hk1 hS => ?_)
          have hO := hO.k (hk1 _ hO.lt (by (try dsimp only); omega))
          have hM := hM.k (fun q h1 h2 h3 => (hk1 _ h3 (by (try dsimp only); omega)))
          have hMO := hMO.k (hk1 _ hMO.lt (by (try dsimp only); omega))
          have hMC := hMC.k (hk1 _ hMC.lt (by (try dsimp only); omega))
          have hCO := hCO.k (hk1 _ hCO.lt (by (try dsimp only); omega))
          have hGr := hGr.k (fun q h1 h2 h3 => (hk1 _ h3 (by (try dsimp only); omega)))
          have hGw := hGw.k (hk1 _ (by have := hGw.lt; omega) (by (try dsimp only); omega)) (hk1 _ hGw.lt (by (try dsimp only); omega))
          have hRW := hRW.k (fun q h1 h2 h3 => (hk1 _ h3 (by (try dsimp only); omega)))
          have hROw := hROw.k (hk1 _ hROw.lt (by (try dsimp only); omega))
          have hRQw := hRQw.k (hk1 _ hRQw.lt (by (try dsimp only); omega))
          have hBP := hBP.k (hk1 _ hBP.lt (by (try dsimp only); omega))
          have hLf := hLf.k (hk1 _ (by have := hLf.lt; omega) (by (try dsimp only); omega)) (hk1 _ hLf.lt (by (try dsimp only); omega))
          obtain ⟨hGO, hGA⟩ := hGb
          refine lv_aload_n hx hb dX9_valuesAreGreatestGains_57 rfl (lv_at hl 0 rfl) ?_
          refine pw_get (C := RX9) (T := TX9) (N := 14) hx hb hts hin9 hown hK hO rfl 10 (by decide) lk_71 rfl rfl dX9_valuesAreGreatestGains_58 ?_
          refine lv_aload_n hx hb dX9_valuesAreGreatestGains_61 rfl (lv_at hl 0 rfl) ?_
          refine pw_get (C := RX9) (T := TX9) (N := 14) hx hb hts hin9 hown hK hO rfl 4 (by decide) lk_42 rfl rfl dX9_valuesAreGreatestGains_62 ?_
          refine pw_get (C := RX7) (T := TX7) (N := 2) hx hb hts hin7 hown hK hROw rfl 0 (by decide) lk_232 rfl rfl dX9_valuesAreGreatestGains_65 ?_
          refine lv_iload_n hx hb dX9_valuesAreGreatestGains_68 rfl (lv_at hl 2 rfl) ?_
          refine pw_qald hx hb hK hRQw rfl (n) rfl (by omega) (by omega) rfl dX9_valuesAreGreatestGains_69 ?_
          obtain ⟨kx, hLfr⟩ := hLf.r
          refine pw_callVv (As := [.ref (o0 + 482 + 2 + 2 * n)]) (rest := []) ⟨hx, hb, hml, hown, hts⟩ (c_copy l D E (o0 + 577) 24 (o0 + 482 + 2 + 2 * n) 8 (wdig _) kx _ (bv n) (by omega) (by omega) (by omega) hvni.1 hvni.2) (cwV 1 hts gX9_valuesAreGreatestGains_X8_copy rfl rfl rfl (by decide +kernel) ⟨Nat.le_of_ble_eq_true rfl, Nat.le_of_ble_eq_true rfl⟩) hK hLfr.1 rfl ⟨hLfr, (hRW.2.2.1 n (by omega))⟩ rfl hl.1 rfl (Nat.le_of_ble_eq_true rfl) dX9_valuesAreGreatestGains_70 ⟨Nat.zero_le _, Nat.zero_le _⟩ hS (fun q h => by (try dsimp only at h); (try dsimp only); omega) (fun H1 locs1 hLf hz1 hk1 hS => ?_)
          have hO := hO.k (hk1 _ hO.lt (by (try dsimp only); omega))
          have hM := hM.k (fun q h1 h2 h3 => (hk1 _ h3 (by (try dsimp only); omega)))
          have hMO := hMO.k (hk1 _ hMO.lt (by (try dsimp only); omega))
          have hMC := hMC.k (hk1 _ hMC.lt (by (try dsimp only); omega))
          have hCO := hCO.k (hk1 _ hCO.lt (by (try dsimp only); omega))
          have hGr := hGr.k (fun q h1 h2 h3 => (hk1 _ h3 (by (try dsimp only); omega)))
          have hGw := hGw.k (hk1 _ (by have := hGw.lt; omega) (by (try dsimp only); omega)) (hk1 _ hGw.lt (by (try dsimp only); omega))
          have hRW := hRW.k (fun q h1 h2 h3 => (hk1 _ h3 (by (try dsimp only); omega)))
          have hROw := hROw.k (hk1 _ hROw.lt (by (try dsimp only); omega))
          have hRQw := hRQw.k (hk1 _ hRQw.lt (by (try dsimp only); omega))
          have hBP := hBP.k (hk1 _ hBP.lt (by (try dsimp only); omega))
          have hGO := hGO.k (hk1 _ hGO.lt (by (try dsimp only); omega))
          have hGA := hGA.k (hk1 _ (by have := hGA.lt; omega) (by (try dsimp only); omega)) (hk1 _ hGA.lt (by (try dsimp only); omega))
          refine lv_aload_n hx hb dX9_valuesAreGreatestGains_73 rfl (lv_at hl 0 rfl) ?_
          refine pw_get (C := RX9) (T := TX9) (N := 14) hx hb hts hin9 hown hK hO rfl 10 (by decide) lk_71 rfl rfl dX9_valuesAreGreatestGains_74 ?_
          refine lv_aload_n hx hb dX9_valuesAreGreatestGains_77 rfl (lv_at hl 1 rfl) ?_
          refine pw_get (C := RX4) (T := TX4) (N := 2) hx hb hts hin4 hown hK hGO rfl 1 (by decide) lk_174 rfl rfl dX9_valuesAreGreatestGains_78 ?_
          refine pw_i2l hx hb dX9_valuesAreGreatestGains_81 ?_
          refine pw_callVv (As := [.long (lI (gsc σ (4 * n + a)))]) (rest := []) ⟨hx, hb, hml, hown, hts⟩ (c_multiply l D E (o0 + 577) 24 (bv n) (gsc σ (4 * n + a)) (by omega) (by omega) (by omega) hbg.1 hbg.2) (cwV 1 hts gX9_valuesAreGreatestGains_X8_multiply rfl rfl rfl (by decide +kernel) ⟨Nat.le_of_ble_eq_true rfl, Nat.le_of_ble_eq_true rfl⟩) hK hLf.o.choose_spec rfl hLf rfl hl.1 rfl (Nat.le_of_ble_eq_true rfl) dX9_valuesAreGreatestGains_82 ⟨Nat.zero_le _, Nat.zero_le _⟩ hS (fun q h => by (try dsimp only at h); (try dsimp only); omega) (fun H1 locs1 hLf hz1 hk1 hS => ?_)
          have hO := hO.k (hk1 _ hO.lt (by (try dsimp only); omega))
          have hM := hM.k (fun q h1 h2 h3 => (hk1 _ h3 (by (try dsimp only); omega)))
          have hMO := hMO.k (hk1 _ hMO.lt (by (try dsimp only); omega))
          have hMC := hMC.k (hk1 _ hMC.lt (by (try dsimp only); omega))
          have hCO := hCO.k (hk1 _ hCO.lt (by (try dsimp only); omega))
          have hGr := hGr.k (fun q h1 h2 h3 => (hk1 _ h3 (by (try dsimp only); omega)))
          have hGw := hGw.k (hk1 _ (by have := hGw.lt; omega) (by (try dsimp only); omega)) (hk1 _ hGw.lt (by (try dsimp only); omega))
          have hRW := hRW.k (fun q h1 h2 h3 => (hk1 _ h3 (by (try dsimp only); omega)))
          have hROw := hROw.k (hk1 _ hROw.lt (by (try dsimp only); omega))
          have hRQw := hRQw.k (hk1 _ hRQw.lt (by (try dsimp only); omega))
          have hBP := hBP.k (hk1 _ hBP.lt (by (try dsimp only); omega))
          have hGO := hGO.k (hk1 _ hGO.lt (by (try dsimp only); omega))
          have hGA := hGA.k (hk1 _ (by have := hGA.lt; omega) (by (try dsimp only); omega)) (hk1 _ hGA.lt (by (try dsimp only); omega))
          refine lv_aload_n hx hb dX9_valuesAreGreatestGains_85 rfl (lv_at hl 0 rfl) ?_
          refine pw_get (C := RX9) (T := TX9) (N := 14) hx hb hts hin9 hown hK hO rfl 10 (by decide) lk_71 rfl rfl dX9_valuesAreGreatestGains_86 ?_
          refine lv_aload_n hx hb dX9_valuesAreGreatestGains_89 rfl (lv_at hl 1 rfl) ?_
          refine pw_get (C := RX4) (T := TX4) (N := 2) hx hb hts hin4 hown hK hGO rfl 0 (by decide) lk_166 rfl rfl dX9_valuesAreGreatestGains_90 ?_
          refine pw_callVi (As := [.ref (gb + 1)]) (rest := []) ⟨hx, hb, hml, hown, hts⟩ (c_compare l D E (o0 + 577) 24 (gb + 1) 24 (bv n * gsc σ (4 * n + a)) (gnum σ (4 * n + a) bv bd) (by omega) (by omega)) (cwV 1 hts gX9_valuesAreGreatestGains_X8_compare rfl rfl rfl (by decide +kernel) ⟨Nat.le_of_ble_eq_true rfl, Nat.le_of_ble_eq_true rfl⟩) hK hLf.o.choose_spec rfl ⟨hLf, hGA⟩ rfl hl.1 rfl (Nat.le_of_ble_eq_true rfl) dX9_valuesAreGreatestGains_93 ⟨Nat.zero_le _, Nat.zero_le _⟩ hS (fun q h => h.elim) (fun z H1 locs1 ⟨hz, _⟩ hz1 hk1 hS => ?_)
          have hO := hO.k (hk1 _ hO.lt (fun h => h))
          have hM := hM.k (fun q h1 h2 h3 => (hk1 _ h3 (fun h => h)))
          have hMO := hMO.k (hk1 _ hMO.lt (fun h => h))
          have hMC := hMC.k (hk1 _ hMC.lt (fun h => h))
          have hCO := hCO.k (hk1 _ hCO.lt (fun h => h))
          have hGr := hGr.k (fun q h1 h2 h3 => (hk1 _ h3 (fun h => h)))
          have hGw := hGw.k (hk1 _ (by have := hGw.lt; omega) (fun h => h)) (hk1 _ hGw.lt (fun h => h))
          have hRW := hRW.k (fun q h1 h2 h3 => (hk1 _ h3 (fun h => h)))
          have hROw := hROw.k (hk1 _ hROw.lt (fun h => h))
          have hRQw := hRQw.k (hk1 _ hRQw.lt (fun h => h))
          have hBP := hBP.k (hk1 _ hBP.lt (fun h => h))
          have hLf := hLf.k (hk1 _ (by have := hLf.lt; omega) (fun h => h)) (hk1 _ hLf.lt (fun h => h))
          have hGO := hGO.k (hk1 _ hGO.lt (fun h => h))
          have hGA := hGA.k (hk1 _ (by have := hGA.lt; omega) (fun h => h)) (hk1 _ hGA.lt (fun h => h))
          have hz01 : 0 ≤ z ∧ z ≤ 1 ∧ (bv n * gsc σ (4 * n + a) = gnum σ (4 * n + a) bv bd → z = 0) := by rw [hz, if_neg (by omega)]; split <;> omega
          refine lv_istore (lv' := [(4, .int (iI (z))), (0, .ref (o0)), (1, .ref (gb)), (2, .int (iI ((n : Int)))), (3, .int (iI ((a : Int))))]) hx hb dX9_valuesAreGreatestGains_96 hl (by decide) rfl (fun ls hl => ?_)
          refine lv_iload hx hb dX9_valuesAreGreatestGains_98 (lv_at hl 0 rfl) ?_
          refine pw_if_lt (tgt := 118) hx hb dX9_valuesAreGreatestGains_100 (by decide) (fun c_100 => absurd c_100 (by omega)) (fun c_100 => ?_)
          refine lv_iload hx hb dX9_valuesAreGreatestGains_103 (lv_at hl 0 rfl) ?_
          refine pw_if_eq (tgt := 120) hx hb dX9_valuesAreGreatestGains_105 (by decide) (fun c_105 => ?_) (fun c_105 => ?_)
          · refine lv_iinc (v := iI (((a + 1 : Nat) : Int))) (lv' := [(3, .int (iI (((a + 1 : Nat) : Int)))), (4, .int (iI (z))), (0, .ref (o0)), (1, .ref (gb)), (2, .int (iI ((n : Int))))]) hx hb dX9_valuesAreGreatestGains_120 hl (k := 4) rfl (by show iI _ + iI _ = _; exact (iI_add _ _).trans (by first | rfl | (congr 1; omega))) (by decide) rfl (fun ls hl => ?_)
            refine lv_goto (tgt := 23) hx hb dX9_valuesAreGreatestGains_123 (by decide) ?_
            have hGb : GN D E gb _ _ _ := ⟨hGO, hGA⟩
            exact ih2 (a + 1) _ _ _ _ _ _ (by omega) hO hM hCO hGb hGr hGw hRW hBP hLf hS (lv_sub hl [2, 3, 4, 0] rfl)
          · refine lv_iload_n hx hb dX9_valuesAreGreatestGains_108 rfl (lv_at hl 4 rfl) ?_
            refine lv_aload_n hx hb dX9_valuesAreGreatestGains_109 rfl (lv_at hl 1 rfl) ?_
            refine pw_get (C := RX9) (T := TX9) (N := 14) hx hb hts hin9 hown hK hO rfl 5 (by decide) lk_46 rfl rfl dX9_valuesAreGreatestGains_110 ?_
            refine lv_iload_n hx hb dX9_valuesAreGreatestGains_113 rfl (lv_at hl 3 rfl) ?_
            refine pw_iald hx hb hK hBP (n) rfl (by omega) (by omega) dX9_valuesAreGreatestGains_114 ?_
            refine pw_asi ((π n : Int)) hpn.2 ?_
            refine pw_icmp_ne (tgt := 120) hx hb dX9_valuesAreGreatestGains_115 (by decide) (fun c_115 => ?_) (fun c_115 => absurd c_115 (fun h => by have := hz01.2.2 (heq (by omega)); omega))
            refine lv_iinc (v := iI (((a + 1 : Nat) : Int))) (lv' := [(3, .int (iI (((a + 1 : Nat) : Int)))), (4, .int (iI (z))), (0, .ref (o0)), (1, .ref (gb)), (2, .int (iI ((n : Int))))]) hx hb dX9_valuesAreGreatestGains_120 hl (k := 4) rfl (by show iI _ + iI _ = _; exact (iI_add _ _).trans (by first | rfl | (congr 1; omega))) (by decide) rfl (fun ls hl => ?_)
            refine lv_goto (tgt := 23) hx hb dX9_valuesAreGreatestGains_123 (by decide) ?_
            have hGb : GN D E gb _ _ _ := ⟨hGO, hGA⟩
            exact ih2 (a + 1) _ _ _ _ _ _ (by omega) hO hM hCO hGb hGr hGw hRW hBP hLf hS (lv_sub hl [2, 3, 4, 0] rfl)
      intro hO hM hCO hGb hGr hGw hRW hBP hLf hS hl
      have hMO := hM.1
      have hMC := hM.2.1
      have hROw := hRW.1
      have hRQw := hRW.2.1
      refine lv_iload_n hx hb dX9_valuesAreGreatestGains_10 rfl (lv_at hl 2 rfl) ?_
      refine lv_aload_n hx hb dX9_valuesAreGreatestGains_11 rfl (lv_at hl 0 rfl) ?_
      refine pw_get (C := RX9) (T := TX9) (N := 14) hx hb hts hin9 hown hK hO rfl 0 (by decide) lk_10 rfl rfl dX9_valuesAreGreatestGains_12 ?_
      refine pw_get (C := RX6) (T := TX6) (N := 5) hx hb hts hin6 hown hK hMO rfl 2 (by decide) lk_85 rfl rfl dX9_valuesAreGreatestGains_15 ?_
      refine pw_icmp_ge (tgt := 132) hx hb dX9_valuesAreGreatestGains_18 (by decide) (fun c_18 => absurd c_18 (by omega)) (fun c_18 => ?_)
      refine pw_iconst hx hb dX9_valuesAreGreatestGains_21 ?_
      refine pw_asi (((0 : Nat) : Int)) rfl ?_
      refine lv_istore_n (lv' := [(3, .int (iI (((0 : Nat) : Int)))), (0, .ref (o0)), (1, .ref (gb)), (2, .int (iI ((n : Int))))]) hx hb dX9_valuesAreGreatestGains_22 rfl hl (by decide) rfl (fun ls hl => ?_)
      exact loop2 (mC σ n) 0 _ _ _ _ _ _ (by omega) hO hM hCO hGb hGr hGw hRW hBP hLf hS (lv_sub hl [1, 2, 3, 0] rfl)
  have hMO := hM.1
  have hMC := hM.2.1
  have hROw := hRW.1
  have hRQw := hRW.2.1
  refine lv_aload_n hx hb dX9_valuesAreGreatestGains_0 rfl (lv_at hl 0 rfl) ?_
  refine pw_get (C := RX9) (T := TX9) (N := 14) hx hb hts hin9 hown hK hO rfl 2 (by decide) lk_26 rfl rfl dX9_valuesAreGreatestGains_1 ?_
  refine pw_get (C := RX1) (T := TX1) (N := 3) hx hb hts hin1 hown hK hCO rfl 0 (by decide) lk_154 rfl rfl dX9_valuesAreGreatestGains_4 ?_
  refine lv_astore_n (lv' := [(1, .ref (gb)), (0, .ref (o0))]) hx hb dX9_valuesAreGreatestGains_7 rfl hl (by decide) rfl (fun ls hl => ?_)
  refine pw_iconst hx hb dX9_valuesAreGreatestGains_8 ?_
  refine pw_asi (((0 : Nat) : Int)) rfl ?_
  refine lv_istore_n (lv' := [(2, .int (iI (((0 : Nat) : Int)))), (1, .ref (gb)), (0, .ref (o0))]) hx hb dX9_valuesAreGreatestGains_9 rfl hl (by decide) rfl (fun ls hl => ?_)
  exact loop (mN σ) 0 _ _ _ _ _ _ (by omega) hO hM hCO hGb hGr hGw hRW hBP hLf hS (lv_sub hl [2, 1, 0] rfl)
set_option maxHeartbeats 4000000 in
set_option maxRecDepth 100000 in
/-- noWorthIsMore() -/
theorem c_nwim (l : Launch) (D : va_G) (E : Nat → ClassId) (o0 : Nat) (σ : MS) (rn : Int) (bv bp : Nat → Int) (bd : Int) (π : Nat → Nat) (wn : Nat → Nat → Int) (wd wq : Nat → Int) (hwq : WQ σ wn wd wq) (hok : mOK σ) (hrd : rdy σ) (hπ : ∀ s, s < mN σ → π s < mC σ s ∧ bp s = (π s : Int)) (hPV : PV σ π bv bd) (hmax : ∀ s, s < mN σ → ∀ j, j < mC σ s → gnum σ (4 * s + j) bv bd ≤ bv s * gsc σ (4 * s + j)) : pw_M rvI l D E yX9_noWorthIsMore wsX9_noWorthIsMore ({ frames := 5, cells := 0, slots := 0, locals := 140 } : Room) [.ref (o0)] (fun H => OA D o0 9 [.ref (o0 + 1), .ref (o0 + 52), .ref (o0 + 317), .ref (o0 + 326), .ref (o0 + 482), .ref (o0 + 498), .ref (o0 + 499), .ref (o0 + 564), .ref (o0 + 565), .ref (o0 + 566), .ref (o0 + 577), .ref (o0 + 579), .ref (o0 + 581), .int (iI (rn))] H ∧ MO D E (o0 + 1) σ H ∧ EQx D E (o0 + 52) H ∧ QA E 4 (o0 + 499) 4 (fun k => some (o0 + 500 + 16 * k)) H ∧ WRS D E (o0 + 500) 4 wn wd H ∧ ZA E (o0 + 564) 4 wq H ∧ IAx E (o0 + 565) H ∧ RW D E (o0 + 482) 8 bv bd H ∧ WHx D E (o0 + 577) H ∧ WHx D E (o0 + 579) H) (fun z H => z = 1 ∧ EQx D E (o0 + 52) H ∧ IAx E (o0 + 565) H ∧ (∃ wn wd wq, WRS D E (o0 + 500) 4 wn wd H ∧ ZA E (o0 + 564) 4 wq H ∧ WQ σ wn wd wq) ∧ WHx D E (o0 + 577) H ∧ WHx D E (o0 + 579) H) (fun q => (o0 + 52 ≤ q ∧ q ≤ o0 + 316) ∨ (o0 + 500 ≤ q ∧ q ≤ o0 + 565) ∨ (o0 + 577 ≤ q ∧ q ≤ o0 + 580)) (0) (0) := by
  refine pw_of (cc := cX9_noWorthIsMore) (maxL := 4) (ret := (some .boolean)) (by decide +kernel) rfl (Nat.le_of_ble_eq_true rfl) ?_
  intro p e s m args below meth c hx hb hr hml hts hown hlocks hini hK ⟨hO, hM, hE, hQ, hWS, hZ, hT, hRW, ⟨xl, hLf⟩, ⟨xr, hRt⟩⟩ ls hl
  have hown : s.vm.findClass RX9 = some m.cls := hown
  have hl : lv_has ls 4 [(0, .ref (o0))] := hl
  have hS : va_S (fun q => (o0 + 52 ≤ q ∧ q ≤ o0 + 316) ∨ (o0 + 500 ≤ q ∧ q ≤ o0 + 565) ∨ (o0 + 577 ≤ q ∧ q ≤ o0 + 580)) s.heap s.heap [] := va_S.rf
  have lk_10 := hts (.fieldLink RX9 10 "PolicyWorks" "model" "LPolicyWorks$Model;") (by decide +kernel)
  have lk_42 := hts (.fieldLink RX9 42 "PolicyWorks" "bestValues" "LPolicyWorks$Row;") (by decide +kernel)
  have lk_71 := hts (.fieldLink RX9 71 "PolicyWorks" "left" "LPolicyWorks$Whole;") (by decide +kernel)
  have lk_75 := hts (.fieldLink RX9 75 "PolicyWorks" "right" "LPolicyWorks$Whole;") (by decide +kernel)
  have lk_85 := hts (.fieldLink RX9 85 "PolicyWorks$Model" "states" "I") (by decide +kernel)
  have lk_173 := hts (.fieldLink RX9 173 "PolicyWorks$Row" "below" "LPolicyWorks$Whole;") (by decide +kernel)
  have lk_232 := hts (.fieldLink RX9 232 "PolicyWorks$Row" "above" "[LPolicyWorks$Whole;") (by decide +kernel)
  have hin6 : ∀ w ∈ wsX60, w ∈ wsX9_noWorthIsMore := by decide +kernel
  have hin7 : ∀ w ∈ wsX70, w ∈ wsX9_noWorthIsMore := by decide +kernel
  have hin9 : ∀ w ∈ wsX90, w ∈ wsX9_noWorthIsMore := by decide +kernel
  have hN6 := hok.1
  have loop : ∀ (mm k : Nat) (wn : Nat → Nat → Int) (wd wq : Nat → Int) (xl xr : Int) (H : Heap) (locs : List Loc) (ls : Array Slot), k + mm = 4 → WQ σ wn wd wq → OA D o0 9 [.ref (o0 + 1), .ref (o0 + 52), .ref (o0 + 317), .ref (o0 + 326), .ref (o0 + 482), .ref (o0 + 498), .ref (o0 + 499), .ref (o0 + 564), .ref (o0 + 565), .ref (o0 + 566), .ref (o0 + 577), .ref (o0 + 579), .ref (o0 + 581), .int (iI (rn))] H → MO D E (o0 + 1) σ H → EQx D E (o0 + 52) H → QA E 4 (o0 + 499) 4 (fun k => some (o0 + 500 + 16 * k)) H → WRS D E (o0 + 500) 4 wn wd H → ZA E (o0 + 564) 4 wq H → IAx E (o0 + 565) H → RW D E (o0 + 482) 8 bv bd H → WH D E (o0 + 577) 24 xl H → WH D E (o0 + 579) 24 xr H → va_S (fun q => (o0 + 52 ≤ q ∧ q ≤ o0 + 316) ∨ (o0 + 500 ≤ q ∧ q ≤ o0 + 565) ∨ (o0 + 577 ≤ q ∧ q ≤ o0 + 580)) s.heap H locs → lv_has ls 4 [(0, .ref (o0)), (1, .int (iI ((k : Int))))] → W p l e ({ frames := 5, cells := 0, slots := 0, locals := 140 } : Room) s m args below meth c H locs (0) (0) (MQ below (pw_Q rvI (fun z H => z = 1 ∧ EQx D E (o0 + 52) H ∧ IAx E (o0 + 565) H ∧ (∃ wn wd wq, WRS D E (o0 + 500) 4 wn wd H ∧ ZA E (o0 + 564) 4 wq H ∧ WQ σ wn wd wq) ∧ WHx D E (o0 + 577) H ∧ WHx D E (o0 + 579) H) (fun q => (o0 + 52 ≤ q ∧ q ≤ o0 + 316) ∨ (o0 + 500 ≤ q ∧ q ≤ o0 + 565) ∨ (o0 + 577 ≤ q ∧ q ≤ o0 + 580))) args s (0) (0) (fun q => (o0 + 52 ≤ q ∧ q ≤ o0 + 316) ∨ (o0 + 500 ≤ q ∧ q ≤ o0 + 565) ∨ (o0 + 577 ≤ q ∧ q ≤ o0 + 580))) (F0 m 2 ls []) := by
    intro mm
    induction mm with
    | zero =>
      intro k wn wd wq xl xr H locs ls hk hwq hO hM hE hQ hWS hZ hT hRW hLf hRt hS hl
      have ek : k = 4 := by omega
      subst ek
      have hMO := hM.1
      have hROw := hRW.1
      have hRQw := hRW.2.1
      refine lv_iload_n hx hb dX9_noWorthIsMore_2 rfl (lv_at hl 1 rfl) ?_
      refine pw_iconst hx hb dX9_noWorthIsMore_3 ?_
      refine pw_icmp_ge (tgt := 94) hx hb dX9_noWorthIsMore_4 (by decide) (fun c_4 => ?_) (fun c_4 => absurd c_4 (by omega))
      refine pw_iconst hx hb dX9_noWorthIsMore_94 ?_
      exact pw_zret hx hb hr hlocks hS (by omega) ⟨rfl, hE, hT, ⟨_, _, _, hWS, hZ, hwq⟩, ⟨_, hLf⟩, ⟨_, hRt⟩⟩ dX9_noWorthIsMore_95
    | succ mm ih =>
      intro k wn0 wd0 wq0 xl xr H locs ls hk hwq
      have loop2 : ∀ (ii n : Nat) (wn : Nat → Nat → Int) (wd wq : Nat → Int) (xl xr : Int) (H : Heap) (locs : List Loc) (ls : Array Slot), n + ii = mN σ → WQ σ wn wd wq → PV σ (tpol σ k) (wn k) (wd k) → OA D o0 9 [.ref (o0 + 1), .ref (o0 + 52), .ref (o0 + 317), .ref (o0 + 326), .ref (o0 + 482), .ref (o0 + 498), .ref (o0 + 499), .ref (o0 + 564), .ref (o0 + 565), .ref (o0 + 566), .ref (o0 + 577), .ref (o0 + 579), .ref (o0 + 581), .int (iI (rn))] H → MO D E (o0 + 1) σ H → EQx D E (o0 + 52) H → QA E 4 (o0 + 499) 4 (fun k => some (o0 + 500 + 16 * k)) H → WRS D E (o0 + 500) 4 wn wd H → ZA E (o0 + 564) 4 wq H → IAx E (o0 + 565) H → RW D E (o0 + 482) 8 bv bd H → WH D E (o0 + 577) 24 xl H → WH D E (o0 + 579) 24 xr H → va_S (fun q => (o0 + 52 ≤ q ∧ q ≤ o0 + 316) ∨ (o0 + 500 ≤ q ∧ q ≤ o0 + 565) ∨ (o0 + 577 ≤ q ∧ q ≤ o0 + 580)) s.heap H locs → lv_has ls 4 [(0, .ref (o0)), (1, .int (iI ((k : Int)))), (2, .ref (o0 + 500 + 16 * k)), (3, .int (iI ((n : Int))))] → W p l e ({ frames := 5, cells := 0, slots := 0, locals := 140 } : Room) s m args below meth c H locs (0) (0) (MQ below (pw_Q rvI (fun z H => z = 1 ∧ EQx D E (o0 + 52) H ∧ IAx E (o0 + 565) H ∧ (∃ wn wd wq, WRS D E (o0 + 500) 4 wn wd H ∧ ZA E (o0 + 564) 4 wq H ∧ WQ σ wn wd wq) ∧ WHx D E (o0 + 577) H ∧ WHx D E (o0 + 579) H) (fun q => (o0 + 52 ≤ q ∧ q ≤ o0 + 316) ∨ (o0 + 500 ≤ q ∧ q ≤ o0 + 565) ∨ (o0 + 577 ≤ q ∧ q ≤ o0 + 580))) args s (0) (0) (fun q => (o0 + 52 ≤ q ∧ q ≤ o0 + 316) ∨ (o0 + 500 ≤ q ∧ q ≤ o0 + 565) ∨ (o0 + 577 ≤ q ∧ q ≤ o0 + 580))) (F0 m 15 ls []) := by
        intro ii
        induction ii with
        | zero =>
          intro n wn wd wq xl xr H locs ls hn hwq hpw hO hM hE hQ hWS hZ hT hRW hLf hRt hS hl
          have en : n = mN σ := by omega
          subst en
          have hMO := hM.1
          have hROw := hRW.1
          have hRQw := hRW.2.1
          refine lv_iload_n hx hb dX9_noWorthIsMore_15 rfl (lv_at hl 3 rfl) ?_
          refine lv_aload_n hx hb dX9_noWorthIsMore_16 rfl (lv_at hl 0 rfl) ?_
          refine pw_get (C := RX9) (T := TX9) (N := 14) hx hb hts hin9 hown hK hO rfl 0 (by decide) lk_10 rfl rfl dX9_noWorthIsMore_17 ?_
          refine pw_get (C := RX6) (T := TX6) (N := 5) hx hb hts hin6 hown hK hMO rfl 2 (by decide) lk_85 rfl rfl dX9_noWorthIsMore_20 ?_
          refine pw_icmp_ge (tgt := 88) hx hb dX9_noWorthIsMore_23 (by decide) (fun c_23 => ?_) (fun c_23 => absurd c_23 (by omega))
          refine lv_iinc (v := iI (((k + 1 : Nat) : Int))) (lv' := [(1, .int (iI (((k + 1 : Nat) : Int)))), (0, .ref (o0)), (2, .ref (o0 + 500 + 16 * k)), (3, .int (iI ((mN σ : Int))))]) hx hb dX9_noWorthIsMore_88 hl (k := 1) rfl (by show iI _ + iI _ = _; exact (iI_add _ _).trans (by first | rfl | (congr 1; omega))) (by decide) rfl (fun ls hl => ?_)
          refine lv_goto (tgt := 2) hx hb dX9_noWorthIsMore_91 (by decide) ?_
          exact ih (k + 1) _ _ _ _ _ _ _ _ (by omega) hwq hO hM hE hQ hWS hZ hT hRW hLf hRt hS (lv_sub hl [1, 0] rfl)
        | succ ii ih2 =>
          intro n wn wd wq xl xr H locs ls hn hwq hpw hO hM hE hQ hWS hZ hT hRW hLf hRt hS hl
          have hRk := hWS k (by omega) (by omega)
          have hRkO := hRk.1
          have hRkQ := hRk.2.1
          have hle := pv_worse (v := bv) (b := bd) hok hrd (fun s hs => tpol_lt hrd hs) hpw (fun s hs => hmax s hs _ (tpol_lt hrd hs)) n (by omega)
          have h1 := int_lt (Nat.lt_of_le_of_lt (mulb (hPV.2.2 n (by omega)).2 hpw.2.1) (show 16800000 ^ 6 * 16800000 ^ 6 < 1000000 ^ 24 by decide +kernel))
          have h2 := int_lt (Nat.lt_of_le_of_lt (mulb (hpw.2.2 n (by omega)).2 hPV.2.1) (show 16800000 ^ 6 * 16800000 ^ 6 < 1000000 ^ 24 by decide +kernel))
          have hMO := hM.1
          have hROw := hRW.1
          have hRQw := hRW.2.1
          refine lv_iload_n hx hb dX9_noWorthIsMore_15 rfl (lv_at hl 3 rfl) ?_
          refine lv_aload_n hx hb dX9_noWorthIsMore_16 rfl (lv_at hl 0 rfl) ?_
          refine pw_get (C := RX9) (T := TX9) (N := 14) hx hb hts hin9 hown hK hO rfl 0 (by decide) lk_10 rfl rfl dX9_noWorthIsMore_17 ?_
          refine pw_get (C := RX6) (T := TX6) (N := 5) hx hb hts hin6 hown hK hMO rfl 2 (by decide) lk_85 rfl rfl dX9_noWorthIsMore_20 ?_
          refine pw_icmp_ge (tgt := 88) hx hb dX9_noWorthIsMore_23 (by decide) (fun c_23 => absurd c_23 (by omega)) (fun c_23 => ?_)
          refine lv_aload_n hx hb dX9_noWorthIsMore_26 rfl (lv_at hl 0 rfl) ?_
          refine pw_get (C := RX9) (T := TX9) (N := 14) hx hb hts hin9 hown hK hO rfl 10 (by decide) lk_71 rfl rfl dX9_noWorthIsMore_27 ?_
          refine lv_aload_n hx hb dX9_noWorthIsMore_30 rfl (lv_at hl 0 rfl) ?_
          refine pw_get (C := RX9) (T := TX9) (N := 14) hx hb hts hin9 hown hK hO rfl 4 (by decide) lk_42 rfl rfl dX9_noWorthIsMore_31 ?_
          refine pw_get (C := RX7) (T := TX7) (N := 2) hx hb hts hin7 hown hK hROw rfl 0 (by decide) lk_232 rfl rfl dX9_noWorthIsMore_34 ?_
          refine lv_iload_n hx hb dX9_noWorthIsMore_37 rfl (lv_at hl 3 rfl) ?_
          refine pw_qald hx hb hK hRQw rfl (n) rfl (by omega) (by omega) rfl dX9_noWorthIsMore_38 ?_
          refine lv_aload_n hx hb dX9_noWorthIsMore_39 rfl (lv_at hl 2 rfl) ?_
          refine pw_get (C := RX7) (T := TX7) (N := 2) hx hb hts hin7 hown hK hRkO rfl 1 (by decide) lk_173 rfl rfl dX9_noWorthIsMore_40 ?_
          obtain ⟨kx, hLfr⟩ := hLf.r
          refine pw_callVv (As := [.ref (o0 + 482 + 2 + 2 * n), .ref (o0 + 500 + 16 * k + 14)]) (rest := []) ⟨hx, hb, hml, hown, hts⟩ (c_product l D E (o0 + 577) 24 (o0 + 482 + 2 + 2 * n) 8 (o0 + 500 + 16 * k + 14) 8 (wdig _) kx _ (bv n) (wd k) (by omega) (by omega) (by omega) (by omega) (by omega) h1.1 h1.2) (cwV 2 hts gX9_noWorthIsMore_X8_product rfl rfl rfl (by decide +kernel) ⟨Nat.le_of_ble_eq_true rfl, Nat.le_of_ble_eq_true rfl⟩) hK hLfr.1 rfl ⟨hLfr, (hRW.2.2.1 n (by omega)), hRk.2.2.2⟩ rfl hl.1 rfl (Nat.le_of_ble_eq_true rfl) dX9_noWorthIsMore_43 ⟨Nat.zero_le _, Nat.zero_le _⟩ hS (fun q h => by (try dsimp only at h); (try dsimp only); omega) (fun H1 locs1 hLf hz1 hk1 hS => ?_)
          have hO := hO.k (hk1 _ hO.lt (by (try dsimp only); omega))
          have hM := hM.k (fun q h1 h2 h3 => (hk1 _ h3 (by (try dsimp only); omega)))
          have hMO := hMO.k (hk1 _ hMO.lt (by (try dsimp only); omega))
          have hE := hE.k (fun q h1 h2 h3 => (hk1 _ h3 (by (try dsimp only); omega)))
          have hQ := hQ.k (hk1 _ hQ.lt (by (try dsimp only); omega))
          have hWS := hWS.k (fun q h1 h2 h3 => (hk1 _ h3 (by (try dsimp only); omega)))
          have hZ := hZ.k (hk1 _ hZ.lt (by (try dsimp only); omega))
          have hT := hT.k (fun q h1 h2 h3 => (hk1 _ h3 (by (try dsimp only); omega)))
          have hRW := hRW.k (fun q h1 h2 h3 => (hk1 _ h3 (by (try dsimp only); omega)))
          have hROw := hROw.k (hk1 _ hROw.lt (by (try dsimp only); omega))
          have hRQw := hRQw.k (hk1 _ hRQw.lt (by (try dsimp only); omega))
          have hRt := hRt.k (hk1 _ (by have := hRt.lt; omega) (by (try dsimp only); omega)) (hk1 _ hRt.lt (by (try dsimp only); omega))
          have hRk := hRk.k (fun q h1 h2 h3 => (hk1 _ h3 (by (try dsimp only); omega)))
          have hRkO := hRkO.k (hk1 _ hRkO.lt (by (try dsimp only); omega))
          have hRkQ := hRkQ.k (hk1 _ hRkQ.lt (by (try dsimp only); omega))
          refine lv_aload_n hx hb dX9_noWorthIsMore_46 rfl (lv_at hl 0 rfl) ?_
          refine pw_get (C := RX9) (T := TX9) (N := 14) hx hb hts hin9 hown hK hO rfl 11 (by decide) lk_75 rfl rfl dX9_noWorthIsMore_47 ?_
          refine lv_aload_n hx hb dX9_noWorthIsMore_50 rfl (lv_at hl 2 rfl) ?_
          refine pw_get (C := RX7) (T := TX7) (N := 2) hx hb hts hin7 hown hK hRkO rfl 0 (by decide) lk_232 rfl rfl dX9_noWorthIsMore_51 ?_
          refine lv_iload_n hx hb dX9_noWorthIsMore_54 rfl (lv_at hl 3 rfl) ?_
          refine pw_qald hx hb hK hRkQ rfl (n) rfl (by omega) (by omega) rfl dX9_noWorthIsMore_55 ?_
          refine lv_aload_n hx hb dX9_noWorthIsMore_56 rfl (lv_at hl 0 rfl) ?_
          refine pw_get (C := RX9) (T := TX9) (N := 14) hx hb hts hin9 hown hK hO rfl 4 (by decide) lk_42 rfl rfl dX9_noWorthIsMore_57 ?_
          refine pw_get (C := RX7) (T := TX7) (N := 2) hx hb hts hin7 hown hK hROw rfl 1 (by decide) lk_173 rfl rfl dX9_noWorthIsMore_60 ?_
          obtain ⟨kx, hRtr⟩ := hRt.r
          refine pw_callVv (As := [.ref (o0 + 500 + 16 * k + 2 + 2 * n), .ref (o0 + 482 + 14)]) (rest := []) ⟨hx, hb, hml, hown, hts⟩ (c_product l D E (o0 + 579) 24 (o0 + 500 + 16 * k + 2 + 2 * n) 8 (o0 + 482 + 14) 8 (wdig _) kx _ (wn k n) (bd) (by omega) (by omega) (by omega) (by omega) (by omega) h2.1 h2.2) (cwV 2 hts gX9_noWorthIsMore_X8_product rfl rfl rfl (by decide +kernel) ⟨Nat.le_of_ble_eq_true rfl, Nat.le_of_ble_eq_true rfl⟩) hK hRtr.1 rfl ⟨hRtr, (hRk.2.2.1 n (by omega)), hRW.2.2.2⟩ rfl hl.1 rfl (Nat.le_of_ble_eq_true rfl) dX9_noWorthIsMore_63 ⟨Nat.zero_le _, Nat.zero_le _⟩ hS (fun q h => by (try dsimp only at h); (try dsimp only); omega) (fun H1 locs1 hRt hz1 hk1 hS => ?_)
          have hO := hO.k (hk1 _ hO.lt (by (try dsimp only); omega))
          have hM := hM.k (fun q h1 h2 h3 => (hk1 _ h3 (by (try dsimp only); omega)))
          have hMO := hMO.k (hk1 _ hMO.lt (by (try dsimp only); omega))
          have hE := hE.k (fun q h1 h2 h3 => (hk1 _ h3 (by (try dsimp only); omega)))
          have hQ := hQ.k (hk1 _ hQ.lt (by (try dsimp only); omega))
          have hWS := hWS.k (fun q h1 h2 h3 => (hk1 _ h3 (by (try dsimp only); omega)))
          have hZ := hZ.k (hk1 _ hZ.lt (by (try dsimp only); omega))
          have hT := hT.k (fun q h1 h2 h3 => (hk1 _ h3 (by (try dsimp only); omega)))
          have hRW := hRW.k (fun q h1 h2 h3 => (hk1 _ h3 (by (try dsimp only); omega)))
          have hROw := hROw.k (hk1 _ hROw.lt (by (try dsimp only); omega))
          have hRQw := hRQw.k (hk1 _ hRQw.lt (by (try dsimp only); omega))
          have hLf := hLf.k (hk1 _ (by have := hLf.lt; omega) (by (try dsimp only); omega)) (hk1 _ hLf.lt (by (try dsimp only); omega))
          have hRk := hRk.k (fun q h1 h2 h3 => (hk1 _ h3 (by (try dsimp only); omega)))
          have hRkO := hRkO.k (hk1 _ hRkO.lt (by (try dsimp only); omega))
          have hRkQ := hRkQ.k (hk1 _ hRkQ.lt (by (try dsimp only); omega))
          refine lv_aload_n hx hb dX9_noWorthIsMore_66 rfl (lv_at hl 0 rfl) ?_
          refine pw_get (C := RX9) (T := TX9) (N := 14) hx hb hts hin9 hown hK hO rfl 10 (by decide) lk_71 rfl rfl dX9_noWorthIsMore_67 ?_
          refine lv_aload_n hx hb dX9_noWorthIsMore_70 rfl (lv_at hl 0 rfl) ?_
          refine pw_get (C := RX9) (T := TX9) (N := 14) hx hb hts hin9 hown hK hO rfl 11 (by decide) lk_75 rfl rfl dX9_noWorthIsMore_71 ?_
          refine pw_callVi (As := [.ref (o0 + 579)]) (rest := []) ⟨hx, hb, hml, hown, hts⟩ (c_compare l D E (o0 + 577) 24 (o0 + 579) 24 (bv n * wd k) (wn k n * bd) (by omega) (by omega)) (cwV 1 hts gX9_noWorthIsMore_X8_compare rfl rfl rfl (by decide +kernel) ⟨Nat.le_of_ble_eq_true rfl, Nat.le_of_ble_eq_true rfl⟩) hK hLf.o.choose_spec rfl ⟨hLf, hRt⟩ rfl hl.1 rfl (Nat.le_of_ble_eq_true rfl) dX9_noWorthIsMore_74 ⟨Nat.zero_le _, Nat.zero_le _⟩ hS (fun q h => h.elim) (fun z H1 locs1 ⟨hz, _⟩ hz1 hk1 hS => ?_)
          have hO := hO.k (hk1 _ hO.lt (fun h => h))
          have hM := hM.k (fun q h1 h2 h3 => (hk1 _ h3 (fun h => h)))
          have hMO := hMO.k (hk1 _ hMO.lt (fun h => h))
          have hE := hE.k (fun q h1 h2 h3 => (hk1 _ h3 (fun h => h)))
          have hQ := hQ.k (hk1 _ hQ.lt (fun h => h))
          have hWS := hWS.k (fun q h1 h2 h3 => (hk1 _ h3 (fun h => h)))
          have hZ := hZ.k (hk1 _ hZ.lt (fun h => h))
          have hT := hT.k (fun q h1 h2 h3 => (hk1 _ h3 (fun h => h)))
          have hRW := hRW.k (fun q h1 h2 h3 => (hk1 _ h3 (fun h => h)))
          have hROw := hROw.k (hk1 _ hROw.lt (fun h => h))
          have hRQw := hRQw.k (hk1 _ hRQw.lt (fun h => h))
          have hLf := hLf.k (hk1 _ (by have := hLf.lt; omega) (fun h => h)) (hk1 _ hLf.lt (fun h => h))
          have hRt := hRt.k (hk1 _ (by have := hRt.lt; omega) (fun h => h)) (hk1 _ hRt.lt (fun h => h))
          have hRk := hRk.k (fun q h1 h2 h3 => (hk1 _ h3 (fun h => h)))
          have hRkO := hRkO.k (hk1 _ hRkO.lt (fun h => h))
          have hRkQ := hRkQ.k (hk1 _ hRkQ.lt (fun h => h))
          have hz01 : 0 ≤ z ∧ z ≤ 1 := by rw [hz, if_neg (by omega)]; split <;> omega
          refine pw_if_ge (tgt := 82) hx hb dX9_noWorthIsMore_77 (by decide) (fun c_77 => ?_) (fun c_77 => absurd c_77 (by omega))
          refine lv_iinc (v := iI (((n + 1 : Nat) : Int))) (lv' := [(3, .int (iI (((n + 1 : Nat) : Int)))), (0, .ref (o0)), (1, .int (iI ((k : Int)))), (2, .ref (o0 + 500 + 16 * k))]) hx hb dX9_noWorthIsMore_82 hl (k := 3) rfl (by show iI _ + iI _ = _; exact (iI_add _ _).trans (by first | rfl | (congr 1; omega))) (by decide) rfl (fun ls hl => ?_)
          refine lv_goto (tgt := 15) hx hb dX9_noWorthIsMore_85 (by decide) ?_
          exact ih2 (n + 1) _ _ _ _ _ _ _ _ (by omega) hwq hpw hO hM hE hQ hWS hZ hT hRW hLf hRt hS (lv_sub hl [1, 2, 3, 0] rfl)
      intro hO hM hE hQ hWS hZ hT hRW hLf hRt hS hl
      have hMO := hM.1
      have hROw := hRW.1
      have hRQw := hRW.2.1
      refine lv_iload_n hx hb dX9_noWorthIsMore_2 rfl (lv_at hl 1 rfl) ?_
      refine pw_iconst hx hb dX9_noWorthIsMore_3 ?_
      refine pw_icmp_ge (tgt := 94) hx hb dX9_noWorthIsMore_4 (by decide) (fun c_4 => absurd c_4 (by omega)) (fun c_4 => ?_)
      refine lv_aload_n hx hb dX9_noWorthIsMore_7 rfl (lv_at hl 0 rfl) ?_
      refine lv_iload_n hx hb dX9_noWorthIsMore_8 rfl (lv_at hl 1 rfl) ?_
      refine pw_callVr (As := [.int (iI ((k : Int)))]) (rest := []) ⟨hx, hb, hml, hown, hts⟩ (c_findWorth l D E o0 k σ rn wn0 wd0 wq0 hok hrd (by omega) hwq) (cwV 1 hts gX9_noWorthIsMore_X9_findWorth rfl rfl rfl (by decide +kernel) ⟨Nat.le_of_ble_eq_true rfl, Nat.le_of_ble_eq_true rfl⟩) hK hO rfl ⟨hO, hM, hE, hQ, hWS, hZ, hT⟩ rfl hl.1 rfl (Nat.le_of_ble_eq_true rfl) dX9_noWorthIsMore_9 ⟨Nat.zero_le _, Nat.zero_le _⟩ hS (fun q h => by (try dsimp only at h); (try dsimp only); omega) (fun zf H1 locs1 ⟨hzf, hE, hT, wn, wd, wq, hWS, hZ, hWQ, hpw⟩ hz1 hk1 hS => ?_)
      have hO := hO.k (hk1 _ hO.lt (by (try dsimp only); omega))
      have hM := hM.k (fun q h1 h2 h3 => (hk1 _ h3 (by (try dsimp only); omega)))
      have hMO := hMO.k (hk1 _ hMO.lt (by (try dsimp only); omega))
      have hQ := hQ.k (hk1 _ hQ.lt (by (try dsimp only); omega))
      have hRW := hRW.k (fun q h1 h2 h3 => (hk1 _ h3 (by (try dsimp only); omega)))
      have hROw := hROw.k (hk1 _ hROw.lt (by (try dsimp only); omega))
      have hRQw := hRQw.k (hk1 _ hRQw.lt (by (try dsimp only); omega))
      have hLf := hLf.k (hk1 _ (by have := hLf.lt; omega) (by (try dsimp only); omega)) (hk1 _ hLf.lt (by (try dsimp only); omega))
      have hRt := hRt.k (hk1 _ (by have := hRt.lt; omega) (by (try dsimp only); omega)) (hk1 _ hRt.lt (by (try dsimp only); omega))
      subst hzf
      refine lv_astore_n (lv' := [(2, .ref (o0 + 500 + 16 * k)), (0, .ref (o0)), (1, .int (iI ((k : Int))))]) hx hb dX9_noWorthIsMore_12 rfl hl (by decide) rfl (fun ls hl => ?_)
      refine pw_iconst hx hb dX9_noWorthIsMore_13 ?_
      refine pw_asi (((0 : Nat) : Int)) rfl ?_
      refine lv_istore_n (lv' := [(3, .int (iI (((0 : Nat) : Int)))), (2, .ref (o0 + 500 + 16 * k)), (0, .ref (o0)), (1, .int (iI ((k : Int))))]) hx hb dX9_noWorthIsMore_14 rfl hl (by decide) rfl (fun ls hl => ?_)
      exact loop2 (mN σ) 0 _ _ _ _ _ _ _ _ (by omega) hWQ hpw hO hM hE hQ hWS hZ hT hRW hLf hRt hS (lv_sub hl [2, 3, 1, 0] rfl)
  have hMO := hM.1
  have hROw := hRW.1
  have hRQw := hRW.2.1
  refine pw_iconst hx hb dX9_noWorthIsMore_0 ?_
  refine pw_asi (((0 : Nat) : Int)) rfl ?_
  refine lv_istore_n (lv' := [(1, .int (iI (((0 : Nat) : Int)))), (0, .ref (o0))]) hx hb dX9_noWorthIsMore_1 rfl hl (by decide) rfl (fun ls hl => ?_)
  exact loop 4 0 _ _ _ _ _ _ _ _ (by omega) hwq hO hM hE hQ hWS hZ hT hRW hLf hRt hS (lv_sub hl [1, 0] rfl)
set_option maxHeartbeats 4000000 in
set_option maxRecDepth 100000 in
/-- isFartherThanTold(row, state) -/
theorem c_ifar (l : Launch) (D : va_G) (E : Nat → ClassId) (o0 r n : Nat) (rn : Int) (bv v : Nat → Int) (bd b ua ub fo1 fo2 fo3 : Int) (hn : n < 6) (hr0 : r + 15 < o0 + 482 ∨ o0 + 582 < r) (g1 : (bv n * b).natAbs < 1000000 ^ 24) (g2 : (v n * bd).natAbs < 1000000 ^ 24) (g3 : (bv n * b - v n * bd).natAbs < 1000000 ^ 24) (g4 : (((bv n * b - v n * bd).natAbs : Int) * ub).natAbs < 1000000 ^ 24) (g5 : (bd * b).natAbs < 1000000 ^ 24) (g6 : (bd * b * ua).natAbs < 1000000 ^ 24) (hfar : ((bv n * b - v n * bd).natAbs : Int) * ub ≤ bd * b * ua) : pw_M rvI l D E yX9_isFartherThanTold wsX9_isFartherThanTold ({ frames := 3, cells := 0, slots := 0, locals := 75 } : Room) [.ref (o0), .ref (r), .int (iI ((n : Int)))] (fun H => OA D o0 9 [.ref (o0 + 1), .ref (o0 + 52), .ref (o0 + 317), .ref (o0 + 326), .ref (o0 + 482), .ref (o0 + 498), .ref (o0 + 499), .ref (o0 + 564), .ref (o0 + 565), .ref (o0 + 566), .ref (o0 + 577), .ref (o0 + 579), .ref (o0 + 581), .int (iI (rn))] H ∧ RW D E (o0 + 482) 8 bv bd H ∧ RW D E r 24 v b H ∧ FR D E (o0 + 566) ua ub fo1 fo2 fo3 H ∧ WHx D E (o0 + 577) H ∧ WHx D E (o0 + 579) H ∧ WHx D E (o0 + 581) H) (fun z H => z = 0 ∧ WHx D E (o0 + 577) H ∧ WHx D E (o0 + 579) H ∧ WHx D E (o0 + 581) H) (fun q => o0 + 577 ≤ q ∧ q ≤ o0 + 582) (0) (0) := by
  refine pw_of (cc := cX9_isFartherThanTold) (maxL := 3) (ret := (some .boolean)) (by decide +kernel) rfl (Nat.le_of_ble_eq_true rfl) ?_
  intro p e s m args below meth c hx hb hr hml hts hown hlocks hini hK ⟨hO, hRW, hRr, ⟨hFO, hU, hV, h5, h7, h9⟩, ⟨xl, hLf⟩, ⟨xr, hRt⟩, ⟨xf, hFc⟩⟩ ls hl
  have hown : s.vm.findClass RX9 = some m.cls := hown
  have hl : lv_has ls 3 [(0, .ref (o0)), (1, .ref (r)), (2, .int (iI ((n : Int))))] := hl
  have hS : va_S (fun q => o0 + 577 ≤ q ∧ q ≤ o0 + 582) s.heap s.heap [] := va_S.rf
  have lk_42 := hts (.fieldLink RX9 42 "PolicyWorks" "bestValues" "LPolicyWorks$Row;") (by decide +kernel)
  have lk_64 := hts (.fieldLink RX9 64 "PolicyWorks" "told" "LPolicyWorks$Fraction;") (by decide +kernel)
  have lk_71 := hts (.fieldLink RX9 71 "PolicyWorks" "left" "LPolicyWorks$Whole;") (by decide +kernel)
  have lk_75 := hts (.fieldLink RX9 75 "PolicyWorks" "right" "LPolicyWorks$Whole;") (by decide +kernel)
  have lk_78 := hts (.fieldLink RX9 78 "PolicyWorks" "factor" "LPolicyWorks$Whole;") (by decide +kernel)
  have lk_164 := hts (.fieldLink RX9 164 "PolicyWorks$Fraction" "above" "LPolicyWorks$Whole;") (by decide +kernel)
  have lk_171 := hts (.fieldLink RX9 171 "PolicyWorks$Fraction" "below" "LPolicyWorks$Whole;") (by decide +kernel)
  have lk_173 := hts (.fieldLink RX9 173 "PolicyWorks$Row" "below" "LPolicyWorks$Whole;") (by decide +kernel)
  have lk_232 := hts (.fieldLink RX9 232 "PolicyWorks$Row" "above" "[LPolicyWorks$Whole;") (by decide +kernel)
  have kc_214 := hts (.constantLong RX9 214 (-1)) (by decide +kernel)
  have hin3 : ∀ w ∈ wsX30, w ∈ wsX9_isFartherThanTold := by decide +kernel
  have hin7 : ∀ w ∈ wsX70, w ∈ wsX9_isFartherThanTold := by decide +kernel
  have hin9 : ∀ w ∈ wsX90, w ∈ wsX9_isFartherThanTold := by decide +kernel
  have hROw := hRW.1
  have hRQw := hRW.2.1
  have hRrO := hRr.1
  have hRrQ := hRr.2.1
  have i1 := int_lt g1
  have i2 := int_lt g2
  have i3 := int_lt g3
  have i4 := int_lt g4
  have i5 := int_lt g5
  have i6 := int_lt g6
  have ewv : wv (fun j => wdig (bv n * b) j + -1 * wdig (v n * bd) j) 24 = (bv n * b - v n * bd) := by
    rw [wv_lin, wv_wdig g1, wv_wdig g2]
    omega
  have hfb : ∀ j, -9000000000000000000 ≤ (fun j => wdig (bv n * b) j + -1 * wdig (v n * bd) j) j ∧ (fun j => wdig (bv n * b) j + -1 * wdig (v n * bd) j) j ≤ 9000000000000000000 := fun j => by
    have h1 := wdig_b (bv n * b) j
    have h2 := dig_b (c := -1) (M := 1) (by omega) (v n * bd) j
    dsimp only
    omega
  refine lv_aload_n hx hb dX9_isFartherThanTold_0 rfl (lv_at hl 0 rfl) ?_
  refine pw_get (C := RX9) (T := TX9) (N := 14) hx hb hts hin9 hown hK hO rfl 10 (by decide) lk_71 rfl rfl dX9_isFartherThanTold_1 ?_
  refine lv_aload_n hx hb dX9_isFartherThanTold_4 rfl (lv_at hl 0 rfl) ?_
  refine pw_get (C := RX9) (T := TX9) (N := 14) hx hb hts hin9 hown hK hO rfl 4 (by decide) lk_42 rfl rfl dX9_isFartherThanTold_5 ?_
  refine pw_get (C := RX7) (T := TX7) (N := 2) hx hb hts hin7 hown hK hROw rfl 0 (by decide) lk_232 rfl rfl dX9_isFartherThanTold_8 ?_
  refine lv_iload_n hx hb dX9_isFartherThanTold_11 rfl (lv_at hl 2 rfl) ?_
  refine pw_qald hx hb hK hRQw rfl (n) rfl (by omega) (by omega) rfl dX9_isFartherThanTold_12 ?_
  refine lv_aload_n hx hb dX9_isFartherThanTold_13 rfl (lv_at hl 1 rfl) ?_
  refine pw_get (C := RX7) (T := TX7) (N := 2) hx hb hts hin7 hown hK hRrO rfl 1 (by decide) lk_173 rfl rfl dX9_isFartherThanTold_14 ?_
  obtain ⟨kx, hLfr⟩ := hLf.r
  refine pw_callVv (As := [.ref (o0 + 482 + 2 + 2 * n), .ref (r + 14)]) (rest := []) ⟨hx, hb, hml, hown, hts⟩ (c_product l D E (o0 + 577) 24 (o0 + 482 + 2 + 2 * n) 8 (r + 14) 24 (wdig _) kx _ (bv n) (b) (by omega) (by omega) (by omega) (by omega) (by omega) i1.1 i1.2) (cwV 2 hts gX9_isFartherThanTold_X8_product rfl rfl rfl (by decide +kernel) ⟨Nat.le_of_ble_eq_true rfl, Nat.le_of_ble_eq_true rfl⟩) hK hLfr.1 rfl ⟨hLfr, (hRW.2.2.1 n hn), hRr.2.2.2⟩ rfl hl.1 rfl (Nat.le_of_ble_eq_true rfl) dX9_isFartherThanTold_17 ⟨Nat.zero_le _, Nat.zero_le _⟩ hS (fun q h => by (try dsimp only at h); (try dsimp only); omega) (fun H1 locs1 hLf hz1 hk1 hS => ?_)
  have hO := hO.k (hk1 _ hO.lt (by (try dsimp only); omega))
  have hRW := hRW.k (fun q h1 h2 h3 => (hk1 _ h3 (by (try dsimp only); omega)))
  have hROw := hROw.k (hk1 _ hROw.lt (by (try dsimp only); omega))
  have hRQw := hRQw.k (hk1 _ hRQw.lt (by (try dsimp only); omega))
  have hRr := hRr.k (fun q h1 h2 h3 => (hk1 _ h3 (by (try dsimp only); omega)))
  have hRrO := hRrO.k (hk1 _ hRrO.lt (by (try dsimp only); omega))
  have hRrQ := hRrQ.k (hk1 _ hRrQ.lt (by (try dsimp only); omega))
  have hFO := hFO.k (hk1 _ hFO.lt (by (try dsimp only); omega))
  have hU := hU.k (hk1 _ (by have := hU.lt; omega) (by (try dsimp only); omega)) (hk1 _ hU.lt (by (try dsimp only); omega))
  have hV := hV.k (hk1 _ (by have := hV.lt; omega) (by (try dsimp only); omega)) (hk1 _ hV.lt (by (try dsimp only); omega))
  have h5 := h5.k (hk1 _ (by have := h5.lt; omega) (by (try dsimp only); omega)) (hk1 _ h5.lt (by (try dsimp only); omega))
  have h7 := h7.k (hk1 _ (by have := h7.lt; omega) (by (try dsimp only); omega)) (hk1 _ h7.lt (by (try dsimp only); omega))
  have h9 := h9.k (hk1 _ (by have := h9.lt; omega) (by (try dsimp only); omega)) (hk1 _ h9.lt (by (try dsimp only); omega))
  have hRt := hRt.k (hk1 _ (by have := hRt.lt; omega) (by (try dsimp only); omega)) (hk1 _ hRt.lt (by (try dsimp only); omega))
  have hFc := hFc.k (hk1 _ (by have := hFc.lt; omega) (by (try dsimp only); omega)) (hk1 _ hFc.lt (by (try dsimp only); omega))
  refine lv_aload_n hx hb dX9_isFartherThanTold_20 rfl (lv_at hl 0 rfl) ?_
  refine pw_get (C := RX9) (T := TX9) (N := 14) hx hb hts hin9 hown hK hO rfl 11 (by decide) lk_75 rfl rfl dX9_isFartherThanTold_21 ?_
  refine lv_aload_n hx hb dX9_isFartherThanTold_24 rfl (lv_at hl 1 rfl) ?_
  refine pw_get (C := RX7) (T := TX7) (N := 2) hx hb hts hin7 hown hK hRrO rfl 0 (by decide) lk_232 rfl rfl dX9_isFartherThanTold_25 ?_
  refine lv_iload_n hx hb dX9_isFartherThanTold_28 rfl (lv_at hl 2 rfl) ?_
  refine pw_qald hx hb hK hRrQ rfl (n) rfl (by omega) (by omega) rfl dX9_isFartherThanTold_29 ?_
  refine lv_aload_n hx hb dX9_isFartherThanTold_30 rfl (lv_at hl 0 rfl) ?_
  refine pw_get (C := RX9) (T := TX9) (N := 14) hx hb hts hin9 hown hK hO rfl 4 (by decide) lk_42 rfl rfl dX9_isFartherThanTold_31 ?_
  refine pw_get (C := RX7) (T := TX7) (N := 2) hx hb hts hin7 hown hK hROw rfl 1 (by decide) lk_173 rfl rfl dX9_isFartherThanTold_34 ?_
  obtain ⟨kx, hRtr⟩ := hRt.r
  refine pw_callVv (As := [.ref (r + 2 + 2 * n), .ref (o0 + 482 + 14)]) (rest := []) ⟨hx, hb, hml, hown, hts⟩ (c_product l D E (o0 + 579) 24 (r + 2 + 2 * n) 24 (o0 + 482 + 14) 8 (wdig _) kx _ (v n) (bd) (by omega) (by omega) (by omega) (by omega) (by omega) i2.1 i2.2) (cwV 2 hts gX9_isFartherThanTold_X8_product rfl rfl rfl (by decide +kernel) ⟨Nat.le_of_ble_eq_true rfl, Nat.le_of_ble_eq_true rfl⟩) hK hRtr.1 rfl ⟨hRtr, (hRr.2.2.1 n hn), hRW.2.2.2⟩ rfl hl.1 rfl (Nat.le_of_ble_eq_true rfl) dX9_isFartherThanTold_37 ⟨Nat.zero_le _, Nat.zero_le _⟩ hS (fun q h => by (try dsimp only at h); (try dsimp only); omega) (fun H1 locs1 hRt hz1 hk1 hS => ?_)
  have hO := hO.k (hk1 _ hO.lt (by (try dsimp only); omega))
  have hRW := hRW.k (fun q h1 h2 h3 => (hk1 _ h3 (by (try dsimp only); omega)))
  have hROw := hROw.k (hk1 _ hROw.lt (by (try dsimp only); omega))
  have hRQw := hRQw.k (hk1 _ hRQw.lt (by (try dsimp only); omega))
  have hRr := hRr.k (fun q h1 h2 h3 => (hk1 _ h3 (by (try dsimp only); omega)))
  have hRrO := hRrO.k (hk1 _ hRrO.lt (by (try dsimp only); omega))
  have hRrQ := hRrQ.k (hk1 _ hRrQ.lt (by (try dsimp only); omega))
  have hFO := hFO.k (hk1 _ hFO.lt (by (try dsimp only); omega))
  have hU := hU.k (hk1 _ (by have := hU.lt; omega) (by (try dsimp only); omega)) (hk1 _ hU.lt (by (try dsimp only); omega))
  have hV := hV.k (hk1 _ (by have := hV.lt; omega) (by (try dsimp only); omega)) (hk1 _ hV.lt (by (try dsimp only); omega))
  have h5 := h5.k (hk1 _ (by have := h5.lt; omega) (by (try dsimp only); omega)) (hk1 _ h5.lt (by (try dsimp only); omega))
  have h7 := h7.k (hk1 _ (by have := h7.lt; omega) (by (try dsimp only); omega)) (hk1 _ h7.lt (by (try dsimp only); omega))
  have h9 := h9.k (hk1 _ (by have := h9.lt; omega) (by (try dsimp only); omega)) (hk1 _ h9.lt (by (try dsimp only); omega))
  have hLf := hLf.k (hk1 _ (by have := hLf.lt; omega) (by (try dsimp only); omega)) (hk1 _ hLf.lt (by (try dsimp only); omega))
  have hFc := hFc.k (hk1 _ (by have := hFc.lt; omega) (by (try dsimp only); omega)) (hk1 _ hFc.lt (by (try dsimp only); omega))
  refine lv_aload_n hx hb dX9_isFartherThanTold_40 rfl (lv_at hl 0 rfl) ?_
  refine pw_get (C := RX9) (T := TX9) (N := 14) hx hb hts hin9 hown hK hO rfl 10 (by decide) lk_71 rfl rfl dX9_isFartherThanTold_41 ?_
  refine lv_aload_n hx hb dX9_isFartherThanTold_44 rfl (lv_at hl 0 rfl) ?_
  refine pw_get (C := RX9) (T := TX9) (N := 14) hx hb hts hin9 hown hK hO rfl 11 (by decide) lk_75 rfl rfl dX9_isFartherThanTold_45 ?_
  refine pw_ldc2 (z := -1) hx hb hown kc_214 (by decide +kernel) dX9_isFartherThanTold_48 ?_
  obtain ⟨kx, hLfr⟩ := hLf.r
  refine pw_callVv (As := [.ref (o0 + 579), .long (lI (-1))]) (rest := []) ⟨hx, hb, hml, hown, hts⟩ (c_add l D E (o0 + 577) 24 (o0 + 579) 24 (wdig (bv n * b)) kx _ (v n * bd) (-1) (by omega) (by omega) (by omega)) (cwV 2 hts gX9_isFartherThanTold_X8_add rfl rfl rfl (by decide +kernel) ⟨Nat.le_of_ble_eq_true rfl, Nat.le_of_ble_eq_true rfl⟩) hK hLfr.1 rfl ⟨hLfr, hRt⟩ rfl hl.1 rfl (Nat.le_of_ble_eq_true rfl) dX9_isFartherThanTold_51 ⟨Nat.zero_le _, Nat.zero_le _⟩ hS (fun q h => by (try dsimp only at h); (try dsimp only); omega) (fun H1 locs1 hLfr hz1 hk1 hS => ?_)
  have hO := hO.k (hk1 _ hO.lt (by (try dsimp only); omega))
  have hRW := hRW.k (fun q h1 h2 h3 => (hk1 _ h3 (by (try dsimp only); omega)))
  have hROw := hROw.k (hk1 _ hROw.lt (by (try dsimp only); omega))
  have hRQw := hRQw.k (hk1 _ hRQw.lt (by (try dsimp only); omega))
  have hRr := hRr.k (fun q h1 h2 h3 => (hk1 _ h3 (by (try dsimp only); omega)))
  have hRrO := hRrO.k (hk1 _ hRrO.lt (by (try dsimp only); omega))
  have hRrQ := hRrQ.k (hk1 _ hRrQ.lt (by (try dsimp only); omega))
  have hFO := hFO.k (hk1 _ hFO.lt (by (try dsimp only); omega))
  have hU := hU.k (hk1 _ (by have := hU.lt; omega) (by (try dsimp only); omega)) (hk1 _ hU.lt (by (try dsimp only); omega))
  have hV := hV.k (hk1 _ (by have := hV.lt; omega) (by (try dsimp only); omega)) (hk1 _ hV.lt (by (try dsimp only); omega))
  have h5 := h5.k (hk1 _ (by have := h5.lt; omega) (by (try dsimp only); omega)) (hk1 _ h5.lt (by (try dsimp only); omega))
  have h7 := h7.k (hk1 _ (by have := h7.lt; omega) (by (try dsimp only); omega)) (hk1 _ h7.lt (by (try dsimp only); omega))
  have h9 := h9.k (hk1 _ (by have := h9.lt; omega) (by (try dsimp only); omega)) (hk1 _ h9.lt (by (try dsimp only); omega))
  have hRt := hRt.k (hk1 _ (by have := hRt.lt; omega) (by (try dsimp only); omega)) (hk1 _ hRt.lt (by (try dsimp only); omega))
  have hFc := hFc.k (hk1 _ (by have := hFc.lt; omega) (by (try dsimp only); omega)) (hk1 _ hFc.lt (by (try dsimp only); omega))
  refine lv_aload_n hx hb dX9_isFartherThanTold_54 rfl (lv_at hl 0 rfl) ?_
  refine pw_get (C := RX9) (T := TX9) (N := 14) hx hb hts hin9 hown hK hO rfl 10 (by decide) lk_71 rfl rfl dX9_isFartherThanTold_55 ?_
  refine pw_callVv (As := []) (rest := []) ⟨hx, hb, hml, hown, hts⟩ (c_settle l D E (o0 + 577) 24 (fun j => wdig (bv n * b) j + -1 * wdig (v n * bd) j) kx _ (by omega) (fun j _ => hfb j) (by rw [ewv]; exact i3.1) (by rw [ewv]; exact i3.2)) (cwV 0 hts gX9_isFartherThanTold_X8_settle rfl rfl rfl (by decide +kernel) ⟨Nat.le_of_ble_eq_true rfl, Nat.le_of_ble_eq_true rfl⟩) hK hLfr.1 rfl hLfr rfl hl.1 rfl (Nat.le_of_ble_eq_true rfl) dX9_isFartherThanTold_58 ⟨Nat.zero_le _, Nat.zero_le _⟩ hS (fun q h => by (try dsimp only at h); (try dsimp only); omega) (fun H1 locs1 hLf hz1 hk1 hS => ?_)
  have hO := hO.k (hk1 _ hO.lt (by (try dsimp only); omega))
  have hRW := hRW.k (fun q h1 h2 h3 => (hk1 _ h3 (by (try dsimp only); omega)))
  have hROw := hROw.k (hk1 _ hROw.lt (by (try dsimp only); omega))
  have hRQw := hRQw.k (hk1 _ hRQw.lt (by (try dsimp only); omega))
  have hRr := hRr.k (fun q h1 h2 h3 => (hk1 _ h3 (by (try dsimp only); omega)))
  have hRrO := hRrO.k (hk1 _ hRrO.lt (by (try dsimp only); omega))
  have hRrQ := hRrQ.k (hk1 _ hRrQ.lt (by (try dsimp only); omega))
  have hFO := hFO.k (hk1 _ hFO.lt (by (try dsimp only); omega))
  have hU := hU.k (hk1 _ (by have := hU.lt; omega) (by (try dsimp only); omega)) (hk1 _ hU.lt (by (try dsimp only); omega))
  have hV := hV.k (hk1 _ (by have := hV.lt; omega) (by (try dsimp only); omega)) (hk1 _ hV.lt (by (try dsimp only); omega))
  have h5 := h5.k (hk1 _ (by have := h5.lt; omega) (by (try dsimp only); omega)) (hk1 _ h5.lt (by (try dsimp only); omega))
  have h7 := h7.k (hk1 _ (by have := h7.lt; omega) (by (try dsimp only); omega)) (hk1 _ h7.lt (by (try dsimp only); omega))
  have h9 := h9.k (hk1 _ (by have := h9.lt; omega) (by (try dsimp only); omega)) (hk1 _ h9.lt (by (try dsimp only); omega))
  have hRt := hRt.k (hk1 _ (by have := hRt.lt; omega) (by (try dsimp only); omega)) (hk1 _ hRt.lt (by (try dsimp only); omega))
  have hFc := hFc.k (hk1 _ (by have := hFc.lt; omega) (by (try dsimp only); omega)) (hk1 _ hFc.lt (by (try dsimp only); omega))
  rw [ewv] at hLf
  refine lv_aload_n hx hb dX9_isFartherThanTold_61 rfl (lv_at hl 0 rfl) ?_
  refine pw_get (C := RX9) (T := TX9) (N := 14) hx hb hts hin9 hown hK hO rfl 10 (by decide) lk_71 rfl rfl dX9_isFartherThanTold_62 ?_
  refine pw_callVv (As := []) (rest := []) ⟨hx, hb, hml, hown, hts⟩ (c_dropSign l D E (o0 + 577) 24 (bv n * b - v n * bd) (by omega)) (cwV 0 hts gX9_isFartherThanTold_X8_dropSign rfl rfl rfl (by decide +kernel) ⟨Nat.le_of_ble_eq_true rfl, Nat.le_of_ble_eq_true rfl⟩) hK hLf.o.choose_spec rfl hLf rfl hl.1 rfl (Nat.le_of_ble_eq_true rfl) dX9_isFartherThanTold_65 ⟨Nat.zero_le _, Nat.zero_le _⟩ hS (fun q h => by (try dsimp only at h); (try dsimp only); omega) (fun H1 locs1 hLf hz1 hk1 hS => ?_)
  have hO := hO.k (hk1 _ hO.lt (by (try dsimp only); omega))
  have hRW := hRW.k (fun q h1 h2 h3 => (hk1 _ h3 (by (try dsimp only); omega)))
  have hROw := hROw.k (hk1 _ hROw.lt (by (try dsimp only); omega))
  have hRQw := hRQw.k (hk1 _ hRQw.lt (by (try dsimp only); omega))
  have hRr := hRr.k (fun q h1 h2 h3 => (hk1 _ h3 (by (try dsimp only); omega)))
  have hRrO := hRrO.k (hk1 _ hRrO.lt (by (try dsimp only); omega))
  have hRrQ := hRrQ.k (hk1 _ hRrQ.lt (by (try dsimp only); omega))
  have hFO := hFO.k (hk1 _ hFO.lt (by (try dsimp only); omega))
  have hU := hU.k (hk1 _ (by have := hU.lt; omega) (by (try dsimp only); omega)) (hk1 _ hU.lt (by (try dsimp only); omega))
  have hV := hV.k (hk1 _ (by have := hV.lt; omega) (by (try dsimp only); omega)) (hk1 _ hV.lt (by (try dsimp only); omega))
  have h5 := h5.k (hk1 _ (by have := h5.lt; omega) (by (try dsimp only); omega)) (hk1 _ h5.lt (by (try dsimp only); omega))
  have h7 := h7.k (hk1 _ (by have := h7.lt; omega) (by (try dsimp only); omega)) (hk1 _ h7.lt (by (try dsimp only); omega))
  have h9 := h9.k (hk1 _ (by have := h9.lt; omega) (by (try dsimp only); omega)) (hk1 _ h9.lt (by (try dsimp only); omega))
  have hRt := hRt.k (hk1 _ (by have := hRt.lt; omega) (by (try dsimp only); omega)) (hk1 _ hRt.lt (by (try dsimp only); omega))
  have hFc := hFc.k (hk1 _ (by have := hFc.lt; omega) (by (try dsimp only); omega)) (hk1 _ hFc.lt (by (try dsimp only); omega))
  refine lv_aload_n hx hb dX9_isFartherThanTold_68 rfl (lv_at hl 0 rfl) ?_
  refine pw_get (C := RX9) (T := TX9) (N := 14) hx hb hts hin9 hown hK hO rfl 11 (by decide) lk_75 rfl rfl dX9_isFartherThanTold_69 ?_
  refine lv_aload_n hx hb dX9_isFartherThanTold_72 rfl (lv_at hl 0 rfl) ?_
  refine pw_get (C := RX9) (T := TX9) (N := 14) hx hb hts hin9 hown hK hO rfl 10 (by decide) lk_71 rfl rfl dX9_isFartherThanTold_73 ?_
  refine lv_aload_n hx hb dX9_isFartherThanTold_76 rfl (lv_at hl 0 rfl) ?_
  refine pw_get (C := RX9) (T := TX9) (N := 14) hx hb hts hin9 hown hK hO rfl 9 (by decide) lk_64 rfl rfl dX9_isFartherThanTold_77 ?_
  refine pw_get (C := RX3) (T := TX3) (N := 5) hx hb hts hin3 hown hK hFO rfl 1 (by decide) lk_171 rfl rfl dX9_isFartherThanTold_80 ?_
  obtain ⟨kx, hRtr⟩ := hRt.r
  refine pw_callVv (As := [.ref (o0 + 577), .ref (o0 + 566 + 3)]) (rest := []) ⟨hx, hb, hml, hown, hts⟩ (c_product l D E (o0 + 579) 24 (o0 + 577) 24 (o0 + 566 + 3) 24 (wdig _) kx _ (((bv n * b - v n * bd).natAbs : Int)) (ub) (by omega) (by omega) (by omega) (by omega) (by omega) i4.1 i4.2) (cwV 2 hts gX9_isFartherThanTold_X8_product rfl rfl rfl (by decide +kernel) ⟨Nat.le_of_ble_eq_true rfl, Nat.le_of_ble_eq_true rfl⟩) hK hRtr.1 rfl ⟨hRtr, hLf, hV⟩ rfl hl.1 rfl (Nat.le_of_ble_eq_true rfl) dX9_isFartherThanTold_83 ⟨Nat.zero_le _, Nat.zero_le _⟩ hS (fun q h => by (try dsimp only at h); (try dsimp only); omega) (fun H1 locs1 hRt hz1 hk1 hS => ?_)
  have hO := hO.k (hk1 _ hO.lt (by (try dsimp only); omega))
  have hRW := hRW.k (fun q h1 h2 h3 => (hk1 _ h3 (by (try dsimp only); omega)))
  have hROw := hROw.k (hk1 _ hROw.lt (by (try dsimp only); omega))
  have hRQw := hRQw.k (hk1 _ hRQw.lt (by (try dsimp only); omega))
  have hRr := hRr.k (fun q h1 h2 h3 => (hk1 _ h3 (by (try dsimp only); omega)))
  have hRrO := hRrO.k (hk1 _ hRrO.lt (by (try dsimp only); omega))
  have hRrQ := hRrQ.k (hk1 _ hRrQ.lt (by (try dsimp only); omega))
  have hFO := hFO.k (hk1 _ hFO.lt (by (try dsimp only); omega))
  have hU := hU.k (hk1 _ (by have := hU.lt; omega) (by (try dsimp only); omega)) (hk1 _ hU.lt (by (try dsimp only); omega))
  have hV := hV.k (hk1 _ (by have := hV.lt; omega) (by (try dsimp only); omega)) (hk1 _ hV.lt (by (try dsimp only); omega))
  have h5 := h5.k (hk1 _ (by have := h5.lt; omega) (by (try dsimp only); omega)) (hk1 _ h5.lt (by (try dsimp only); omega))
  have h7 := h7.k (hk1 _ (by have := h7.lt; omega) (by (try dsimp only); omega)) (hk1 _ h7.lt (by (try dsimp only); omega))
  have h9 := h9.k (hk1 _ (by have := h9.lt; omega) (by (try dsimp only); omega)) (hk1 _ h9.lt (by (try dsimp only); omega))
  have hLf := hLf.k (hk1 _ (by have := hLf.lt; omega) (by (try dsimp only); omega)) (hk1 _ hLf.lt (by (try dsimp only); omega))
  have hFc := hFc.k (hk1 _ (by have := hFc.lt; omega) (by (try dsimp only); omega)) (hk1 _ hFc.lt (by (try dsimp only); omega))
  refine lv_aload_n hx hb dX9_isFartherThanTold_86 rfl (lv_at hl 0 rfl) ?_
  refine pw_get (C := RX9) (T := TX9) (N := 14) hx hb hts hin9 hown hK hO rfl 12 (by decide) lk_78 rfl rfl dX9_isFartherThanTold_87 ?_
  refine lv_aload_n hx hb dX9_isFartherThanTold_90 rfl (lv_at hl 0 rfl) ?_
  refine pw_get (C := RX9) (T := TX9) (N := 14) hx hb hts hin9 hown hK hO rfl 4 (by decide) lk_42 rfl rfl dX9_isFartherThanTold_91 ?_
  refine pw_get (C := RX7) (T := TX7) (N := 2) hx hb hts hin7 hown hK hROw rfl 1 (by decide) lk_173 rfl rfl dX9_isFartherThanTold_94 ?_
  refine lv_aload_n hx hb dX9_isFartherThanTold_97 rfl (lv_at hl 1 rfl) ?_
  refine pw_get (C := RX7) (T := TX7) (N := 2) hx hb hts hin7 hown hK hRrO rfl 1 (by decide) lk_173 rfl rfl dX9_isFartherThanTold_98 ?_
  obtain ⟨kx, hFcr⟩ := hFc.r
  refine pw_callVv (As := [.ref (o0 + 482 + 14), .ref (r + 14)]) (rest := []) ⟨hx, hb, hml, hown, hts⟩ (c_product l D E (o0 + 581) 24 (o0 + 482 + 14) 8 (r + 14) 24 (wdig _) kx _ (bd) (b) (by omega) (by omega) (by omega) (by omega) (by omega) i5.1 i5.2) (cwV 2 hts gX9_isFartherThanTold_X8_product rfl rfl rfl (by decide +kernel) ⟨Nat.le_of_ble_eq_true rfl, Nat.le_of_ble_eq_true rfl⟩) hK hFcr.1 rfl ⟨hFcr, hRW.2.2.2, hRr.2.2.2⟩ rfl hl.1 rfl (Nat.le_of_ble_eq_true rfl) dX9_isFartherThanTold_101 ⟨Nat.zero_le _, Nat.zero_le _⟩ hS (fun q h => by (try dsimp only at h); (try dsimp only); omega) (fun H1 locs1 hFc hz1 hk1 hS => ?_)
  have hO := hO.k (hk1 _ hO.lt (by (try dsimp only); omega))
  have hRW := hRW.k (fun q h1 h2 h3 => (hk1 _ h3 (by (try dsimp only); omega)))
  have hROw := hROw.k (hk1 _ hROw.lt (by (try dsimp only); omega))
  have hRQw := hRQw.k (hk1 _ hRQw.lt (by (try dsimp only); omega))
  have hRr := hRr.k (fun q h1 h2 h3 => (hk1 _ h3 (by (try dsimp only); omega)))
  have hRrO := hRrO.k (hk1 _ hRrO.lt (by (try dsimp only); omega))
  have hRrQ := hRrQ.k (hk1 _ hRrQ.lt (by (try dsimp only); omega))
  have hFO := hFO.k (hk1 _ hFO.lt (by (try dsimp only); omega))
  have hU := hU.k (hk1 _ (by have := hU.lt; omega) (by (try dsimp only); omega)) (hk1 _ hU.lt (by (try dsimp only); omega))
  have hV := hV.k (hk1 _ (by have := hV.lt; omega) (by (try dsimp only); omega)) (hk1 _ hV.lt (by (try dsimp only); omega))
  have h5 := h5.k (hk1 _ (by have := h5.lt; omega) (by (try dsimp only); omega)) (hk1 _ h5.lt (by (try dsimp only); omega))
  have h7 := h7.k (hk1 _ (by have := h7.lt; omega) (by (try dsimp only); omega)) (hk1 _ h7.lt (by (try dsimp only); omega))
  have h9 := h9.k (hk1 _ (by have := h9.lt; omega) (by (try dsimp only); omega)) (hk1 _ h9.lt (by (try dsimp only); omega))
  have hLf := hLf.k (hk1 _ (by have := hLf.lt; omega) (by (try dsimp only); omega)) (hk1 _ hLf.lt (by (try dsimp only); omega))
  have hRt := hRt.k (hk1 _ (by have := hRt.lt; omega) (by (try dsimp only); omega)) (hk1 _ hRt.lt (by (try dsimp only); omega))
  refine lv_aload_n hx hb dX9_isFartherThanTold_104 rfl (lv_at hl 0 rfl) ?_
  refine pw_get (C := RX9) (T := TX9) (N := 14) hx hb hts hin9 hown hK hO rfl 10 (by decide) lk_71 rfl rfl dX9_isFartherThanTold_105 ?_
  refine lv_aload_n hx hb dX9_isFartherThanTold_108 rfl (lv_at hl 0 rfl) ?_
  refine pw_get (C := RX9) (T := TX9) (N := 14) hx hb hts hin9 hown hK hO rfl 12 (by decide) lk_78 rfl rfl dX9_isFartherThanTold_109 ?_
  refine lv_aload_n hx hb dX9_isFartherThanTold_112 rfl (lv_at hl 0 rfl) ?_
  refine pw_get (C := RX9) (T := TX9) (N := 14) hx hb hts hin9 hown hK hO rfl 9 (by decide) lk_64 rfl rfl dX9_isFartherThanTold_113 ?_
  refine pw_get (C := RX3) (T := TX3) (N := 5) hx hb hts hin3 hown hK hFO rfl 0 (by decide) lk_164 rfl rfl dX9_isFartherThanTold_116 ?_
  obtain ⟨kx, hLfr⟩ := hLf.r
  refine pw_callVv (As := [.ref (o0 + 581), .ref (o0 + 566 + 1)]) (rest := []) ⟨hx, hb, hml, hown, hts⟩ (c_product l D E (o0 + 577) 24 (o0 + 581) 24 (o0 + 566 + 1) 24 (wdig _) kx _ (bd * b) (ua) (by omega) (by omega) (by omega) (by omega) (by omega) i6.1 i6.2) (cwV 2 hts gX9_isFartherThanTold_X8_product rfl rfl rfl (by decide +kernel) ⟨Nat.le_of_ble_eq_true rfl, Nat.le_of_ble_eq_true rfl⟩) hK hLfr.1 rfl ⟨hLfr, hFc, hU⟩ rfl hl.1 rfl (Nat.le_of_ble_eq_true rfl) dX9_isFartherThanTold_119 ⟨Nat.zero_le _, Nat.zero_le _⟩ hS (fun q h => by (try dsimp only at h); (try dsimp only); omega) (fun H1 locs1 hLf hz1 hk1 hS => ?_)
  have hO := hO.k (hk1 _ hO.lt (by (try dsimp only); omega))
  have hRW := hRW.k (fun q h1 h2 h3 => (hk1 _ h3 (by (try dsimp only); omega)))
  have hROw := hROw.k (hk1 _ hROw.lt (by (try dsimp only); omega))
  have hRQw := hRQw.k (hk1 _ hRQw.lt (by (try dsimp only); omega))
  have hRr := hRr.k (fun q h1 h2 h3 => (hk1 _ h3 (by (try dsimp only); omega)))
  have hRrO := hRrO.k (hk1 _ hRrO.lt (by (try dsimp only); omega))
  have hRrQ := hRrQ.k (hk1 _ hRrQ.lt (by (try dsimp only); omega))
  have hFO := hFO.k (hk1 _ hFO.lt (by (try dsimp only); omega))
  have hU := hU.k (hk1 _ (by have := hU.lt; omega) (by (try dsimp only); omega)) (hk1 _ hU.lt (by (try dsimp only); omega))
  have hV := hV.k (hk1 _ (by have := hV.lt; omega) (by (try dsimp only); omega)) (hk1 _ hV.lt (by (try dsimp only); omega))
  have h5 := h5.k (hk1 _ (by have := h5.lt; omega) (by (try dsimp only); omega)) (hk1 _ h5.lt (by (try dsimp only); omega))
  have h7 := h7.k (hk1 _ (by have := h7.lt; omega) (by (try dsimp only); omega)) (hk1 _ h7.lt (by (try dsimp only); omega))
  have h9 := h9.k (hk1 _ (by have := h9.lt; omega) (by (try dsimp only); omega)) (hk1 _ h9.lt (by (try dsimp only); omega))
  have hRt := hRt.k (hk1 _ (by have := hRt.lt; omega) (by (try dsimp only); omega)) (hk1 _ hRt.lt (by (try dsimp only); omega))
  have hFc := hFc.k (hk1 _ (by have := hFc.lt; omega) (by (try dsimp only); omega)) (hk1 _ hFc.lt (by (try dsimp only); omega))
  refine lv_aload_n hx hb dX9_isFartherThanTold_122 rfl (lv_at hl 0 rfl) ?_
  refine pw_get (C := RX9) (T := TX9) (N := 14) hx hb hts hin9 hown hK hO rfl 11 (by decide) lk_75 rfl rfl dX9_isFartherThanTold_123 ?_
  refine lv_aload_n hx hb dX9_isFartherThanTold_126 rfl (lv_at hl 0 rfl) ?_
  refine pw_get (C := RX9) (T := TX9) (N := 14) hx hb hts hin9 hown hK hO rfl 10 (by decide) lk_71 rfl rfl dX9_isFartherThanTold_127 ?_
  refine pw_callVi (As := [.ref (o0 + 577)]) (rest := []) ⟨hx, hb, hml, hown, hts⟩ (c_compare l D E (o0 + 579) 24 (o0 + 577) 24 (((bv n * b - v n * bd).natAbs : Int) * ub) (bd * b * ua) (by omega) (by omega)) (cwV 1 hts gX9_isFartherThanTold_X8_compare rfl rfl rfl (by decide +kernel) ⟨Nat.le_of_ble_eq_true rfl, Nat.le_of_ble_eq_true rfl⟩) hK hRt.o.choose_spec rfl ⟨hRt, hLf⟩ rfl hl.1 rfl (Nat.le_of_ble_eq_true rfl) dX9_isFartherThanTold_130 ⟨Nat.zero_le _, Nat.zero_le _⟩ hS (fun q h => h.elim) (fun z H1 locs1 ⟨hz, _⟩ hz1 hk1 hS => ?_)
  have hO := hO.k (hk1 _ hO.lt (fun h => h))
  have hRW := hRW.k (fun q h1 h2 h3 => (hk1 _ h3 (fun h => h)))
  have hROw := hROw.k (hk1 _ hROw.lt (fun h => h))
  have hRQw := hRQw.k (hk1 _ hRQw.lt (fun h => h))
  have hRr := hRr.k (fun q h1 h2 h3 => (hk1 _ h3 (fun h => h)))
  have hRrO := hRrO.k (hk1 _ hRrO.lt (fun h => h))
  have hRrQ := hRrQ.k (hk1 _ hRrQ.lt (fun h => h))
  have hFO := hFO.k (hk1 _ hFO.lt (fun h => h))
  have hU := hU.k (hk1 _ (by have := hU.lt; omega) (fun h => h)) (hk1 _ hU.lt (fun h => h))
  have hV := hV.k (hk1 _ (by have := hV.lt; omega) (fun h => h)) (hk1 _ hV.lt (fun h => h))
  have h5 := h5.k (hk1 _ (by have := h5.lt; omega) (fun h => h)) (hk1 _ h5.lt (fun h => h))
  have h7 := h7.k (hk1 _ (by have := h7.lt; omega) (fun h => h)) (hk1 _ h7.lt (fun h => h))
  have h9 := h9.k (hk1 _ (by have := h9.lt; omega) (fun h => h)) (hk1 _ h9.lt (fun h => h))
  have hLf := hLf.k (hk1 _ (by have := hLf.lt; omega) (fun h => h)) (hk1 _ hLf.lt (fun h => h))
  have hRt := hRt.k (hk1 _ (by have := hRt.lt; omega) (fun h => h)) (hk1 _ hRt.lt (fun h => h))
  have hFc := hFc.k (hk1 _ (by have := hFc.lt; omega) (fun h => h)) (hk1 _ hFc.lt (fun h => h))
  have hz01 : -1 ≤ z ∧ z ≤ 0 := by rw [hz]; split; omega; rw [if_pos (by omega)]; omega
  refine pw_if_le (tgt := 140) hx hb dX9_isFartherThanTold_133 (by decide) (fun c_133 => ?_) (fun c_133 => absurd c_133 (by omega))
  refine pw_iconst hx hb dX9_isFartherThanTold_140 ?_
  exact pw_zret hx hb hr hlocks hS (by omega) ⟨rfl, ⟨_, hLf⟩, ⟨_, hRt⟩, ⟨_, hFc⟩⟩ dX9_isFartherThanTold_141
