/-! stepsKeepBounds, best -/
theorem nfar : 16800000 ^ 6 * bb 4 + 20000 * bb 4 * 16800000 ^ 6 < 1000000 ^ 24 ∧ (16800000 ^ 6 * bb 4 + 20000 * bb 4 * 16800000 ^ 6) * (bb 1 * 20 * 160000) < 1000000 ^ 24 ∧ 16800000 ^ 6 * bb 4 * (20000 * bb 1 * 20 * 160000) < 1000000 ^ 24 ∧ 16800000 ^ 6 * bb 4 < 1000000 ^ 24 ∧ 20000 * bb 4 * 16800000 ^ 6 < 1000000 ^ 24 := by decide +kernel
set_option maxHeartbeats 4000000 in
set_option maxRecDepth 100000 in
/-- stepsKeepBounds() -/
theorem c_skb (l : Launch) (D : va_G) (E : Nat → ClassId) (o0 kn : Nat) (σ : MS) (rn : Int) (bv : Nat → Int) (bd : Int) (π : Nat → Nat) (V : Nat → Nat → Int) (B : Nat → Int) (pk : Nat → Nat → Int) (hok : mOK σ) (hrd : rdy σ) (hπ : ∀ s, s < mN σ → π s < mC σ s) (hPV : PV σ π bv bd) (hmax : ∀ s, s < mN σ → ∀ j, j < mC σ s → gnum σ (4 * s + j) bv bd ≤ bv s * gsc σ (4 * s + j)) (hlv : LV σ kn V B pk) (hkn : 4 < kn) : pw_M rvI l D E yX9_stepsKeepBounds wsX9_stepsKeepBounds ({ frames := 4, cells := 0, slots := 0, locals := 97 } : Room) [.ref (o0)] (fun H => OA D o0 9 [.ref (o0 + 1), .ref (o0 + 52), .ref (o0 + 317), .ref (o0 + 326), .ref (o0 + 482), .ref (o0 + 498), .ref (o0 + 499), .ref (o0 + 564), .ref (o0 + 565), .ref (o0 + 566), .ref (o0 + 577), .ref (o0 + 579), .ref (o0 + 581), .int (iI (rn))] H ∧ MO D E (o0 + 1) σ H ∧ LD D E (o0 + 326) (kn : Int) V B pk H ∧ RW D E (o0 + 482) 8 bv bd H ∧ FRx D E (o0 + 566) H ∧ WHx D E (o0 + 577) H ∧ WHx D E (o0 + 579) H ∧ WHx D E (o0 + 581) H) (fun z H => z = 1 ∧ FRx D E (o0 + 566) H ∧ WHx D E (o0 + 577) H ∧ WHx D E (o0 + 579) H ∧ WHx D E (o0 + 581) H) (fun q => o0 + 566 ≤ q ∧ q ≤ o0 + 582) (0) (0) := by
  refine pw_of (cc := cX9_stepsKeepBounds) (maxL := 3) (ret := (some .boolean)) (by decide +kernel) rfl (Nat.le_of_ble_eq_true rfl) ?_
  intro p e s m args below meth c hx hb hr hml hts hown hlocks hini hK ⟨hO, hM, ⟨hLO, hLR⟩, hRW, hF, hW1, hW2, hW3⟩ ls hl
  have hown : s.vm.findClass RX9 = some m.cls := hown
  have hl : lv_has ls 3 [(0, .ref (o0))] := hl
  have hS : va_S (fun q => o0 + 566 ≤ q ∧ q ≤ o0 + 582) s.heap s.heap [] := va_S.rf
  have lk_10 := hts (.fieldLink RX9 10 "PolicyWorks" "model" "LPolicyWorks$Model;") (by decide +kernel)
  have lk_33 := hts (.fieldLink RX9 33 "PolicyWorks" "ladder" "LPolicyWorks$Ladder;") (by decide +kernel)
  have lk_85 := hts (.fieldLink RX9 85 "PolicyWorks$Model" "states" "I") (by decide +kernel)
  have lk_189 := hts (.fieldLink RX9 189 "PolicyWorks$Ladder" "rows" "[LPolicyWorks$Row;") (by decide +kernel)
  have hin5 : ∀ w ∈ wsX50, w ∈ wsX9_stepsKeepBounds := by decide +kernel
  have hin6 : ∀ w ∈ wsX60, w ∈ wsX9_stepsKeepBounds := by decide +kernel
  have hin9 : ∀ w ∈ wsX90, w ∈ wsX9_stepsKeepBounds := by decide +kernel
  have hLR : LDR D E (o0 + 326) V B pk s.heap := hLR
  have hN6 := hok.1
  have hAB := hok.2.2.2.1
  have hB20 := hok.2.2.2.2.1
  have hall : ∀ n, n ≤ 4 → ∀ k, k < mN σ → ((bv k * B n).natAbs < 1000000 ^ 24 ∧ (V n k * bd).natAbs < 1000000 ^ 24) ∧ ((bv k * B n - V n k * bd).natAbs < 1000000 ^ 24 ∧ (((bv k * B n - V n k * bd).natAbs : Int) * (B 1 * ((mB σ : Int) - (mA σ : Int)) * ((mB σ ^ n : Nat) : Int))).natAbs < 1000000 ^ 24) ∧ (bd * B n).natAbs < 1000000 ^ 24 ∧ (bd * B n * ((mxA (V 1) (mN σ) : Int) * (mB σ : Int) * ((mA σ ^ n : Nat) : Int))).natAbs < 1000000 ^ 24 := by
    have hba : ((mB σ : Int) - (mA σ : Int)).natAbs ≤ 20 := by omega
    have hb20 : (mB σ : Int).natAbs ≤ 20 := by omega
    have ha20 : mA σ ≤ 20 := by omega
    intro n hn k hk
    have hnk : n < kn := by omega
    obtain ⟨cm, c1, c2, c3, c4⟩ := hlv.2 (by omega)
    have hLB := LV.b hN6 c1 c2 c3 c4
    obtain ⟨_, _, hb1b, hv1b⟩ := hLB 1 (by omega)
    obtain ⟨_, _, hbnb, hvnb⟩ := hLB n hnk
    have hbn4 : (B n).natAbs ≤ bb 4 := Nat.le_trans hbnb (bb_mono hn)
    have hvk4 : (V n k).natAbs ≤ 20000 * bb 4 := Nat.le_trans (hvnb k hk) (Nat.mul_le_mul_left _ hbn4)
    have hmxb : mxA (V 1) (mN σ) ≤ 20000 * bb 1 := mxA_b (fun s hs => Nat.le_trans (hv1b s hs) (Nat.mul_le_mul_left _ hb1b))
    have ubb : (B 1 * ((mB σ : Int) - (mA σ : Int)) * ((mB σ ^ n : Nat) : Int)).natAbs ≤ bb 1 * 20 * 160000 := mulb (mulb hb1b hba) (by rw [Int.natAbs_natCast]; exact pw4 hB20 hn)
    have uab : ((mxA (V 1) (mN σ) : Int) * (mB σ : Int) * ((mA σ ^ n : Nat) : Int)).natAbs ≤ 20000 * bb 1 * 20 * 160000 := mulb (mulb (by rw [Int.natAbs_natCast]; exact hmxb) hb20) (by rw [Int.natAbs_natCast]; exact pw4 ha20 hn)
    have g1 := mulb (hPV.2.2 k hk).2 hbn4
    have g2 := mulb hvk4 hPV.2.1
    have g3 : (bv k * B n - V n k * bd).natAbs ≤ 16800000 ^ 6 * bb 4 + 20000 * bb 4 * 16800000 ^ 6 := Nat.le_trans (Int.natAbs_sub_le _ _) (Nat.add_le_add g1 g2)
    have g4 : (((bv k * B n - V n k * bd).natAbs : Int) * (B 1 * ((mB σ : Int) - (mA σ : Int)) * ((mB σ ^ n : Nat) : Int))).natAbs ≤ (16800000 ^ 6 * bb 4 + 20000 * bb 4 * 16800000 ^ 6) * (bb 1 * 20 * 160000) := mulb (by rw [Int.natAbs_natCast]; exact g3) ubb
    have g5 := mulb hPV.2.1 hbn4
    have g6 := mulb g5 uab
    exact ⟨⟨Nat.lt_of_le_of_lt g1 nfar.2.2.2.1, Nat.lt_of_le_of_lt g2 nfar.2.2.2.2⟩, ⟨Nat.lt_of_le_of_lt g3 nfar.1, Nat.lt_of_le_of_lt g4 nfar.2.1⟩, Nat.lt_of_le_of_lt g5 nfar.2.2.2.1, Nat.lt_of_le_of_lt g6 nfar.2.2.1⟩
  have loop : ∀ (mm n : Nat) (H : Heap) (locs : List Loc) (ls : Array Slot), n + mm = 5 → OA D o0 9 [.ref (o0 + 1), .ref (o0 + 52), .ref (o0 + 317), .ref (o0 + 326), .ref (o0 + 482), .ref (o0 + 498), .ref (o0 + 499), .ref (o0 + 564), .ref (o0 + 565), .ref (o0 + 566), .ref (o0 + 577), .ref (o0 + 579), .ref (o0 + 581), .int (iI (rn))] H → MO D E (o0 + 1) σ H → OA D (o0 + 326) 5 [.ref (o0 + 326 + 1), .ref (o0 + 326 + 146), .int (iI ((kn : Int)))] H → LDR D E (o0 + 326) V B pk H → RW D E (o0 + 482) 8 bv bd H → FRx D E (o0 + 566) H → WHx D E (o0 + 577) H → WHx D E (o0 + 579) H → WHx D E (o0 + 581) H → va_S (fun q => o0 + 566 ≤ q ∧ q ≤ o0 + 582) s.heap H locs → lv_has ls 3 [(0, .ref (o0)), (1, .int (iI ((n : Int))))] → W p l e ({ frames := 4, cells := 0, slots := 0, locals := 97 } : Room) s m args below meth c H locs (0) (0) (MQ below (pw_Q rvI (fun z H => z = 1 ∧ FRx D E (o0 + 566) H ∧ WHx D E (o0 + 577) H ∧ WHx D E (o0 + 579) H ∧ WHx D E (o0 + 581) H) (fun q => o0 + 566 ≤ q ∧ q ≤ o0 + 582)) args s (0) (0) (fun q => o0 + 566 ≤ q ∧ q ≤ o0 + 582)) (F0 m 2 ls []) := by
    intro mm
    induction mm with
    | zero =>
      intro n H locs ls hn hO hM hLO hLR hRW hF hW1 hW2 hW3 hS hl
      have en : n = 5 := by omega
      subst en
      have hMO := hM.1
      have hLQ := hLR.1
      refine lv_iload_n hx hb dX9_stepsKeepBounds_2 rfl (lv_at hl 1 rfl) ?_
      refine pw_iconst hx hb dX9_stepsKeepBounds_3 ?_
      refine pw_icmp_gt (tgt := 56) hx hb dX9_stepsKeepBounds_4 (by decide) (fun c_4 => ?_) (fun c_4 => absurd c_4 (by omega))
      refine pw_iconst hx hb dX9_stepsKeepBounds_56 ?_
      exact pw_zret hx hb hr hlocks hS (by omega) ⟨rfl, hF, hW1, hW2, hW3⟩ dX9_stepsKeepBounds_57
    | succ mm ih =>
      intro n H locs ls hn
      have loop2 : ∀ (ii k : Nat) (fo1 fo2 fo3 : Int) (H : Heap) (locs : List Loc) (ls : Array Slot), k + ii = mN σ → OA D o0 9 [.ref (o0 + 1), .ref (o0 + 52), .ref (o0 + 317), .ref (o0 + 326), .ref (o0 + 482), .ref (o0 + 498), .ref (o0 + 499), .ref (o0 + 564), .ref (o0 + 565), .ref (o0 + 566), .ref (o0 + 577), .ref (o0 + 579), .ref (o0 + 581), .int (iI (rn))] H → MO D E (o0 + 1) σ H → OA D (o0 + 326) 5 [.ref (o0 + 326 + 1), .ref (o0 + 326 + 146), .int (iI ((kn : Int)))] H → LDR D E (o0 + 326) V B pk H → RW D E (o0 + 482) 8 bv bd H → FR D E (o0 + 566) ((mxA (V 1) (mN σ) : Int) * (mB σ : Int) * ((mA σ ^ n : Nat) : Int)) (B 1 * ((mB σ : Int) - (mA σ : Int)) * ((mB σ ^ n : Nat) : Int)) fo1 fo2 fo3 H → WHx D E (o0 + 577) H → WHx D E (o0 + 579) H → WHx D E (o0 + 581) H → va_S (fun q => o0 + 566 ≤ q ∧ q ≤ o0 + 582) s.heap H locs → lv_has ls 3 [(0, .ref (o0)), (1, .int (iI ((n : Int)))), (2, .int (iI ((k : Int))))] → W p l e ({ frames := 4, cells := 0, slots := 0, locals := 97 } : Room) s m args below meth c H locs (0) (0) (MQ below (pw_Q rvI (fun z H => z = 1 ∧ FRx D E (o0 + 566) H ∧ WHx D E (o0 + 577) H ∧ WHx D E (o0 + 579) H ∧ WHx D E (o0 + 581) H) (fun q => o0 + 566 ≤ q ∧ q ≤ o0 + 582)) args s (0) (0) (fun q => o0 + 566 ≤ q ∧ q ≤ o0 + 582)) (F0 m 14 ls []) := by
        intro ii
        induction ii with
        | zero =>
          intro k fo1 fo2 fo3 H locs ls hk hO hM hLO hLR hRW hF hW1 hW2 hW3 hS hl
          have ek : k = mN σ := by omega
          subst ek
          have hMO := hM.1
          have hLQ := hLR.1
          refine lv_iload_n hx hb dX9_stepsKeepBounds_14 rfl (lv_at hl 2 rfl) ?_
          refine lv_aload_n hx hb dX9_stepsKeepBounds_15 rfl (lv_at hl 0 rfl) ?_
          refine pw_get (C := RX9) (T := TX9) (N := 14) hx hb hts hin9 hown hK hO rfl 0 (by decide) lk_10 rfl rfl dX9_stepsKeepBounds_16 ?_
          refine pw_get (C := RX6) (T := TX6) (N := 5) hx hb hts hin6 hown hK hMO rfl 2 (by decide) lk_85 rfl rfl dX9_stepsKeepBounds_19 ?_
          refine pw_icmp_ge (tgt := 50) hx hb dX9_stepsKeepBounds_22 (by decide) (fun c_22 => ?_) (fun c_22 => absurd c_22 (by omega))
          refine lv_iinc (v := iI (((n + 1 : Nat) : Int))) (lv' := [(1, .int (iI (((n + 1 : Nat) : Int)))), (0, .ref (o0)), (2, .int (iI ((mN σ : Int))))]) hx hb dX9_stepsKeepBounds_50 hl (k := 1) rfl (by show iI _ + iI _ = _; exact (iI_add _ _).trans (by first | rfl | (congr 1; omega))) (by decide) rfl (fun ls hl => ?_)
          refine lv_goto (tgt := 2) hx hb dX9_stepsKeepBounds_53 (by decide) ?_
          have hF : FRx D E (o0 + 566) _ := ⟨_, _, _, _, _, hF⟩
          exact ih (n + 1) _ _ _ (by omega) hO hM hLO hLR hRW hF hW1 hW2 hW3 hS (lv_sub hl [1, 0] rfl)
        | succ ii ih2 =>
          intro k fo1 fo2 fo3 H locs ls hk hO hM hLO hLR hRW hF hW1 hW2 hW3 hS hl
          obtain ⟨⟨g1, g2⟩, ⟨g3, g4⟩, g5, g6⟩ := hall n (by omega) k (by omega)
          have hfar := kb_far hok hrd hπ hPV hmax hlv (by omega) (mx := (mxA (V 1) (mN σ) : Int)) (fun s hs => Int.ofNat_le.mpr (mxA_ge hs)) (show n < kn by omega) (show k < mN σ by omega)
          have hMO := hM.1
          have hLQ := hLR.1
          refine lv_iload_n hx hb dX9_stepsKeepBounds_14 rfl (lv_at hl 2 rfl) ?_
          refine lv_aload_n hx hb dX9_stepsKeepBounds_15 rfl (lv_at hl 0 rfl) ?_
          refine pw_get (C := RX9) (T := TX9) (N := 14) hx hb hts hin9 hown hK hO rfl 0 (by decide) lk_10 rfl rfl dX9_stepsKeepBounds_16 ?_
          refine pw_get (C := RX6) (T := TX6) (N := 5) hx hb hts hin6 hown hK hMO rfl 2 (by decide) lk_85 rfl rfl dX9_stepsKeepBounds_19 ?_
          refine pw_icmp_ge (tgt := 50) hx hb dX9_stepsKeepBounds_22 (by decide) (fun c_22 => absurd c_22 (by omega)) (fun c_22 => ?_)
          refine lv_aload_n hx hb dX9_stepsKeepBounds_25 rfl (lv_at hl 0 rfl) ?_
          refine lv_aload_n hx hb dX9_stepsKeepBounds_26 rfl (lv_at hl 0 rfl) ?_
          refine pw_get (C := RX9) (T := TX9) (N := 14) hx hb hts hin9 hown hK hO rfl 3 (by decide) lk_33 rfl rfl dX9_stepsKeepBounds_27 ?_
          refine pw_get (C := RX5) (T := TX5) (N := 3) hx hb hts hin5 hown hK hLO rfl 0 (by decide) lk_189 rfl rfl dX9_stepsKeepBounds_30 ?_
          refine lv_iload_n hx hb dX9_stepsKeepBounds_33 rfl (lv_at hl 1 rfl) ?_
          refine pw_qald hx hb hK hLQ rfl (n) rfl (by omega) (by omega) rfl dX9_stepsKeepBounds_34 ?_
          refine lv_iload_n hx hb dX9_stepsKeepBounds_35 rfl (lv_at hl 2 rfl) ?_
          refine pw_callVi (As := [.ref (o0 + 326 + 2 + 16 * n), .int (iI ((k : Int)))]) (rest := []) ⟨hx, hb, hml, hown, hts⟩ (c_ifar l D E o0 (o0 + 326 + 2 + 16 * n) k rn bv (V n) bd (B n) ((mxA (V 1) (mN σ) : Int) * (mB σ : Int) * ((mA σ ^ n : Nat) : Int)) (B 1 * ((mB σ : Int) - (mA σ : Int)) * ((mB σ ^ n : Nat) : Int)) fo1 fo2 fo3 (by omega) (by omega) g1 g2 g3 g4 g5 g6 hfar) (cwV 2 hts gX9_stepsKeepBounds_X9_isFartherThanTold rfl rfl rfl (by decide +kernel) ⟨Nat.le_of_ble_eq_true rfl, Nat.le_of_ble_eq_true rfl⟩) hK hO rfl ⟨hO, hRW, hLR.2.1 n (by omega) (by omega), hF, hW1, hW2, hW3⟩ rfl hl.1 rfl (Nat.le_of_ble_eq_true rfl) dX9_stepsKeepBounds_36 ⟨Nat.zero_le _, Nat.zero_le _⟩ hS (fun q h => by (try dsimp only at h); (try dsimp only); omega) (fun z H1 locs1 ⟨hz, hW1, hW2, hW3⟩ hz1 hk1 hS => ?_)
          have hO := hO.k (hk1 _ hO.lt (by (try dsimp only); omega))
          have hM := hM.k (fun q h1 h2 h3 => (hk1 _ h3 (by (try dsimp only); omega)))
          have hMO := hMO.k (hk1 _ hMO.lt (by (try dsimp only); omega))
          have hLO := hLO.k (hk1 _ hLO.lt (by (try dsimp only); omega))
          have hLR := hLR.k (fun q h1 h2 h3 => (hk1 _ h3 (by (try dsimp only); omega)))
          have hLQ := hLQ.k (hk1 _ hLQ.lt (by (try dsimp only); omega))
          have hRW := hRW.k (fun q h1 h2 h3 => (hk1 _ h3 (by (try dsimp only); omega)))
          have hF := hF.k (fun q h1 h2 h3 => (hk1 _ h3 (by (try dsimp only); omega)))
          subst hz
          refine pw_if_eq (tgt := 44) hx hb dX9_stepsKeepBounds_39 (by decide) (fun c_39 => ?_) (fun c_39 => absurd c_39 (by omega))
          refine lv_iinc (v := iI (((k + 1 : Nat) : Int))) (lv' := [(2, .int (iI (((k + 1 : Nat) : Int)))), (0, .ref (o0)), (1, .int (iI ((n : Int))))]) hx hb dX9_stepsKeepBounds_44 hl (k := 2) rfl (by show iI _ + iI _ = _; exact (iI_add _ _).trans (by first | rfl | (congr 1; omega))) (by decide) rfl (fun ls hl => ?_)
          refine lv_goto (tgt := 14) hx hb dX9_stepsKeepBounds_47 (by decide) ?_
          exact ih2 (k + 1) _ _ _ _ _ _ (by omega) hO hM hLO hLR hRW hF hW1 hW2 hW3 hS (lv_sub hl [1, 2, 0] rfl)
      intro hO hM hLO hLR hRW hF hW1 hW2 hW3 hS hl
      obtain ⟨fu, fw, fo1, fo2, fo3, hF⟩ := hF
      have hMO := hM.1
      have hLQ := hLR.1
      refine lv_iload_n hx hb dX9_stepsKeepBounds_2 rfl (lv_at hl 1 rfl) ?_
      refine pw_iconst hx hb dX9_stepsKeepBounds_3 ?_
      refine pw_icmp_gt (tgt := 56) hx hb dX9_stepsKeepBounds_4 (by decide) (fun c_4 => absurd c_4 (by omega)) (fun c_4 => ?_)
      refine lv_aload_n hx hb dX9_stepsKeepBounds_7 rfl (lv_at hl 0 rfl) ?_
      refine lv_iload_n hx hb dX9_stepsKeepBounds_8 rfl (lv_at hl 1 rfl) ?_
      refine pw_callVv (As := [.int (iI ((n : Int)))]) (rest := []) ⟨hx, hb, hml, hown, hts⟩ (c_findBound l D E o0 n kn σ rn V B pk fu fw fo1 fo2 fo3 (by omega) hok hlv (by omega)) (cwV 1 hts gX9_stepsKeepBounds_X9_findBound rfl rfl rfl (by decide +kernel) ⟨Nat.le_of_ble_eq_true rfl, Nat.le_of_ble_eq_true rfl⟩) hK hO rfl ⟨hO, hM, ⟨hLO, hLR⟩, hF, hW1, hW2⟩ rfl hl.1 rfl (Nat.le_of_ble_eq_true rfl) dX9_stepsKeepBounds_9 ⟨Nat.zero_le _, Nat.zero_le _⟩ hS (fun q h => by (try dsimp only at h); (try dsimp only); omega) (fun H1 locs1 ⟨hF, hW1, hW2⟩ hz1 hk1 hS => ?_)
      have hO := hO.k (hk1 _ hO.lt (by (try dsimp only); omega))
      have hM := hM.k (fun q h1 h2 h3 => (hk1 _ h3 (by (try dsimp only); omega)))
      have hMO := hMO.k (hk1 _ hMO.lt (by (try dsimp only); omega))
      have hLO := hLO.k (hk1 _ hLO.lt (by (try dsimp only); omega))
      have hLR := hLR.k (fun q h1 h2 h3 => (hk1 _ h3 (by (try dsimp only); omega)))
      have hLQ := hLQ.k (hk1 _ hLQ.lt (by (try dsimp only); omega))
      have hRW := hRW.k (fun q h1 h2 h3 => (hk1 _ h3 (by (try dsimp only); omega)))
      have hW3 := hW3.k (fun q h1 h2 h3 => (hk1 _ h3 (by (try dsimp only); omega)))
      refine pw_iconst hx hb dX9_stepsKeepBounds_12 ?_
      refine pw_asi (((0 : Nat) : Int)) rfl ?_
      refine lv_istore_n (lv' := [(2, .int (iI (((0 : Nat) : Int)))), (0, .ref (o0)), (1, .int (iI ((n : Int))))]) hx hb dX9_stepsKeepBounds_13 rfl hl (by decide) rfl (fun ls hl => ?_)
      exact loop2 (mN σ) 0 _ _ _ _ _ _ (by omega) hO hM hLO hLR hRW hF hW1 hW2 hW3 hS (lv_sub hl [1, 2, 0] rfl)
  have hMO := hM.1
  have hLQ := hLR.1
  refine pw_iconst hx hb dX9_stepsKeepBounds_0 ?_
  refine pw_asi (((0 : Nat) : Int)) rfl ?_
  refine lv_istore_n (lv' := [(1, .int (iI (((0 : Nat) : Int)))), (0, .ref (o0))]) hx hb dX9_stepsKeepBounds_1 rfl hl (by decide) rfl (fun ls hl => ?_)
  exact loop 5 0 _ _ _ (by omega) hO hM hLO hLR hRW hF hW1 hW2 hW3 hS (lv_sub hl [1, 0] rfl)
set_option maxHeartbeats 4000000 in
set_option maxRecDepth 100000 in
/-- best() -/
theorem c_best (l : Launch) (D : va_G) (E : Nat → ClassId) (o0 : Nat) (σ : MS) (rn : Int) : pw_M rvI l D E yX9_best wsX9_best ({ frames := 6, cells := 0, slots := 0, locals := 169 } : Room) [.ref (o0)] (fun H => PO D E o0 σ rn H) (fun z H => PO D E o0 σ rn H ∧ z = if 0 < rn then 1 else 0) (fun q => o0 ≤ q ∧ q ≤ o0 + 582) (0) (0) := by
  refine pw_of (cc := cX9_best) (maxL := 1) (ret := (some .boolean)) (by decide +kernel) rfl (Nat.le_of_ble_eq_true rfl) ?_
  intro p e s m args below meth c hx hb hr hml hts hown hlocks hini hK ⟨bv, bd, bp, wn, wd, wq, kn, V, B, pk, ⟨hO, hM, hE, hCx, hLD, hRW, hBP, hQ, hWS, hZ, hT, hF, hW1, hW2, hW3⟩, hINV⟩ ls hl
  have hown : s.vm.findClass RX9 = some m.cls := hown
  have hl : lv_has ls 1 [(0, .ref (o0))] := hl
  have hS : va_S (fun q => o0 ≤ q ∧ q ≤ o0 + 582) s.heap s.heap [] := va_S.rf
  have lk_10 := hts (.fieldLink RX9 10 "PolicyWorks" "model" "LPolicyWorks$Model;") (by decide +kernel)
  have lk_26 := hts (.fieldLink RX9 26 "PolicyWorks" "chooser" "LPolicyWorks$Chooser;") (by decide +kernel)
  have lk_33 := hts (.fieldLink RX9 33 "PolicyWorks" "ladder" "LPolicyWorks$Ladder;") (by decide +kernel)
  have lk_81 := hts (.fieldLink RX9 81 "PolicyWorks" "rounds" "I") (by decide +kernel)
  have hin9 : ∀ w ∈ wsX90, w ∈ wsX9_best := by decide +kernel
  have hMO := hM.1
  have hMC := hM.2.1
  have hMQ := hM.2.2.1
  have hAT : ATS D E (o0 + 1) σ s.heap := hM.2.2.2
  have hLO := hLD.1
  have hLR : LDR D E (o0 + 326) V B pk s.heap := hLD.2
  have hok := hINV.1
  have hrn := hINV.2.1
  have hN6 := hok.1
  have hC4 := hok.2.1
  obtain ⟨gb, gr, vb, sb, vr, sr, hCH⟩ := hCx
  refine lv_aload_n hx hb dX9_best_0 rfl (lv_at hl 0 rfl) ?_
  refine pw_get (C := RX9) (T := TX9) (N := 14) hx hb hts hin9 hown hK hO rfl 13 (by decide) lk_81 rfl rfl dX9_best_1 ?_
  refine pw_if_ne (tgt := 9) hx hb dX9_best_4 (by decide) (fun c_4 => ?_) (fun c_4 => ?_)
  · obtain ⟨hrd, hsol⟩ := hINV.2.2.1 (by omega)
    obtain ⟨π, hπ, hPV, hmax⟩ := sol_max hok hrd hsol
    refine lv_aload_n hx hb dX9_best_9 rfl (lv_at hl 0 rfl) ?_
    refine pw_get (C := RX9) (T := TX9) (N := 14) hx hb hts hin9 hown hK hO rfl 3 (by decide) lk_33 rfl rfl dX9_best_10 ?_
    refine lv_aload_n hx hb dX9_best_13 rfl (lv_at hl 0 rfl) ?_
    refine pw_get (C := RX9) (T := TX9) (N := 14) hx hb hts hin9 hown hK hO rfl 0 (by decide) lk_10 rfl rfl dX9_best_14 ?_
    refine lv_aload_n hx hb dX9_best_17 rfl (lv_at hl 0 rfl) ?_
    refine pw_get (C := RX9) (T := TX9) (N := 14) hx hb hts hin9 hown hK hO rfl 2 (by decide) lk_26 rfl rfl dX9_best_18 ?_
    refine pw_iconst hx hb dX9_best_21 ?_
    refine pw_asi (((4 : Nat) : Int)) rfl ?_
    refine pw_callVv (As := [.ref (o0 + 1), .ref (o0 + 317), .int (iI (((4 : Nat) : Int)))]) (rest := []) ⟨hx, hb, hml, hown, hts⟩ (c_climb l D E (o0 + 326) (o0 + 1) (o0 + 317) gb gr (4) kn σ vb sb vr sr V B pk hok hrd (by omega) hINV.2.2.2.2 (by omega) (by omega) (by omega)) (cwV 3 hts gX9_best_X5_climb rfl rfl rfl (by decide +kernel) ⟨Nat.le_of_ble_eq_true rfl, Nat.le_of_ble_eq_true rfl⟩) hK hLO rfl ⟨⟨hLO, hLR⟩, hM, hCH⟩ rfl hl.1 rfl (Nat.le_of_ble_eq_true rfl) dX9_best_22 ⟨Nat.zero_le _, Nat.zero_le _⟩ hS (fun q h => by (try dsimp only at h); (try dsimp only); omega) (fun H1 locs1 ⟨gb, gr, vb, sb, vr, sr, kn, V, B, pk, hCH, hLD, hLV, hkn⟩ hz1 hk1 hS => ?_)
    have hO := hO.k (hk1 _ hO.lt (by (try dsimp only); omega))
    have hM := hM.k (fun q h1 h2 h3 => (hk1 _ h3 (by (try dsimp only); omega)))
    have hMO := hMO.k (hk1 _ hMO.lt (by (try dsimp only); omega))
    have hMC := hMC.k (hk1 _ hMC.lt (by (try dsimp only); omega))
    have hMQ := hMQ.k (hk1 _ hMQ.lt (by (try dsimp only); omega))
    have hAT := hAT.k (fun q h1 h2 h3 => (hk1 _ h3 (by (try dsimp only); omega)))
    have hE := hE.k (fun q h1 h2 h3 => (hk1 _ h3 (by (try dsimp only); omega)))
    have hRW := hRW.k (fun q h1 h2 h3 => (hk1 _ h3 (by (try dsimp only); omega)))
    have hBP := hBP.k (hk1 _ hBP.lt (by (try dsimp only); omega))
    have hQ := hQ.k (hk1 _ hQ.lt (by (try dsimp only); omega))
    have hWS := hWS.k (fun q h1 h2 h3 => (hk1 _ h3 (by (try dsimp only); omega)))
    have hZ := hZ.k (hk1 _ hZ.lt (by (try dsimp only); omega))
    have hT := hT.k (fun q h1 h2 h3 => (hk1 _ h3 (by (try dsimp only); omega)))
    have hF := hF.k (fun q h1 h2 h3 => (hk1 _ h3 (by (try dsimp only); omega)))
    have hW1 := hW1.k (fun q h1 h2 h3 => (hk1 _ h3 (by (try dsimp only); omega)))
    have hW2 := hW2.k (fun q h1 h2 h3 => (hk1 _ h3 (by (try dsimp only); omega)))
    have hW3 := hW3.k (fun q h1 h2 h3 => (hk1 _ h3 (by (try dsimp only); omega)))
    have hLO := hLD.1
    have hLR : LDR D E (o0 + 326) V B pk _ := hLD.2
    clear hLD
    have hLQ := hLR.1
    have hPQ := hLR.2.2.1
    refine lv_aload_n hx hb dX9_best_25 rfl (lv_at hl 0 rfl) ?_
    refine pw_callVi (As := []) (rest := []) ⟨hx, hb, hml, hown, hts⟩ (c_vagg l D E o0 σ rn bv bp bd π hok hrd hπ hPV hmax) (cwV 0 hts gX9_best_X9_valuesAreGreatestGains rfl rfl rfl (by decide +kernel) ⟨Nat.le_of_ble_eq_true rfl, Nat.le_of_ble_eq_true rfl⟩) hK hO rfl ⟨hO, hM, ⟨_, _, _, _, _, _, hCH⟩, hRW, hBP, hW1⟩ rfl hl.1 rfl (Nat.le_of_ble_eq_true rfl) dX9_best_26 ⟨Nat.zero_le _, Nat.zero_le _⟩ hS (fun q h => by (try dsimp only at h); (try dsimp only); omega) (fun z H1 locs1 ⟨hz, hCx, hW1⟩ hz1 hk1 hS => ?_)
    have hO := hO.k (hk1 _ hO.lt (by (try dsimp only); omega))
    have hM := hM.k (fun q h1 h2 h3 => (hk1 _ h3 (by (try dsimp only); omega)))
    have hMO := hMO.k (hk1 _ hMO.lt (by (try dsimp only); omega))
    have hMC := hMC.k (hk1 _ hMC.lt (by (try dsimp only); omega))
    have hMQ := hMQ.k (hk1 _ hMQ.lt (by (try dsimp only); omega))
    have hAT := hAT.k (fun q h1 h2 h3 => (hk1 _ h3 (by (try dsimp only); omega)))
    have hE := hE.k (fun q h1 h2 h3 => (hk1 _ h3 (by (try dsimp only); omega)))
    have hLO := hLO.k (hk1 _ hLO.lt (by (try dsimp only); omega))
    have hLR := hLR.k (fun q h1 h2 h3 => (hk1 _ h3 (by (try dsimp only); omega)))
    have hRW := hRW.k (fun q h1 h2 h3 => (hk1 _ h3 (by (try dsimp only); omega)))
    have hBP := hBP.k (hk1 _ hBP.lt (by (try dsimp only); omega))
    have hQ := hQ.k (hk1 _ hQ.lt (by (try dsimp only); omega))
    have hWS := hWS.k (fun q h1 h2 h3 => (hk1 _ h3 (by (try dsimp only); omega)))
    have hZ := hZ.k (hk1 _ hZ.lt (by (try dsimp only); omega))
    have hT := hT.k (fun q h1 h2 h3 => (hk1 _ h3 (by (try dsimp only); omega)))
    have hF := hF.k (fun q h1 h2 h3 => (hk1 _ h3 (by (try dsimp only); omega)))
    have hW2 := hW2.k (fun q h1 h2 h3 => (hk1 _ h3 (by (try dsimp only); omega)))
    have hW3 := hW3.k (fun q h1 h2 h3 => (hk1 _ h3 (by (try dsimp only); omega)))
    have hLQ := hLQ.k (hk1 _ hLQ.lt (by (try dsimp only); omega))
    have hPQ := hPQ.k (hk1 _ hPQ.lt (by (try dsimp only); omega))
    subst hz
    refine pw_if_eq (tgt := 50) hx hb dX9_best_29 (by decide) (fun c_29 => absurd c_29 (by omega)) (fun c_29 => ?_)
    refine lv_aload_n hx hb dX9_best_32 rfl (lv_at hl 0 rfl) ?_
    refine pw_callVi (As := []) (rest := []) ⟨hx, hb, hml, hown, hts⟩ (c_nwim l D E o0 σ rn bv bp bd π wn wd wq hINV.2.2.2.1 hok hrd hπ hPV hmax) (cwV 0 hts gX9_best_X9_noWorthIsMore rfl rfl rfl (by decide +kernel) ⟨Nat.le_of_ble_eq_true rfl, Nat.le_of_ble_eq_true rfl⟩) hK hO rfl ⟨hO, hM, hE, hQ, hWS, hZ, hT, hRW, hW1, hW2⟩ rfl hl.1 rfl (Nat.le_of_ble_eq_true rfl) dX9_best_33 ⟨Nat.zero_le _, Nat.zero_le _⟩ hS (fun q h => by (try dsimp only at h); (try dsimp only); omega) (fun z H1 locs1 ⟨hz, hE, hT, ⟨wn1, wd1, wq1, hWS, hZ, hWQ⟩, hW1, hW2⟩ hz1 hk1 hS => ?_)
    have hO := hO.k (hk1 _ hO.lt (by (try dsimp only); omega))
    have hM := hM.k (fun q h1 h2 h3 => (hk1 _ h3 (by (try dsimp only); omega)))
    have hMO := hMO.k (hk1 _ hMO.lt (by (try dsimp only); omega))
    have hMC := hMC.k (hk1 _ hMC.lt (by (try dsimp only); omega))
    have hMQ := hMQ.k (hk1 _ hMQ.lt (by (try dsimp only); omega))
    have hAT := hAT.k (fun q h1 h2 h3 => (hk1 _ h3 (by (try dsimp only); omega)))
    have hCx := hCx.k (fun q h1 h2 h3 => (hk1 _ h3 (by (try dsimp only); omega)))
    have hLO := hLO.k (hk1 _ hLO.lt (by (try dsimp only); omega))
    have hLR := hLR.k (fun q h1 h2 h3 => (hk1 _ h3 (by (try dsimp only); omega)))
    have hRW := hRW.k (fun q h1 h2 h3 => (hk1 _ h3 (by (try dsimp only); omega)))
    have hBP := hBP.k (hk1 _ hBP.lt (by (try dsimp only); omega))
    have hQ := hQ.k (hk1 _ hQ.lt (by (try dsimp only); omega))
    have hF := hF.k (fun q h1 h2 h3 => (hk1 _ h3 (by (try dsimp only); omega)))
    have hW3 := hW3.k (fun q h1 h2 h3 => (hk1 _ h3 (by (try dsimp only); omega)))
    have hLQ := hLQ.k (hk1 _ hLQ.lt (by (try dsimp only); omega))
    have hPQ := hPQ.k (hk1 _ hPQ.lt (by (try dsimp only); omega))
    subst hz
    refine pw_if_eq (tgt := 50) hx hb dX9_best_36 (by decide) (fun c_36 => absurd c_36 (by omega)) (fun c_36 => ?_)
    refine lv_aload_n hx hb dX9_best_39 rfl (lv_at hl 0 rfl) ?_
    refine pw_callVi (As := []) (rest := []) ⟨hx, hb, hml, hown, hts⟩ (c_skb l D E o0 kn σ rn bv bd π V B pk hok hrd (fun s hs => (hπ s hs).1) hPV hmax hLV (by omega)) (cwV 0 hts gX9_best_X9_stepsKeepBounds rfl rfl rfl (by decide +kernel) ⟨Nat.le_of_ble_eq_true rfl, Nat.le_of_ble_eq_true rfl⟩) hK hO rfl ⟨hO, hM, ⟨hLO, hLR⟩, hRW, hF, hW1, hW2, hW3⟩ rfl hl.1 rfl (Nat.le_of_ble_eq_true rfl) dX9_best_40 ⟨Nat.zero_le _, Nat.zero_le _⟩ hS (fun q h => by (try dsimp only at h); (try dsimp only); omega) (fun z H1 locs1 ⟨hz, hF, hW1, hW2, hW3⟩ hz1 hk1 hS => ?_)
    have hO := hO.k (hk1 _ hO.lt (by (try dsimp only); omega))
    have hM := hM.k (fun q h1 h2 h3 => (hk1 _ h3 (by (try dsimp only); omega)))
    have hMO := hMO.k (hk1 _ hMO.lt (by (try dsimp only); omega))
    have hMC := hMC.k (hk1 _ hMC.lt (by (try dsimp only); omega))
    have hMQ := hMQ.k (hk1 _ hMQ.lt (by (try dsimp only); omega))
    have hAT := hAT.k (fun q h1 h2 h3 => (hk1 _ h3 (by (try dsimp only); omega)))
    have hE := hE.k (fun q h1 h2 h3 => (hk1 _ h3 (by (try dsimp only); omega)))
    have hCx := hCx.k (fun q h1 h2 h3 => (hk1 _ h3 (by (try dsimp only); omega)))
    have hLO := hLO.k (hk1 _ hLO.lt (by (try dsimp only); omega))
    have hLR := hLR.k (fun q h1 h2 h3 => (hk1 _ h3 (by (try dsimp only); omega)))
    have hRW := hRW.k (fun q h1 h2 h3 => (hk1 _ h3 (by (try dsimp only); omega)))
    have hBP := hBP.k (hk1 _ hBP.lt (by (try dsimp only); omega))
    have hQ := hQ.k (hk1 _ hQ.lt (by (try dsimp only); omega))
    have hWS := hWS.k (fun q h1 h2 h3 => (hk1 _ h3 (by (try dsimp only); omega)))
    have hZ := hZ.k (hk1 _ hZ.lt (by (try dsimp only); omega))
    have hT := hT.k (fun q h1 h2 h3 => (hk1 _ h3 (by (try dsimp only); omega)))
    have hLQ := hLQ.k (hk1 _ hLQ.lt (by (try dsimp only); omega))
    have hPQ := hPQ.k (hk1 _ hPQ.lt (by (try dsimp only); omega))
    subst hz
    refine pw_if_eq (tgt := 50) hx hb dX9_best_43 (by decide) (fun c_43 => absurd c_43 (by omega)) (fun c_43 => ?_)
    refine pw_iconst hx hb dX9_best_46 ?_
    refine lv_goto (tgt := 51) hx hb dX9_best_47 (by decide) ?_
    exact pw_zret hx hb hr hlocks hS (by omega) ⟨⟨bv, bd, bp, wn1, wd1, wq1, kn, V, B, pk, ⟨hO, hM, hE, hCx, ⟨hLO, hLR⟩, hRW, hBP, hQ, hWS, hZ, hT, hF, hW1, hW2, hW3⟩, ⟨hok, hrn, hINV.2.2.1, hWQ, hLV⟩⟩, by rw [if_pos (by omega)]⟩ dX9_best_51
  · refine pw_iconst hx hb dX9_best_7 ?_
    exact pw_zret hx hb hr hlocks hS (by omega) ⟨⟨bv, bd, bp, wn, wd, wq, kn, V, B, pk, ⟨hO, hM, hE, ⟨_, _, _, _, _, _, hCH⟩, ⟨hLO, hLR⟩, hRW, hBP, hQ, hWS, hZ, hT, hF, hW1, hW2, hW3⟩, hINV⟩, by rw [if_neg (by omega)]⟩ dX9_best_8
