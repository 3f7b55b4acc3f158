/-! the bound, and the check that nothing can be better -/
def mxA (v : Nat → Int) : Nat → Nat
  | 0 => 0
  | k + 1 => max (mxA v k) (v k).natAbs
theorem mxA_ge {v : Nat → Int} : ∀ {n s : Nat}, s < n → (v s).natAbs ≤ mxA v n
  | 0, s, h => absurd h (Nat.not_lt_zero s)
  | n + 1, s, h => by
    show _ ≤ max (mxA v n) (v n).natAbs
    by_cases e : s = n
    · rw [e]; exact Nat.le_max_right _ _
    · exact Nat.le_trans (mxA_ge (show s < n by omega)) (Nat.le_max_left _ _)
theorem mxA_eq {v : Nat → Int} : ∀ {n : Nat}, 0 < n → ∃ s, s < n ∧ mxA v n = (v s).natAbs
  | 0, h => absurd h (Nat.not_lt_zero 0)
  | n + 1, _ => by
    have e : mxA v (n + 1) = max (mxA v n) (v n).natAbs := rfl
    by_cases h : n = 0
    · subst h
      exact ⟨0, by omega, by rw [e]; show max 0 _ = _; omega⟩
    · obtain ⟨s, hs, he⟩ := mxA_eq (v := v) (show 0 < n by omega)
      by_cases h2 : mxA v n ≤ (v n).natAbs
      · exact ⟨n, by omega, by rw [e]; omega⟩
      · exact ⟨s, by omega, by rw [e]; omega⟩
theorem mxA_b {v : Nat → Int} {x : Nat} : ∀ {n : Nat}, (∀ s, s < n → (v s).natAbs ≤ x) → mxA v n ≤ x
  | 0, _ => Nat.zero_le _
  | n + 1, h => Nat.max_le.mpr ⟨mxA_b (fun s hs => h s (by omega)), h n (by omega)⟩
/-- the first step's values are the best rewards -/
theorem bq_lv {σ : MS} (hok : mOK σ) (hr : rdy σ) {kn : Nat} {V : Nat → Nat → Int} {B : Nat → Int} {pk : Nat → Nat → Int} (h : LV σ kn V B pk) (h1 : 1 < kn) : BQ σ (mxA (V 1) (mN σ)) (B 1).natAbs (mN σ) := by
  obtain ⟨cm, c1, c2, c3, c4⟩ := h.2 (by omega)
  obtain ⟨b1, _, _, b4⟩ := c4 0 h1
  have b1 : 0 < B 1 := b1
  have hN := hok.1
  have hb0 : 0 < B 0 := by rw [c3]; have := c1.1; omega
  have key : ∀ s, s < mN σ → (V 1 s).natAbs * mD σ (4 * s + gpick σ s 0 (fun _ => 0) 1 (mC σ s)) = (mU σ (4 * s + gpick σ s 0 (fun _ => 0) 1 (mC σ s))).natAbs * (B 1).natAbs := fun s hs => by
    have e := (b4 s hs).2.2
    have e : V 1 s * (B 0 * gsc σ (4 * s + spk σ (V 0) (B 0) s)) = gnum σ (4 * s + spk σ (V 0) (B 0) s) (V 0) (B 0) * B 1 := e
    have ep : spk σ (V 0) (B 0) s = gpick σ s 0 (fun _ => 0) 1 (mC σ s) := gpick_prop hb0 (by omega) (fun t ht => by rw [c2 t (by omega), Int.zero_mul, Int.zero_mul]) _
    rw [ep, gnum_eq (v' := fun _ => 0) (fun t ht => c2 t (by omega)), gnum_0] at e
    have hp := gpick_lt (σ := σ) (st := s) (v := fun _ => 0) (b := 1) (hr.2 s hs).1 _ (Nat.le_refl _)
    have hT := (hr.2 s hs).2 _ hp
    have hB : 0 < (mB σ : Int) := by have := hok.2.2.2.1; omega
    unfold gsc gc0 at e
    have hT' : 0 < (mT σ (4 * s + gpick σ s 0 (fun _ => 0) 1 (mC σ s)) : Int) := by omega
    have hP : 0 < B 0 * ((mB σ : Int) * (mT σ (4 * s + gpick σ s 0 (fun _ => 0) 1 (mC σ s)) : Int)) := Int.mul_pos hb0 (Int.mul_pos hB hT')
    have e2 : V 1 s * (mD σ (4 * s + gpick σ s 0 (fun _ => 0) 1 (mC σ s)) : Int) = mU σ (4 * s + gpick σ s 0 (fun _ => 0) 1 (mC σ s)) * B 1 := by
      refine Int.eq_of_mul_eq_mul_right (Int.ne_of_gt hP) ?_
      generalize (mB σ : Int) = q1 at *
      generalize (mT σ (4 * s + gpick σ s 0 (fun _ => 0) 1 (mC σ s)) : Int) = q2 at *
      generalize (mD σ (4 * s + gpick σ s 0 (fun _ => 0) 1 (mC σ s)) : Int) = q3 at *
      generalize mU σ (4 * s + gpick σ s 0 (fun _ => 0) 1 (mC σ s)) = q4 at *
      have l1 : V 1 s * q3 * (B 0 * (q1 * q2)) = V 1 s * (B 0 * (q3 * q1 * q2)) := by grind
      have l2 : q4 * B 1 * (B 0 * (q1 * q2)) = B 0 * (q4 * q1 * q2) * B 1 := by grind
      rw [l1, l2]
      exact e
    have e3 := congrArg Int.natAbs e2
    rw [Int.natAbs_mul, Int.natAbs_mul, Int.natAbs_natCast] at e3
    exact e3
  refine ⟨by omega, fun s hs => ?_, fun _ => ?_, fun h => by have := hr.1; omega⟩
  · rw [← key s hs]
    exact Nat.mul_le_mul_right _ (mxA_ge hs)
  · obtain ⟨s, hs, he⟩ := mxA_eq (v := V 1) hr.1
    exact ⟨s, hs, by rw [he, key s hs]⟩
theorem pw4 {a n : Nat} (ha : a ≤ 20) (hn : n ≤ 4) : a ^ n ≤ 160000 := by
  have h1 : a ^ n ≤ 20 ^ n := Nat.pow_le_pow_left ha n
  have h2 : 20 ^ n ≤ 20 ^ 4 := Nat.pow_le_pow_right (by omega) hn
  have h3 : 20 ^ 4 = 160000 := by decide +kernel
  omega
theorem bb1n : 20000 * bb 1 < 1000000 ^ 24 ∧ bb 1 < 1000000 ^ 24 ∧ bb 1 * 20 < 1000000 ^ 24 ∧ 20000 * bb 1 * 20 < 1000000 ^ 24 ∧ bb 1 * 20 * 25600000000 < 1000000 ^ 24 ∧ 20000 * bb 1 * 20 * 25600000000 < 1000000 ^ 24 := by decide +kernel
set_option maxHeartbeats 4000000 in
set_option maxRecDepth 100000 in
/-- findBound(n) -/
theorem c_findBound (l : Launch) (D : va_G) (E : Nat → ClassId) (o0 n kn : Nat) (σ : MS) (rn : Int) (V : Nat → Nat → Int) (B : Nat → Int) (pk : Nat → Nat → Int) (fu fw fo1 fo2 fo3 : Int) (hn8 : n ≤ 8) (hok : mOK σ) (hlv : LV σ kn V B pk) (hkn1 : 1 < kn) : pw_M rvV l D E yX9_findBound wsX9_findBound ({ frames := 3, cells := 0, slots := 0, locals := 73 } : Room) [.ref (o0), .int (iI ((n : Int)))] (fun H => OA D o0 9 [.ref (o0 + 1), .ref (o0 + 52), .ref (o0 + 317), .ref (o0 + 326), .ref (o0 + 482), .ref (o0 + 498), .ref (o0 + 499), .ref (o0 + 564), .ref (o0 + 565), .ref (o0 + 566), .ref (o0 + 577), .ref (o0 + 579), .ref (o0 + 581), .int (iI (rn))] H ∧ MO D E (o0 + 1) σ H ∧ LD D E (o0 + 326) (kn : Int) V B pk H ∧ FR D E (o0 + 566) (fu) (fw) fo1 fo2 fo3 H ∧ WHx D E (o0 + 577) H ∧ WHx D E (o0 + 579) H) (fun _ H => FR D E (o0 + 566) ((mxA (V 1) (mN σ) : Int) * (mB σ : Int) * ((mA σ ^ n : Nat) : Int)) (B 1 * ((mB σ : Int) - (mA σ : Int)) * ((mB σ ^ n : Nat) : Int)) fo1 fo2 fo3 H ∧ WHx D E (o0 + 577) H ∧ WHx D E (o0 + 579) H) (fun q => o0 + 566 ≤ q ∧ q ≤ o0 + 580) (0) (0) := by
  refine pw_of (cc := cX9_findBound) (maxL := 4) (ret := none) (by decide +kernel) rfl (Nat.le_of_ble_eq_true rfl) ?_
  intro p e s m args below meth c hx hb hr hml hts hown hlocks hini hK ⟨hO, hM, ⟨hLO, hLR⟩, ⟨hFO, hU, hV, h5, h7, h9⟩, ⟨xl, hLf⟩, ⟨xr, hRt⟩⟩ ls hl
  have hown : s.vm.findClass RX9 = some m.cls := hown
  have hl : lv_has ls 4 [(0, .ref (o0)), (1, .int (iI ((n : Int))))] := hl
  have hS : va_S (fun q => o0 + 566 ≤ q ∧ q ≤ o0 + 580) s.heap s.heap [] := va_S.rf
  have lk_10 := hts (.fieldLink RX9 10 "PolicyWorks" "model" "LPolicyWorks$Model;") (by decide +kernel)
  have lk_33 := hts (.fieldLink RX9 33 "PolicyWorks" "ladder" "LPolicyWorks$Ladder;") (by decide +kernel)
  have lk_64 := hts (.fieldLink RX9 64 "PolicyWorks" "told" "LPolicyWorks$Fraction;") (by decide +kernel)
  have lk_71 := hts (.fieldLink RX9 71 "PolicyWorks" "left" "LPolicyWorks$Whole;") (by decide +kernel)
  have lk_75 := hts (.fieldLink RX9 75 "PolicyWorks" "right" "LPolicyWorks$Whole;") (by decide +kernel)
  have lk_85 := hts (.fieldLink RX9 85 "PolicyWorks$Model" "states" "I") (by decide +kernel)
  have lk_120 := hts (.fieldLink RX9 120 "PolicyWorks$Model" "discountAbove" "I") (by decide +kernel)
  have lk_123 := hts (.fieldLink RX9 123 "PolicyWorks$Model" "discountBelow" "I") (by decide +kernel)
  have lk_164 := hts (.fieldLink RX9 164 "PolicyWorks$Fraction" "above" "LPolicyWorks$Whole;") (by decide +kernel)
  have lk_171 := hts (.fieldLink RX9 171 "PolicyWorks$Fraction" "below" "LPolicyWorks$Whole;") (by decide +kernel)
  have lk_173 := hts (.fieldLink RX9 173 "PolicyWorks$Row" "below" "LPolicyWorks$Whole;") (by decide +kernel)
  have lk_189 := hts (.fieldLink RX9 189 "PolicyWorks$Ladder" "rows" "[LPolicyWorks$Row;") (by decide +kernel)
  have lk_232 := hts (.fieldLink RX9 232 "PolicyWorks$Row" "above" "[LPolicyWorks$Whole;") (by decide +kernel)
  have hin3 : ∀ w ∈ wsX30, w ∈ wsX9_findBound := by decide +kernel
  have hin5 : ∀ w ∈ wsX50, w ∈ wsX9_findBound := by decide +kernel
  have hin6 : ∀ w ∈ wsX60, w ∈ wsX9_findBound := by decide +kernel
  have hin7 : ∀ w ∈ wsX70, w ∈ wsX9_findBound := by decide +kernel
  have hin9 : ∀ w ∈ wsX90, w ∈ wsX9_findBound := by decide +kernel
  have hLR : LDR D E (o0 + 326) V B pk s.heap := hLR
  have hN6 := hok.1
  have hAB := hok.2.2.2.1
  have hB20 := hok.2.2.2.2.1
  have hall : 0 < B 1 ∧ (∀ k, k ≤ mN σ → -(1000000 ^ 24) < ((mxA (V 1) k : Nat) : Int) ∧ ((mxA (V 1) k : Nat) : Int) < 1000000 ^ 24) ∧ (∀ s, s < mN σ → (-(1000000 ^ 24) < V 1 s ∧ V 1 s < 1000000 ^ 24) ∧ (-(1000000 ^ 24) < ((V 1 s).natAbs : Int) ∧ ((V 1 s).natAbs : Int) < 1000000 ^ 24)) ∧ (-(1000000 ^ 24) < B 1 ∧ B 1 < 1000000 ^ 24) ∧ (∀ i, i ≤ 8 → -(1000000 ^ 24) < B 1 * ((mB σ : Int) - (mA σ : Int)) * ((mB σ ^ i : Nat) : Int) ∧ B 1 * ((mB σ : Int) - (mA σ : Int)) * ((mB σ ^ i : Nat) : Int) < 1000000 ^ 24) ∧ (∀ i, i ≤ 8 → -(1000000 ^ 24) < (mxA (V 1) (mN σ) : Int) * (mB σ : Int) * ((mA σ ^ i : Nat) : Int) ∧ (mxA (V 1) (mN σ) : Int) * (mB σ : Int) * ((mA σ ^ i : Nat) : Int) < 1000000 ^ 24) ∧ (-(1000000 ^ 24) < B 1 * ((mB σ : Int) - (mA σ : Int)) ∧ B 1 * ((mB σ : Int) - (mA σ : Int)) < 1000000 ^ 24) ∧ (-(1000000 ^ 24) < (mxA (V 1) (mN σ) : Int) * (mB σ : Int) ∧ (mxA (V 1) (mN σ) : Int) * (mB σ : Int) < 1000000 ^ 24) := by
    have hba : ((mB σ : Int) - (mA σ : Int)).natAbs ≤ 20 := by omega
    have hb20 : (mB σ : Int).natAbs ≤ 20 := by omega
    have ha20 : mA σ ≤ 20 := by omega
    obtain ⟨cm, c1, c2, c3, c4⟩ := hlv.2 (by omega)
    obtain ⟨hb1, _, hb1b, hv1b⟩ := LV.b hN6 c1 c2 c3 c4 1 (by omega)
    obtain ⟨n1, n2, n3, n4, n5, n6⟩ := bb1n
    have hvx : ∀ s, s < mN σ → (V 1 s).natAbs ≤ 20000 * bb 1 := fun s hs => Nat.le_trans (hv1b s hs) (Nat.mul_le_mul_left _ hb1b)
    have hmxb : ∀ k, k ≤ mN σ → mxA (V 1) k ≤ 20000 * bb 1 := fun k hk => mxA_b (fun s hs => hvx s (Nat.lt_of_lt_of_le hs hk))
    have ub0 : (B 1 * ((mB σ : Int) - (mA σ : Int))).natAbs ≤ bb 1 * 20 := mulb hb1b hba
    have ua0 : ((mxA (V 1) (mN σ) : Int) * (mB σ : Int)).natAbs ≤ 20000 * bb 1 * 20 := mulb (by rw [Int.natAbs_natCast]; exact hmxb _ (Nat.le_refl _)) hb20
    refine ⟨hb1, fun k hk => int_lt ?_, fun s hs => ⟨int_lt (Nat.lt_of_le_of_lt (hvx s hs) n1), int_lt ?_⟩, int_lt (Nat.lt_of_le_of_lt hb1b n2), fun i hi => int_lt (Nat.lt_of_le_of_lt (mulb ub0 ?_) n5), fun i hi => int_lt (Nat.lt_of_le_of_lt (mulb ua0 ?_) n6), int_lt (Nat.lt_of_le_of_lt ub0 n3), int_lt (Nat.lt_of_le_of_lt ua0 n4)⟩
    · rw [Int.natAbs_natCast]; exact Nat.lt_of_le_of_lt (hmxb k hk) n1
    · rw [Int.natAbs_natCast]; exact Nat.lt_of_le_of_lt (hvx s hs) n1
    · rw [Int.natAbs_natCast]; exact pw20 hB20 hi
    · rw [Int.natAbs_natCast]; exact pw20 ha20 hi
  obtain ⟨hb1, hmxi, hvi, hbi, ubi, uai, ub0i, ua0i⟩ := hall
  have loop2 : ∀ (kk k : Nat) (xr xl : Int) (H : Heap) (locs : List Loc) (ls : Array Slot), k + kk = n → OA D o0 9 [.ref (o0 + 1), .ref (o0 + 52), .ref (o0 + 317), .ref (o0 + 326), .ref (o0 + 482), .ref (o0 + 498), .ref (o0 + 499), .ref (o0 + 564), .ref (o0 + 565), .ref (o0 + 566), .ref (o0 + 577), .ref (o0 + 579), .ref (o0 + 581), .int (iI (rn))] H → MO D E (o0 + 1) σ H → OA D (o0 + 326) 5 [.ref (o0 + 326 + 1), .ref (o0 + 326 + 146), .int (iI ((kn : Int)))] H → LDR D E (o0 + 326) V B pk H → OA D (o0 + 566) 3 [.ref (o0 + 566 + 1), .ref (o0 + 566 + 3), .ref (o0 + 566 + 5), .ref (o0 + 566 + 7), .ref (o0 + 566 + 9)] H → WH D E (o0 + 566 + 1) 24 ((mxA (V 1) (mN σ) : Int) * (mB σ : Int) * ((mA σ ^ k : Nat) : Int)) H → WH D E (o0 + 566 + 3) 24 (B 1 * ((mB σ : Int) - (mA σ : Int)) * ((mB σ ^ k : Nat) : Int)) H → WH D E (o0 + 566 + 5) 24 fo1 H → WH D E (o0 + 566 + 7) 24 fo2 H → WH D E (o0 + 566 + 9) 24 fo3 H → WH D E (o0 + 577) 24 (xl) H → WH D E (o0 + 579) 24 (xr) H → va_S (fun q => o0 + 566 ≤ q ∧ q ≤ o0 + 580) s.heap H locs → lv_has ls 4 [(0, .ref (o0)), (1, .int (iI ((n : Int)))), (2, .ref (o0 + 326 + 2 + 16 * 1)), (3, .int (iI ((k : Int))))] → W p l e ({ frames := 3, cells := 0, slots := 0, locals := 73 } : Room) s m args below meth c H locs (0) (0) (MQ below (pw_Q rvV (fun _ H => FR D E (o0 + 566) ((mxA (V 1) (mN σ) : Int) * (mB σ : Int) * ((mA σ ^ n : Nat) : Int)) (B 1 * ((mB σ : Int) - (mA σ : Int)) * ((mB σ ^ n : Nat) : Int)) fo1 fo2 fo3 H ∧ WHx D E (o0 + 577) H ∧ WHx D E (o0 + 579) H) (fun q => o0 + 566 ≤ q ∧ q ≤ o0 + 580)) args s (0) (0) (fun q => o0 + 566 ≤ q ∧ q ≤ o0 + 580)) (F0 m 155 ls []) := by
    intro kk
    induction kk with
    | zero =>
      intro k xr xl H locs ls hk hO hM hLO hLR hFO hU hV h5 h7 h9 hLf hRt hS hl
      have ek : k = n := by omega
      subst ek
      have hMO := hM.1
      have hLQ := hLR.1
      have hR1 := hLR.2.1 1 (by omega) (by omega)
      have hR1O := hR1.1
      have hR1Q := hR1.2.1
      have hR1B := hR1.2.2.2
      refine lv_iload_n hx hb dX9_findBound_155 rfl (lv_at hl 3 rfl) ?_
      refine lv_iload_n hx hb dX9_findBound_156 rfl (lv_at hl 1 rfl) ?_
      refine pw_icmp_ge (tgt := 202) hx hb dX9_findBound_157 (by decide) (fun c_157 => ?_) (fun c_157 => absurd c_157 (by omega))
      exact pw_vret hx hb hr hlocks hS ⟨⟨hFO, hU, hV, h5, h7, h9⟩, ⟨_, hLf⟩, ⟨_, hRt⟩⟩ dX9_findBound_202
    | succ kk ih =>
      intro k xr xl H locs ls hk hO hM hLO hLR hFO hU hV h5 h7 h9 hLf hRt hS hl
      have ea : (mxA (V 1) (mN σ) : Int) * (mB σ : Int) * ((mA σ ^ k : Nat) : Int) * (mA σ : Int) = (mxA (V 1) (mN σ) : Int) * (mB σ : Int) * ((mA σ ^ (k + 1) : Nat) : Int) := by rw [Int.mul_assoc ((mxA (V 1) (mN σ) : Int) * (mB σ : Int)), ← Int.natCast_mul (mA σ ^ k) (mA σ), ← Nat.pow_succ]
      have eb : B 1 * ((mB σ : Int) - (mA σ : Int)) * ((mB σ ^ k : Nat) : Int) * (mB σ : Int) = B 1 * ((mB σ : Int) - (mA σ : Int)) * ((mB σ ^ (k + 1) : Nat) : Int) := by rw [Int.mul_assoc (B 1 * ((mB σ : Int) - (mA σ : Int))), ← Int.natCast_mul (mB σ ^ k) (mB σ), ← Nat.pow_succ]
      have ea2 := uai (k + 1) (by omega)
      have eb2 := ubi (k + 1) (by omega)
      rw [← ea] at ea2
      rw [← eb] at eb2
      have hMO := hM.1
      have hLQ := hLR.1
      have hR1 := hLR.2.1 1 (by omega) (by omega)
      have hR1O := hR1.1
      have hR1Q := hR1.2.1
      have hR1B := hR1.2.2.2
      refine lv_iload_n hx hb dX9_findBound_155 rfl (lv_at hl 3 rfl) ?_
      refine lv_iload_n hx hb dX9_findBound_156 rfl (lv_at hl 1 rfl) ?_
      refine pw_icmp_ge (tgt := 202) hx hb dX9_findBound_157 (by decide) (fun c_157 => absurd c_157 (by omega)) (fun c_157 => ?_)
      refine lv_aload_n hx hb dX9_findBound_160 rfl (lv_at hl 0 rfl) ?_
      refine pw_get (C := RX9) (T := TX9) (N := 14) hx hb hts hin9 hown hK hO rfl 9 (by decide) lk_64 rfl rfl dX9_findBound_161 ?_
      refine pw_get (C := RX3) (T := TX3) (N := 5) hx hb hts hin3 hown hK hFO rfl 0 (by decide) lk_164 rfl rfl dX9_findBound_164 ?_
      refine lv_aload_n hx hb dX9_findBound_167 rfl (lv_at hl 0 rfl) ?_
      refine pw_get (C := RX9) (T := TX9) (N := 14) hx hb hts hin9 hown hK hO rfl 0 (by decide) lk_10 rfl rfl dX9_findBound_168 ?_
      refine pw_get (C := RX6) (T := TX6) (N := 5) hx hb hts hin6 hown hK hMO rfl 3 (by decide) lk_120 rfl rfl dX9_findBound_171 ?_
      refine pw_i2l hx hb dX9_findBound_174 ?_
      refine pw_callVv (As := [.long (lI ((mA σ : Int)))]) (rest := []) ⟨hx, hb, hml, hown, hts⟩ (c_multiply l D E (o0 + 566 + 1) 24 ((mxA (V 1) (mN σ) : Int) * (mB σ : Int) * ((mA σ ^ k : Nat) : Int)) ((mA σ : Int)) (by omega) (by omega) (by omega) ea2.1 ea2.2) (cwV 1 hts gX9_findBound_X8_multiply rfl rfl rfl (by decide +kernel) ⟨Nat.le_of_ble_eq_true rfl, Nat.le_of_ble_eq_true rfl⟩) hK hU.o.choose_spec rfl hU rfl hl.1 rfl (Nat.le_of_ble_eq_true rfl) dX9_findBound_175 ⟨Nat.zero_le _, Nat.zero_le _⟩ hS (fun q h => by (try dsimp only at h); (try dsimp only); omega) (fun H1 locs1 hU hz1 hk1 hS => ?_)
      have hO := hO.k (hk1 _ hO.lt (by (try dsimp only); omega))
      have hM := hM.k (fun q h1 h2 h3 => (hk1 _ h3 (by (try dsimp only); omega)))
      have hMO := hMO.k (hk1 _ hMO.lt (by (try dsimp only); omega))
      have hLO := hLO.k (hk1 _ hLO.lt (by (try dsimp only); omega))
      have hLR := hLR.k (fun q h1 h2 h3 => (hk1 _ h3 (by (try dsimp only); omega)))
      have hLQ := hLQ.k (hk1 _ hLQ.lt (by (try dsimp only); omega))
      have hR1 := hR1.k (fun q h1 h2 h3 => (hk1 _ h3 (by (try dsimp only); omega)))
      have hR1O := hR1O.k (hk1 _ hR1O.lt (by (try dsimp only); omega))
      have hR1Q := hR1Q.k (hk1 _ hR1Q.lt (by (try dsimp only); omega))
      have hR1B := hR1B.k (hk1 _ (by have := hR1B.lt; omega) (by (try dsimp only); omega)) (hk1 _ hR1B.lt (by (try dsimp only); omega))
      have hFO := hFO.k (hk1 _ hFO.lt (by (try dsimp only); omega))
      have hV := hV.k (hk1 _ (by have := hV.lt; omega) (by (try dsimp only); omega)) (hk1 _ hV.lt (by (try dsimp only); omega))
      have h5 := h5.k (hk1 _ (by have := h5.lt; omega) (by (try dsimp only); omega)) (hk1 _ h5.lt (by (try dsimp only); omega))
      have h7 := h7.k (hk1 _ (by have := h7.lt; omega) (by (try dsimp only); omega)) (hk1 _ h7.lt (by (try dsimp only); omega))
      have h9 := h9.k (hk1 _ (by have := h9.lt; omega) (by (try dsimp only); omega)) (hk1 _ h9.lt (by (try dsimp only); omega))
      have hLf := hLf.k (hk1 _ (by have := hLf.lt; omega) (by (try dsimp only); omega)) (hk1 _ hLf.lt (by (try dsimp only); omega))
      have hRt := hRt.k (hk1 _ (by have := hRt.lt; omega) (by (try dsimp only); omega)) (hk1 _ hRt.lt (by (try dsimp only); omega))
      rw [ea] at hU
      refine lv_aload_n hx hb dX9_findBound_178 rfl (lv_at hl 0 rfl) ?_
      refine pw_get (C := RX9) (T := TX9) (N := 14) hx hb hts hin9 hown hK hO rfl 9 (by decide) lk_64 rfl rfl dX9_findBound_179 ?_
      refine pw_get (C := RX3) (T := TX3) (N := 5) hx hb hts hin3 hown hK hFO rfl 1 (by decide) lk_171 rfl rfl dX9_findBound_182 ?_
      refine lv_aload_n hx hb dX9_findBound_185 rfl (lv_at hl 0 rfl) ?_
      refine pw_get (C := RX9) (T := TX9) (N := 14) hx hb hts hin9 hown hK hO rfl 0 (by decide) lk_10 rfl rfl dX9_findBound_186 ?_
      refine pw_get (C := RX6) (T := TX6) (N := 5) hx hb hts hin6 hown hK hMO rfl 4 (by decide) lk_123 rfl rfl dX9_findBound_189 ?_
      refine pw_i2l hx hb dX9_findBound_192 ?_
      refine pw_callVv (As := [.long (lI ((mB σ : Int)))]) (rest := []) ⟨hx, hb, hml, hown, hts⟩ (c_multiply l D E (o0 + 566 + 3) 24 (B 1 * ((mB σ : Int) - (mA σ : Int)) * ((mB σ ^ k : Nat) : Int)) ((mB σ : Int)) (by omega) (by omega) (by omega) eb2.1 eb2.2) (cwV 1 hts gX9_findBound_X8_multiply rfl rfl rfl (by decide +kernel) ⟨Nat.le_of_ble_eq_true rfl, Nat.le_of_ble_eq_true rfl⟩) hK hV.o.choose_spec rfl hV rfl hl.1 rfl (Nat.le_of_ble_eq_true rfl) dX9_findBound_193 ⟨Nat.zero_le _, Nat.zero_le _⟩ hS (fun q h => by (try dsimp only at h); (try dsimp only); omega) (fun H1 locs1 hV hz1 hk1 hS => ?_)
      have hO := hO.k (hk1 _ hO.lt (by (try dsimp only); omega))
      have hM := hM.k (fun q h1 h2 h3 => (hk1 _ h3 (by (try dsimp only); omega)))
      have hMO := hMO.k (hk1 _ hMO.lt (by (try dsimp only); omega))
      have hLO := hLO.k (hk1 _ hLO.lt (by (try dsimp only); omega))
      have hLR := hLR.k (fun q h1 h2 h3 => (hk1 _ h3 (by (try dsimp only); omega)))
      have hLQ := hLQ.k (hk1 _ hLQ.lt (by (try dsimp only); omega))
      have hR1 := hR1.k (fun q h1 h2 h3 => (hk1 _ h3 (by (try dsimp only); omega)))
      have hR1O := hR1O.k (hk1 _ hR1O.lt (by (try dsimp only); omega))
      have hR1Q := hR1Q.k (hk1 _ hR1Q.lt (by (try dsimp only); omega))
      have hR1B := hR1B.k (hk1 _ (by have := hR1B.lt; omega) (by (try dsimp only); omega)) (hk1 _ hR1B.lt (by (try dsimp only); omega))
      have hFO := hFO.k (hk1 _ hFO.lt (by (try dsimp only); omega))
      have hU := hU.k (hk1 _ (by have := hU.lt; omega) (by (try dsimp only); omega)) (hk1 _ hU.lt (by (try dsimp only); omega))
      have h5 := h5.k (hk1 _ (by have := h5.lt; omega) (by (try dsimp only); omega)) (hk1 _ h5.lt (by (try dsimp only); omega))
      have h7 := h7.k (hk1 _ (by have := h7.lt; omega) (by (try dsimp only); omega)) (hk1 _ h7.lt (by (try dsimp only); omega))
      have h9 := h9.k (hk1 _ (by have := h9.lt; omega) (by (try dsimp only); omega)) (hk1 _ h9.lt (by (try dsimp only); omega))
      have hLf := hLf.k (hk1 _ (by have := hLf.lt; omega) (by (try dsimp only); omega)) (hk1 _ hLf.lt (by (try dsimp only); omega))
      have hRt := hRt.k (hk1 _ (by have := hRt.lt; omega) (by (try dsimp only); omega)) (hk1 _ hRt.lt (by (try dsimp only); omega))
      rw [eb] at hV
      refine lv_iinc (v := iI (((k + 1 : Nat) : Int))) (lv' := [(3, .int (iI (((k + 1 : Nat) : Int)))), (0, .ref (o0)), (1, .int (iI ((n : Int)))), (2, .ref (o0 + 326 + 2 + 16 * 1))]) hx hb dX9_findBound_196 hl (k := 3) rfl (by show iI _ + iI _ = _; exact (iI_add _ _).trans (by first | rfl | (congr 1; omega))) (by decide) rfl (fun ls hl => ?_)
      refine lv_goto (tgt := 155) hx hb dX9_findBound_199 (by decide) ?_
      exact ih (k + 1) _ _ _ _ _ (by omega) hO hM hLO hLR hFO hU hV h5 h7 h9 hLf hRt hS (lv_sub hl [1, 2, 3, 0] rfl)
  have loop : ∀ (kk k : Nat) (xr : Int) (H : Heap) (locs : List Loc) (ls : Array Slot), k + kk = mN σ → OA D o0 9 [.ref (o0 + 1), .ref (o0 + 52), .ref (o0 + 317), .ref (o0 + 326), .ref (o0 + 482), .ref (o0 + 498), .ref (o0 + 499), .ref (o0 + 564), .ref (o0 + 565), .ref (o0 + 566), .ref (o0 + 577), .ref (o0 + 579), .ref (o0 + 581), .int (iI (rn))] H → MO D E (o0 + 1) σ H → OA D (o0 + 326) 5 [.ref (o0 + 326 + 1), .ref (o0 + 326 + 146), .int (iI ((kn : Int)))] H → LDR D E (o0 + 326) V B pk H → OA D (o0 + 566) 3 [.ref (o0 + 566 + 1), .ref (o0 + 566 + 3), .ref (o0 + 566 + 5), .ref (o0 + 566 + 7), .ref (o0 + 566 + 9)] H → WH D E (o0 + 566 + 1) 24 (fu) H → WH D E (o0 + 566 + 3) 24 (fw) H → WH D E (o0 + 566 + 5) 24 fo1 H → WH D E (o0 + 566 + 7) 24 fo2 H → WH D E (o0 + 566 + 9) 24 fo3 H → WH D E (o0 + 577) 24 (((mxA (V 1) k : Nat) : Int)) H → WH D E (o0 + 579) 24 (xr) H → va_S (fun q => o0 + 566 ≤ q ∧ q ≤ o0 + 580) s.heap H locs → lv_has ls 4 [(0, .ref (o0)), (1, .int (iI ((n : Int)))), (2, .ref (o0 + 326 + 2 + 16 * 1)), (3, .int (iI ((k : Int))))] → W p l e ({ frames := 3, cells := 0, slots := 0, locals := 73 } : Room) s m args below meth c H locs (0) (0) (MQ below (pw_Q rvV (fun _ H => FR D E (o0 + 566) ((mxA (V 1) (mN σ) : Int) * (mB σ : Int) * ((mA σ ^ n : Nat) : Int)) (B 1 * ((mB σ : Int) - (mA σ : Int)) * ((mB σ ^ n : Nat) : Int)) fo1 fo2 fo3 H ∧ WHx D E (o0 + 577) H ∧ WHx D E (o0 + 579) H) (fun q => o0 + 566 ≤ q ∧ q ≤ o0 + 580)) args s (0) (0) (fun q => o0 + 566 ≤ q ∧ q ≤ o0 + 580)) (F0 m 19 ls []) := by
    intro kk
    induction kk with
    | zero =>
      intro k xr H locs ls hk hO hM hLO hLR hFO hU hV h5 h7 h9 hLf hRt hS hl
      have ek : k = mN σ := by omega
      subst ek
      have hmi := hmxi _ (Nat.le_refl _)
      have hMO := hM.1
      have hLQ := hLR.1
      have hR1 := hLR.2.1 1 (by omega) (by omega)
      have hR1O := hR1.1
      have hR1Q := hR1.2.1
      have hR1B := hR1.2.2.2
      refine lv_iload_n hx hb dX9_findBound_19 rfl (lv_at hl 3 rfl) ?_
      refine lv_aload_n hx hb dX9_findBound_20 rfl (lv_at hl 0 rfl) ?_
      refine pw_get (C := RX9) (T := TX9) (N := 14) hx hb hts hin9 hown hK hO rfl 0 (by decide) lk_10 rfl rfl dX9_findBound_21 ?_
      refine pw_get (C := RX6) (T := TX6) (N := 5) hx hb hts hin6 hown hK hMO rfl 2 (by decide) lk_85 rfl rfl dX9_findBound_24 ?_
      refine pw_icmp_ge (tgt := 81) hx hb dX9_findBound_27 (by decide) (fun c_27 => ?_) (fun c_27 => absurd c_27 (by omega))
      refine lv_aload_n hx hb dX9_findBound_81 rfl (lv_at hl 0 rfl) ?_
      refine pw_get (C := RX9) (T := TX9) (N := 14) hx hb hts hin9 hown hK hO rfl 9 (by decide) lk_64 rfl rfl dX9_findBound_82 ?_
      refine pw_get (C := RX3) (T := TX3) (N := 5) hx hb hts hin3 hown hK hFO rfl 0 (by decide) lk_164 rfl rfl dX9_findBound_85 ?_
      refine lv_aload_n hx hb dX9_findBound_88 rfl (lv_at hl 0 rfl) ?_
      refine pw_get (C := RX9) (T := TX9) (N := 14) hx hb hts hin9 hown hK hO rfl 10 (by decide) lk_71 rfl rfl dX9_findBound_89 ?_
      obtain ⟨kx, hUr⟩ := hU.r
      refine pw_callVv (As := [.ref (o0 + 577)]) (rest := []) ⟨hx, hb, hml, hown, hts⟩ (c_copy l D E (o0 + 566 + 1) 24 (o0 + 577) 24 (wdig _) kx _ ((mxA (V 1) (mN σ) : Int)) (by omega) (by omega) (by omega) hmi.1 hmi.2) (cwV 1 hts gX9_findBound_X8_copy rfl rfl rfl (by decide +kernel) ⟨Nat.le_of_ble_eq_true rfl, Nat.le_of_ble_eq_true rfl⟩) hK hUr.1 rfl ⟨hUr, hLf⟩ rfl hl.1 rfl (Nat.le_of_ble_eq_true rfl) dX9_findBound_92 ⟨Nat.zero_le _, Nat.zero_le _⟩ hS (fun q h => by (try dsimp only at h); (try dsimp only); omega) (fun H1 locs1 hU hz1 hk1 hS => ?_)
      have hO := hO.k (hk1 _ hO.lt (by (try dsimp only); omega))
      have hM := hM.k (fun q h1 h2 h3 => (hk1 _ h3 (by (try dsimp only); omega)))
      have hMO := hMO.k (hk1 _ hMO.lt (by (try dsimp only); omega))
      have hLO := hLO.k (hk1 _ hLO.lt (by (try dsimp only); omega))
      have hLR := hLR.k (fun q h1 h2 h3 => (hk1 _ h3 (by (try dsimp only); omega)))
      have hLQ := hLQ.k (hk1 _ hLQ.lt (by (try dsimp only); omega))
      have hR1 := hR1.k (fun q h1 h2 h3 => (hk1 _ h3 (by (try dsimp only); omega)))
      have hR1O := hR1O.k (hk1 _ hR1O.lt (by (try dsimp only); omega))
      have hR1Q := hR1Q.k (hk1 _ hR1Q.lt (by (try dsimp only); omega))
      have hR1B := hR1B.k (hk1 _ (by have := hR1B.lt; omega) (by (try dsimp only); omega)) (hk1 _ hR1B.lt (by (try dsimp only); omega))
      have hFO := hFO.k (hk1 _ hFO.lt (by (try dsimp only); omega))
      have hV := hV.k (hk1 _ (by have := hV.lt; omega) (by (try dsimp only); omega)) (hk1 _ hV.lt (by (try dsimp only); omega))
      have h5 := h5.k (hk1 _ (by have := h5.lt; omega) (by (try dsimp only); omega)) (hk1 _ h5.lt (by (try dsimp only); omega))
      have h7 := h7.k (hk1 _ (by have := h7.lt; omega) (by (try dsimp only); omega)) (hk1 _ h7.lt (by (try dsimp only); omega))
      have h9 := h9.k (hk1 _ (by have := h9.lt; omega) (by (try dsimp only); omega)) (hk1 _ h9.lt (by (try dsimp only); omega))
      have hLf := hLf.k (hk1 _ (by have := hLf.lt; omega) (by (try dsimp only); omega)) (hk1 _ hLf.lt (by (try dsimp only); omega))
      have hRt := hRt.k (hk1 _ (by have := hRt.lt; omega) (by (try dsimp only); omega)) (hk1 _ hRt.lt (by (try dsimp only); omega))
      refine lv_aload_n hx hb dX9_findBound_95 rfl (lv_at hl 0 rfl) ?_
      refine pw_get (C := RX9) (T := TX9) (N := 14) hx hb hts hin9 hown hK hO rfl 9 (by decide) lk_64 rfl rfl dX9_findBound_96 ?_
      refine pw_get (C := RX3) (T := TX3) (N := 5) hx hb hts hin3 hown hK hFO rfl 0 (by decide) lk_164 rfl rfl dX9_findBound_99 ?_
      refine lv_aload_n hx hb dX9_findBound_102 rfl (lv_at hl 0 rfl) ?_
      refine pw_get (C := RX9) (T := TX9) (N := 14) hx hb hts hin9 hown hK hO rfl 0 (by decide) lk_10 rfl rfl dX9_findBound_103 ?_
      refine pw_get (C := RX6) (T := TX6) (N := 5) hx hb hts hin6 hown hK hMO rfl 4 (by decide) lk_123 rfl rfl dX9_findBound_106 ?_
      refine pw_i2l hx hb dX9_findBound_109 ?_
      refine pw_callVv (As := [.long (lI ((mB σ : Int)))]) (rest := []) ⟨hx, hb, hml, hown, hts⟩ (c_multiply l D E (o0 + 566 + 1) 24 ((mxA (V 1) (mN σ) : Int)) ((mB σ : Int)) (by omega) (by omega) (by omega) ua0i.1 ua0i.2) (cwV 1 hts gX9_findBound_X8_multiply rfl rfl rfl (by decide +kernel) ⟨Nat.le_of_ble_eq_true rfl, Nat.le_of_ble_eq_true rfl⟩) hK hU.o.choose_spec rfl hU rfl hl.1 rfl (Nat.le_of_ble_eq_true rfl) dX9_findBound_110 ⟨Nat.zero_le _, Nat.zero_le _⟩ hS (fun q h => by (try dsimp only at h); (try dsimp only); omega) (fun H1 locs1 hU hz1 hk1 hS => ?_)
      have hO := hO.k (hk1 _ hO.lt (by (try dsimp only); omega))
      have hM := hM.k (fun q h1 h2 h3 => (hk1 _ h3 (by (try dsimp only); omega)))
      have hMO := hMO.k (hk1 _ hMO.lt (by (try dsimp only); omega))
      have hLO := hLO.k (hk1 _ hLO.lt (by (try dsimp only); omega))
      have hLR := hLR.k (fun q h1 h2 h3 => (hk1 _ h3 (by (try dsimp only); omega)))
      have hLQ := hLQ.k (hk1 _ hLQ.lt (by (try dsimp only); omega))
      have hR1 := hR1.k (fun q h1 h2 h3 => (hk1 _ h3 (by (try dsimp only); omega)))
      have hR1O := hR1O.k (hk1 _ hR1O.lt (by (try dsimp only); omega))
      have hR1Q := hR1Q.k (hk1 _ hR1Q.lt (by (try dsimp only); omega))
      have hR1B := hR1B.k (hk1 _ (by have := hR1B.lt; omega) (by (try dsimp only); omega)) (hk1 _ hR1B.lt (by (try dsimp only); omega))
      have hFO := hFO.k (hk1 _ hFO.lt (by (try dsimp only); omega))
      have hV := hV.k (hk1 _ (by have := hV.lt; omega) (by (try dsimp only); omega)) (hk1 _ hV.lt (by (try dsimp only); omega))
      have h5 := h5.k (hk1 _ (by have := h5.lt; omega) (by (try dsimp only); omega)) (hk1 _ h5.lt (by (try dsimp only); omega))
      have h7 := h7.k (hk1 _ (by have := h7.lt; omega) (by (try dsimp only); omega)) (hk1 _ h7.lt (by (try dsimp only); omega))
      have h9 := h9.k (hk1 _ (by have := h9.lt; omega) (by (try dsimp only); omega)) (hk1 _ h9.lt (by (try dsimp only); omega))
      have hLf := hLf.k (hk1 _ (by have := hLf.lt; omega) (by (try dsimp only); omega)) (hk1 _ hLf.lt (by (try dsimp only); omega))
      have hRt := hRt.k (hk1 _ (by have := hRt.lt; omega) (by (try dsimp only); omega)) (hk1 _ hRt.lt (by (try dsimp only); omega))
      refine lv_aload_n hx hb dX9_findBound_113 rfl (lv_at hl 0 rfl) ?_
      refine pw_get (C := RX9) (T := TX9) (N := 14) hx hb hts hin9 hown hK hO rfl 9 (by decide) lk_64 rfl rfl dX9_findBound_114 ?_
      refine pw_get (C := RX3) (T := TX3) (N := 5) hx hb hts hin3 hown hK hFO rfl 1 (by decide) lk_171 rfl rfl dX9_findBound_117 ?_
      refine lv_aload_n hx hb dX9_findBound_120 rfl (lv_at hl 2 rfl) ?_
      refine pw_get (C := RX7) (T := TX7) (N := 2) hx hb hts hin7 hown hK hR1O rfl 1 (by decide) lk_173 rfl rfl dX9_findBound_121 ?_
      obtain ⟨kx, hVr⟩ := hV.r
      refine pw_callVv (As := [.ref (o0 + 326 + 2 + 16 * 1 + 14)]) (rest := []) ⟨hx, hb, hml, hown, hts⟩ (c_copy l D E (o0 + 566 + 3) 24 (o0 + 326 + 2 + 16 * 1 + 14) 24 (wdig _) kx _ (B 1) (by omega) (by omega) (by omega) hbi.1 hbi.2) (cwV 1 hts gX9_findBound_X8_copy rfl rfl rfl (by decide +kernel) ⟨Nat.le_of_ble_eq_true rfl, Nat.le_of_ble_eq_true rfl⟩) hK hVr.1 rfl ⟨hVr, hR1B⟩ rfl hl.1 rfl (Nat.le_of_ble_eq_true rfl) dX9_findBound_124 ⟨Nat.zero_le _, Nat.zero_le _⟩ hS (fun q h => by (try dsimp only at h); (try dsimp only); omega) (fun H1 locs1 hV hz1 hk1 hS => ?_)
      have hO := hO.k (hk1 _ hO.lt (by (try dsimp only); omega))
      have hM := hM.k (fun q h1 h2 h3 => (hk1 _ h3 (by (try dsimp only); omega)))
      have hMO := hMO.k (hk1 _ hMO.lt (by (try dsimp only); omega))
      have hLO := hLO.k (hk1 _ hLO.lt (by (try dsimp only); omega))
      have hLR := hLR.k (fun q h1 h2 h3 => (hk1 _ h3 (by (try dsimp only); omega)))
      have hLQ := hLQ.k (hk1 _ hLQ.lt (by (try dsimp only); omega))
      have hR1 := hR1.k (fun q h1 h2 h3 => (hk1 _ h3 (by (try dsimp only); omega)))
      have hR1O := hR1O.k (hk1 _ hR1O.lt (by (try dsimp only); omega))
      have hR1Q := hR1Q.k (hk1 _ hR1Q.lt (by (try dsimp only); omega))
      have hR1B := hR1B.k (hk1 _ (by have := hR1B.lt; omega) (by (try dsimp only); omega)) (hk1 _ hR1B.lt (by (try dsimp only); omega))
      have hFO := hFO.k (hk1 _ hFO.lt (by (try dsimp only); omega))
      have hU := hU.k (hk1 _ (by have := hU.lt; omega) (by (try dsimp only); omega)) (hk1 _ hU.lt (by (try dsimp only); omega))
      have h5 := h5.k (hk1 _ (by have := h5.lt; omega) (by (try dsimp only); omega)) (hk1 _ h5.lt (by (try dsimp only); omega))
      have h7 := h7.k (hk1 _ (by have := h7.lt; omega) (by (try dsimp only); omega)) (hk1 _ h7.lt (by (try dsimp only); omega))
      have h9 := h9.k (hk1 _ (by have := h9.lt; omega) (by (try dsimp only); omega)) (hk1 _ h9.lt (by (try dsimp only); omega))
      have hLf := hLf.k (hk1 _ (by have := hLf.lt; omega) (by (try dsimp only); omega)) (hk1 _ hLf.lt (by (try dsimp only); omega))
      have hRt := hRt.k (hk1 _ (by have := hRt.lt; omega) (by (try dsimp only); omega)) (hk1 _ hRt.lt (by (try dsimp only); omega))
      refine lv_aload_n hx hb dX9_findBound_127 rfl (lv_at hl 0 rfl) ?_
      refine pw_get (C := RX9) (T := TX9) (N := 14) hx hb hts hin9 hown hK hO rfl 9 (by decide) lk_64 rfl rfl dX9_findBound_128 ?_
      refine pw_get (C := RX3) (T := TX3) (N := 5) hx hb hts hin3 hown hK hFO rfl 1 (by decide) lk_171 rfl rfl dX9_findBound_131 ?_
      refine lv_aload_n hx hb dX9_findBound_134 rfl (lv_at hl 0 rfl) ?_
      refine pw_get (C := RX9) (T := TX9) (N := 14) hx hb hts hin9 hown hK hO rfl 0 (by decide) lk_10 rfl rfl dX9_findBound_135 ?_
      refine pw_get (C := RX6) (T := TX6) (N := 5) hx hb hts hin6 hown hK hMO rfl 4 (by decide) lk_123 rfl rfl dX9_findBound_138 ?_
      refine lv_aload_n hx hb dX9_findBound_141 rfl (lv_at hl 0 rfl) ?_
      refine pw_get (C := RX9) (T := TX9) (N := 14) hx hb hts hin9 hown hK hO rfl 0 (by decide) lk_10 rfl rfl dX9_findBound_142 ?_
      refine pw_get (C := RX6) (T := TX6) (N := 5) hx hb hts hin6 hown hK hMO rfl 3 (by decide) lk_120 rfl rfl dX9_findBound_145 ?_
      refine pw_isub hx hb dX9_findBound_148 ?_
      refine pw_i2l hx hb dX9_findBound_149 ?_
      refine pw_callVv (As := [.long (lI (((mB σ : Int)) - ((mA σ : Int))))]) (rest := []) ⟨hx, hb, hml, hown, hts⟩ (c_multiply l D E (o0 + 566 + 3) 24 (B 1) ((mB σ : Int) - (mA σ : Int)) (by omega) (by omega) (by omega) ub0i.1 ub0i.2) (cwV 1 hts gX9_findBound_X8_multiply rfl rfl rfl (by decide +kernel) ⟨Nat.le_of_ble_eq_true rfl, Nat.le_of_ble_eq_true rfl⟩) hK hV.o.choose_spec rfl hV rfl hl.1 rfl (Nat.le_of_ble_eq_true rfl) dX9_findBound_150 ⟨Nat.zero_le _, Nat.zero_le _⟩ hS (fun q h => by (try dsimp only at h); (try dsimp only); omega) (fun H1 locs1 hV hz1 hk1 hS => ?_)
      have hO := hO.k (hk1 _ hO.lt (by (try dsimp only); omega))
      have hM := hM.k (fun q h1 h2 h3 => (hk1 _ h3 (by (try dsimp only); omega)))
      have hMO := hMO.k (hk1 _ hMO.lt (by (try dsimp only); omega))
      have hLO := hLO.k (hk1 _ hLO.lt (by (try dsimp only); omega))
      have hLR := hLR.k (fun q h1 h2 h3 => (hk1 _ h3 (by (try dsimp only); omega)))
      have hLQ := hLQ.k (hk1 _ hLQ.lt (by (try dsimp only); omega))
      have hR1 := hR1.k (fun q h1 h2 h3 => (hk1 _ h3 (by (try dsimp only); omega)))
      have hR1O := hR1O.k (hk1 _ hR1O.lt (by (try dsimp only); omega))
      have hR1Q := hR1Q.k (hk1 _ hR1Q.lt (by (try dsimp only); omega))
      have hR1B := hR1B.k (hk1 _ (by have := hR1B.lt; omega) (by (try dsimp only); omega)) (hk1 _ hR1B.lt (by (try dsimp only); omega))
      have hFO := hFO.k (hk1 _ hFO.lt (by (try dsimp only); omega))
      have hU := hU.k (hk1 _ (by have := hU.lt; omega) (by (try dsimp only); omega)) (hk1 _ hU.lt (by (try dsimp only); omega))
      have h5 := h5.k (hk1 _ (by have := h5.lt; omega) (by (try dsimp only); omega)) (hk1 _ h5.lt (by (try dsimp only); omega))
      have h7 := h7.k (hk1 _ (by have := h7.lt; omega) (by (try dsimp only); omega)) (hk1 _ h7.lt (by (try dsimp only); omega))
      have h9 := h9.k (hk1 _ (by have := h9.lt; omega) (by (try dsimp only); omega)) (hk1 _ h9.lt (by (try dsimp only); omega))
      have hLf := hLf.k (hk1 _ (by have := hLf.lt; omega) (by (try dsimp only); omega)) (hk1 _ hLf.lt (by (try dsimp only); omega))
      have hRt := hRt.k (hk1 _ (by have := hRt.lt; omega) (by (try dsimp only); omega)) (hk1 _ hRt.lt (by (try dsimp only); omega))
      refine pw_iconst hx hb dX9_findBound_153 ?_
      refine pw_asi (((0 : Nat) : Int)) rfl ?_
      refine lv_istore_n (lv' := [(3, .int (iI (((0 : Nat) : Int)))), (0, .ref (o0)), (1, .int (iI ((n : Int)))), (2, .ref (o0 + 326 + 2 + 16 * 1))]) hx hb dX9_findBound_154 rfl hl (by decide) rfl (fun ls hl => ?_)
      have e0 : (mxA (V 1) (mN σ) : Int) * (mB σ : Int) * ((mA σ ^ 0 : Nat) : Int) = (mxA (V 1) (mN σ) : Int) * (mB σ : Int) := by rw [Nat.pow_zero]; exact Int.mul_one _
      have e1 : B 1 * ((mB σ : Int) - (mA σ : Int)) * ((mB σ ^ 0 : Nat) : Int) = B 1 * ((mB σ : Int) - (mA σ : Int)) := by rw [Nat.pow_zero]; exact Int.mul_one _
      rw [← e0] at hU
      rw [← e1] at hV
      exact loop2 n 0 _ _ _ _ _ (by omega) hO hM hLO hLR hFO hU hV h5 h7 h9 hLf hRt hS (lv_sub hl [1, 2, 3, 0] rfl)
    | succ kk ih =>
      intro k xr H locs ls hk hO hM hLO hLR hFO hU hV h5 h7 h9 hLf hRt hS hl
      have hvk := (hvi k (by omega)).1
      have hmk : mxA (V 1) (k + 1) = max (mxA (V 1) k) (V 1 k).natAbs := rfl
      have hai := (hvi k (by omega)).2
      have hMO := hM.1
      have hLQ := hLR.1
      have hR1 := hLR.2.1 1 (by omega) (by omega)
      have hR1O := hR1.1
      have hR1Q := hR1.2.1
      have hR1B := hR1.2.2.2
      refine lv_iload_n hx hb dX9_findBound_19 rfl (lv_at hl 3 rfl) ?_
      refine lv_aload_n hx hb dX9_findBound_20 rfl (lv_at hl 0 rfl) ?_
      refine pw_get (C := RX9) (T := TX9) (N := 14) hx hb hts hin9 hown hK hO rfl 0 (by decide) lk_10 rfl rfl dX9_findBound_21 ?_
      refine pw_get (C := RX6) (T := TX6) (N := 5) hx hb hts hin6 hown hK hMO rfl 2 (by decide) lk_85 rfl rfl dX9_findBound_24 ?_
      refine pw_icmp_ge (tgt := 81) hx hb dX9_findBound_27 (by decide) (fun c_27 => absurd c_27 (by omega)) (fun c_27 => ?_)
      refine lv_aload_n hx hb dX9_findBound_30 rfl (lv_at hl 0 rfl) ?_
      refine pw_get (C := RX9) (T := TX9) (N := 14) hx hb hts hin9 hown hK hO rfl 11 (by decide) lk_75 rfl rfl dX9_findBound_31 ?_
      refine lv_aload_n hx hb dX9_findBound_34 rfl (lv_at hl 2 rfl) ?_
      refine pw_get (C := RX7) (T := TX7) (N := 2) hx hb hts hin7 hown hK hR1O rfl 0 (by decide) lk_232 rfl rfl dX9_findBound_35 ?_
      refine lv_iload_n hx hb dX9_findBound_38 rfl (lv_at hl 3 rfl) ?_
      refine pw_qald hx hb hK hR1Q rfl (k) rfl (by omega) (by omega) rfl dX9_findBound_39 ?_
      obtain ⟨kx, hRtr⟩ := hRt.r
      refine pw_callVv (As := [.ref (o0 + 326 + 2 + 16 * 1 + 2 + 2 * k)]) (rest := []) ⟨hx, hb, hml, hown, hts⟩ (c_copy l D E (o0 + 579) 24 (o0 + 326 + 2 + 16 * 1 + 2 + 2 * k) 24 (wdig _) kx _ (V 1 k) (by omega) (by omega) (by omega) hvk.1 hvk.2) (cwV 1 hts gX9_findBound_X8_copy rfl rfl rfl (by decide +kernel) ⟨Nat.le_of_ble_eq_true rfl, Nat.le_of_ble_eq_true rfl⟩) hK hRtr.1 rfl ⟨hRtr, (hR1.2.2.1 k (by omega))⟩ rfl hl.1 rfl (Nat.le_of_ble_eq_true rfl) dX9_findBound_40 ⟨Nat.zero_le _, Nat.zero_le _⟩ hS (fun q h => by (try dsimp only at h); (try dsimp only); omega) (fun H1 locs1 hRt hz1 hk1 hS => ?_)
      have hO := hO.k (hk1 _ hO.lt (by (try dsimp only); omega))
      have hM := hM.k (fun q h1 h2 h3 => (hk1 _ h3 (by (try dsimp only); omega)))
      have hMO := hMO.k (hk1 _ hMO.lt (by (try dsimp only); omega))
      have hLO := hLO.k (hk1 _ hLO.lt (by (try dsimp only); omega))
      have hLR := hLR.k (fun q h1 h2 h3 => (hk1 _ h3 (by (try dsimp only); omega)))
      have hLQ := hLQ.k (hk1 _ hLQ.lt (by (try dsimp only); omega))
      have hR1 := hR1.k (fun q h1 h2 h3 => (hk1 _ h3 (by (try dsimp only); omega)))
      have hR1O := hR1O.k (hk1 _ hR1O.lt (by (try dsimp only); omega))
      have hR1Q := hR1Q.k (hk1 _ hR1Q.lt (by (try dsimp only); omega))
      have hR1B := hR1B.k (hk1 _ (by have := hR1B.lt; omega) (by (try dsimp only); omega)) (hk1 _ hR1B.lt (by (try dsimp only); omega))
      have hFO := hFO.k (hk1 _ hFO.lt (by (try dsimp only); omega))
      have hU := hU.k (hk1 _ (by have := hU.lt; omega) (by (try dsimp only); omega)) (hk1 _ hU.lt (by (try dsimp only); omega))
      have hV := hV.k (hk1 _ (by have := hV.lt; omega) (by (try dsimp only); omega)) (hk1 _ hV.lt (by (try dsimp only); omega))
      have h5 := h5.k (hk1 _ (by have := h5.lt; omega) (by (try dsimp only); omega)) (hk1 _ h5.lt (by (try dsimp only); omega))
      have h7 := h7.k (hk1 _ (by have := h7.lt; omega) (by (try dsimp only); omega)) (hk1 _ h7.lt (by (try dsimp only); omega))
      have h9 := h9.k (hk1 _ (by have := h9.lt; omega) (by (try dsimp only); omega)) (hk1 _ h9.lt (by (try dsimp only); omega))
      have hLf := hLf.k (hk1 _ (by have := hLf.lt; omega) (by (try dsimp only); omega)) (hk1 _ hLf.lt (by (try dsimp only); omega))
      refine lv_aload_n hx hb dX9_findBound_43 rfl (lv_at hl 0 rfl) ?_
      refine pw_get (C := RX9) (T := TX9) (N := 14) hx hb hts hin9 hown hK hO rfl 11 (by decide) lk_75 rfl rfl dX9_findBound_44 ?_
      refine pw_callVv (As := []) (rest := []) ⟨hx, hb, hml, hown, hts⟩ (c_dropSign l D E (o0 + 579) 24 (V 1 k) (by omega)) (cwV 0 hts gX9_findBound_X8_dropSign rfl rfl rfl (by decide +kernel) ⟨Nat.le_of_ble_eq_true rfl, Nat.le_of_ble_eq_true rfl⟩) hK hRt.o.choose_spec rfl hRt rfl hl.1 rfl (Nat.le_of_ble_eq_true rfl) dX9_findBound_47 ⟨Nat.zero_le _, Nat.zero_le _⟩ hS (fun q h => by (try dsimp only at h); (try dsimp only); omega) (fun H1 locs1 hRt hz1 hk1 hS => ?_)
      have hO := hO.k (hk1 _ hO.lt (by (try dsimp only); omega))
      have hM := hM.k (fun q h1 h2 h3 => (hk1 _ h3 (by (try dsimp only); omega)))
      have hMO := hMO.k (hk1 _ hMO.lt (by (try dsimp only); omega))
      have hLO := hLO.k (hk1 _ hLO.lt (by (try dsimp only); omega))
      have hLR := hLR.k (fun q h1 h2 h3 => (hk1 _ h3 (by (try dsimp only); omega)))
      have hLQ := hLQ.k (hk1 _ hLQ.lt (by (try dsimp only); omega))
      have hR1 := hR1.k (fun q h1 h2 h3 => (hk1 _ h3 (by (try dsimp only); omega)))
      have hR1O := hR1O.k (hk1 _ hR1O.lt (by (try dsimp only); omega))
      have hR1Q := hR1Q.k (hk1 _ hR1Q.lt (by (try dsimp only); omega))
      have hR1B := hR1B.k (hk1 _ (by have := hR1B.lt; omega) (by (try dsimp only); omega)) (hk1 _ hR1B.lt (by (try dsimp only); omega))
      have hFO := hFO.k (hk1 _ hFO.lt (by (try dsimp only); omega))
      have hU := hU.k (hk1 _ (by have := hU.lt; omega) (by (try dsimp only); omega)) (hk1 _ hU.lt (by (try dsimp only); omega))
      have hV := hV.k (hk1 _ (by have := hV.lt; omega) (by (try dsimp only); omega)) (hk1 _ hV.lt (by (try dsimp only); omega))
      have h5 := h5.k (hk1 _ (by have := h5.lt; omega) (by (try dsimp only); omega)) (hk1 _ h5.lt (by (try dsimp only); omega))
      have h7 := h7.k (hk1 _ (by have := h7.lt; omega) (by (try dsimp only); omega)) (hk1 _ h7.lt (by (try dsimp only); omega))
      have h9 := h9.k (hk1 _ (by have := h9.lt; omega) (by (try dsimp only); omega)) (hk1 _ h9.lt (by (try dsimp only); omega))
      have hLf := hLf.k (hk1 _ (by have := hLf.lt; omega) (by (try dsimp only); omega)) (hk1 _ hLf.lt (by (try dsimp only); omega))
      refine lv_aload_n hx hb dX9_findBound_50 rfl (lv_at hl 0 rfl) ?_
      refine pw_get (C := RX9) (T := TX9) (N := 14) hx hb hts hin9 hown hK hO rfl 10 (by decide) lk_71 rfl rfl dX9_findBound_51 ?_
      refine lv_aload_n hx hb dX9_findBound_54 rfl (lv_at hl 0 rfl) ?_
      refine pw_get (C := RX9) (T := TX9) (N := 14) hx hb hts hin9 hown hK hO rfl 11 (by decide) lk_75 rfl rfl dX9_findBound_55 ?_
      refine pw_callVi (As := [.ref (o0 + 579)]) (rest := []) ⟨hx, hb, hml, hown, hts⟩ (c_compare l D E (o0 + 577) 24 (o0 + 579) 24 ((mxA (V 1) k : Nat) : Int) ((V 1 k).natAbs : Int) (by omega) (by omega)) (cwV 1 hts gX9_findBound_X8_compare rfl rfl rfl (by decide +kernel) ⟨Nat.le_of_ble_eq_true rfl, Nat.le_of_ble_eq_true rfl⟩) hK hLf.o.choose_spec rfl ⟨hLf, hRt⟩ rfl hl.1 rfl (Nat.le_of_ble_eq_true rfl) dX9_findBound_58 ⟨Nat.zero_le _, Nat.zero_le _⟩ hS (fun q h => h.elim) (fun z H1 locs1 ⟨hz, _⟩ hz1 hk1 hS => ?_)
      have hO := hO.k (hk1 _ hO.lt (fun h => h))
      have hM := hM.k (fun q h1 h2 h3 => (hk1 _ h3 (fun h => h)))
      have hMO := hMO.k (hk1 _ hMO.lt (fun h => h))
      have hLO := hLO.k (hk1 _ hLO.lt (fun h => h))
      have hLR := hLR.k (fun q h1 h2 h3 => (hk1 _ h3 (fun h => h)))
      have hLQ := hLQ.k (hk1 _ hLQ.lt (fun h => h))
      have hR1 := hR1.k (fun q h1 h2 h3 => (hk1 _ h3 (fun h => h)))
      have hR1O := hR1O.k (hk1 _ hR1O.lt (fun h => h))
      have hR1Q := hR1Q.k (hk1 _ hR1Q.lt (fun h => h))
      have hR1B := hR1B.k (hk1 _ (by have := hR1B.lt; omega) (fun h => h)) (hk1 _ hR1B.lt (fun h => h))
      have hFO := hFO.k (hk1 _ hFO.lt (fun h => h))
      have hU := hU.k (hk1 _ (by have := hU.lt; omega) (fun h => h)) (hk1 _ hU.lt (fun h => h))
      have hV := hV.k (hk1 _ (by have := hV.lt; omega) (fun h => h)) (hk1 _ hV.lt (fun h => h))
      have h5 := h5.k (hk1 _ (by have := h5.lt; omega) (fun h => h)) (hk1 _ h5.lt (fun h => h))
      have h7 := h7.k (hk1 _ (by have := h7.lt; omega) (fun h => h)) (hk1 _ h7.lt (fun h => h))
      have h9 := h9.k (hk1 _ (by have := h9.lt; omega) (fun h => h)) (hk1 _ h9.lt (fun h => h))
      have hLf := hLf.k (hk1 _ (by have := hLf.lt; omega) (fun h => h)) (hk1 _ hLf.lt (fun h => h))
      have hRt := hRt.k (hk1 _ (by have := hRt.lt; omega) (fun h => h)) (hk1 _ hRt.lt (fun h => h))
      have hz01 : -1 ≤ z ∧ z ≤ 1 ∧ (z < 0 ↔ ((mxA (V 1) k : Nat) : Int) < ((V 1 k).natAbs : Int)) := by rw [hz]; split; omega; split <;> omega
      refine pw_if_ge (tgt := 75) hx hb dX9_findBound_61 (by decide) (fun c_61 => ?_) (fun c_61 => ?_)
      · refine lv_iinc (v := iI (((k + 1 : Nat) : Int))) (lv' := [(3, .int (iI (((k + 1 : Nat) : Int)))), (0, .ref (o0)), (1, .int (iI ((n : Int)))), (2, .ref (o0 + 326 + 2 + 16 * 1))]) hx hb dX9_findBound_75 hl (k := 3) rfl (by show iI _ + iI _ = _; exact (iI_add _ _).trans (by first | rfl | (congr 1; omega))) (by decide) rfl (fun ls hl => ?_)
        refine lv_goto (tgt := 19) hx hb dX9_findBound_78 (by decide) ?_
        have em : ((mxA (V 1) k : Nat) : Int) = ((mxA (V 1) (k + 1) : Nat) : Int) := by rw [hmk]; omega
        rw [em] at hLf
        exact ih (k + 1) _ _ _ _ (by omega) hO hM hLO hLR hFO hU hV h5 h7 h9 hLf hRt hS (lv_sub hl [1, 2, 3, 0] rfl)
      · refine lv_aload_n hx hb dX9_findBound_64 rfl (lv_at hl 0 rfl) ?_
        refine pw_get (C := RX9) (T := TX9) (N := 14) hx hb hts hin9 hown hK hO rfl 10 (by decide) lk_71 rfl rfl dX9_findBound_65 ?_
        refine lv_aload_n hx hb dX9_findBound_68 rfl (lv_at hl 0 rfl) ?_
        refine pw_get (C := RX9) (T := TX9) (N := 14) hx hb hts hin9 hown hK hO rfl 11 (by decide) lk_75 rfl rfl dX9_findBound_69 ?_
        obtain ⟨kx, hLfr⟩ := hLf.r
        refine pw_callVv (As := [.ref (o0 + 579)]) (rest := []) ⟨hx, hb, hml, hown, hts⟩ (c_copy l D E (o0 + 577) 24 (o0 + 579) 24 (wdig _) kx _ (((V 1 k).natAbs : Int)) (by omega) (by omega) (by omega) hai.1 hai.2) (cwV 1 hts gX9_findBound_X8_copy rfl rfl rfl (by decide +kernel) ⟨Nat.le_of_ble_eq_true rfl, Nat.le_of_ble_eq_true rfl⟩) hK hLfr.1 rfl ⟨hLfr, hRt⟩ rfl hl.1 rfl (Nat.le_of_ble_eq_true rfl) dX9_findBound_72 ⟨Nat.zero_le _, Nat.zero_le _⟩ hS (fun q h => by (try dsimp only at h); (try dsimp only); omega) (fun H1 locs1 hLf hz1 hk1 hS => ?_)
        have hO := hO.k (hk1 _ hO.lt (by (try dsimp only); omega))
        have hM := hM.k (fun q h1 h2 h3 => (hk1 _ h3 (by (try dsimp only); omega)))
        have hMO := hMO.k (hk1 _ hMO.lt (by (try dsimp only); omega))
        have hLO := hLO.k (hk1 _ hLO.lt (by (try dsimp only); omega))
        have hLR := hLR.k (fun q h1 h2 h3 => (hk1 _ h3 (by (try dsimp only); omega)))
        have hLQ := hLQ.k (hk1 _ hLQ.lt (by (try dsimp only); omega))
        have hR1 := hR1.k (fun q h1 h2 h3 => (hk1 _ h3 (by (try dsimp only); omega)))
        have hR1O := hR1O.k (hk1 _ hR1O.lt (by (try dsimp only); omega))
        have hR1Q := hR1Q.k (hk1 _ hR1Q.lt (by (try dsimp only); omega))
        have hR1B := hR1B.k (hk1 _ (by have := hR1B.lt; omega) (by (try dsimp only); omega)) (hk1 _ hR1B.lt (by (try dsimp only); omega))
        have hFO := hFO.k (hk1 _ hFO.lt (by (try dsimp only); omega))
        have hU := hU.k (hk1 _ (by have := hU.lt; omega) (by (try dsimp only); omega)) (hk1 _ hU.lt (by (try dsimp only); omega))
        have hV := hV.k (hk1 _ (by have := hV.lt; omega) (by (try dsimp only); omega)) (hk1 _ hV.lt (by (try dsimp only); omega))
        have h5 := h5.k (hk1 _ (by have := h5.lt; omega) (by (try dsimp only); omega)) (hk1 _ h5.lt (by (try dsimp only); omega))
        have h7 := h7.k (hk1 _ (by have := h7.lt; omega) (by (try dsimp only); omega)) (hk1 _ h7.lt (by (try dsimp only); omega))
        have h9 := h9.k (hk1 _ (by have := h9.lt; omega) (by (try dsimp only); omega)) (hk1 _ h9.lt (by (try dsimp only); omega))
        have hRt := hRt.k (hk1 _ (by have := hRt.lt; omega) (by (try dsimp only); omega)) (hk1 _ hRt.lt (by (try dsimp only); omega))
        refine lv_iinc (v := iI (((k + 1 : Nat) : Int))) (lv' := [(3, .int (iI (((k + 1 : Nat) : Int)))), (0, .ref (o0)), (1, .int (iI ((n : Int)))), (2, .ref (o0 + 326 + 2 + 16 * 1))]) hx hb dX9_findBound_75 hl (k := 3) rfl (by show iI _ + iI _ = _; exact (iI_add _ _).trans (by first | rfl | (congr 1; omega))) (by decide) rfl (fun ls hl => ?_)
        refine lv_goto (tgt := 19) hx hb dX9_findBound_78 (by decide) ?_
        have em : ((V 1 k).natAbs : Int) = ((mxA (V 1) (k + 1) : Nat) : Int) := by rw [hmk]; omega
        rw [em] at hLf
        exact ih (k + 1) _ _ _ _ (by omega) hO hM hLO hLR hFO hU hV h5 h7 h9 hLf hRt hS (lv_sub hl [1, 2, 3, 0] rfl)
  have hMO := hM.1
  have hLQ := hLR.1
  have hR1 := hLR.2.1 1 (by omega) (by omega)
  have hR1O := hR1.1
  have hR1Q := hR1.2.1
  have hR1B := hR1.2.2.2
  refine lv_aload_n hx hb dX9_findBound_0 rfl (lv_at hl 0 rfl) ?_
  refine pw_get (C := RX9) (T := TX9) (N := 14) hx hb hts hin9 hown hK hO rfl 3 (by decide) lk_33 rfl rfl dX9_findBound_1 ?_
  refine pw_get (C := RX5) (T := TX5) (N := 3) hx hb hts hin5 hown hK hLO rfl 0 (by decide) lk_189 rfl rfl dX9_findBound_4 ?_
  refine pw_iconst hx hb dX9_findBound_7 ?_
  refine pw_qald hx hb hK hLQ rfl (1) rfl (by omega) (by omega) rfl dX9_findBound_8 ?_
  refine lv_astore_n (lv' := [(2, .ref (o0 + 326 + 2 + 16 * 1)), (0, .ref (o0)), (1, .int (iI ((n : Int))))]) hx hb dX9_findBound_9 rfl hl (by decide) rfl (fun ls hl => ?_)
  refine lv_aload_n hx hb dX9_findBound_10 rfl (lv_at hl 1 rfl) ?_
  refine pw_get (C := RX9) (T := TX9) (N := 14) hx hb hts hin9 hown hK hO rfl 10 (by decide) lk_71 rfl rfl dX9_findBound_11 ?_
  obtain ⟨kx, hLfr⟩ := hLf.r
  refine pw_callVv (As := []) (rest := []) ⟨hx, hb, hml, hown, hts⟩ (c_clear l D E (o0 + 577) 24 (wdig xl) kx xl.sign (by omega)) (cwV 0 hts gX9_findBound_X8_clear rfl rfl rfl (by decide +kernel) ⟨Nat.le_of_ble_eq_true rfl, Nat.le_of_ble_eq_true rfl⟩) hK hLfr.1 rfl hLfr rfl hl.1 rfl (Nat.le_of_ble_eq_true rfl) dX9_findBound_14 ⟨Nat.zero_le _, Nat.zero_le _⟩ hS (fun q h => by (try dsimp only at h); (try dsimp only); omega) (fun H1 locs1 hLfr hz1 hk1 hS => ?_)
  have hO := hO.k (hk1 _ hO.lt (by (try dsimp only); omega))
  have hM := hM.k (fun q h1 h2 h3 => (hk1 _ h3 (by (try dsimp only); omega)))
  have hMO := hMO.k (hk1 _ hMO.lt (by (try dsimp only); omega))
  have hLO := hLO.k (hk1 _ hLO.lt (by (try dsimp only); omega))
  have hLR := hLR.k (fun q h1 h2 h3 => (hk1 _ h3 (by (try dsimp only); omega)))
  have hLQ := hLQ.k (hk1 _ hLQ.lt (by (try dsimp only); omega))
  have hR1 := hR1.k (fun q h1 h2 h3 => (hk1 _ h3 (by (try dsimp only); omega)))
  have hR1O := hR1O.k (hk1 _ hR1O.lt (by (try dsimp only); omega))
  have hR1Q := hR1Q.k (hk1 _ hR1Q.lt (by (try dsimp only); omega))
  have hR1B := hR1B.k (hk1 _ (by have := hR1B.lt; omega) (by (try dsimp only); omega)) (hk1 _ hR1B.lt (by (try dsimp only); omega))
  have hFO := hFO.k (hk1 _ hFO.lt (by (try dsimp only); omega))
  have hU := hU.k (hk1 _ (by have := hU.lt; omega) (by (try dsimp only); omega)) (hk1 _ hU.lt (by (try dsimp only); omega))
  have hV := hV.k (hk1 _ (by have := hV.lt; omega) (by (try dsimp only); omega)) (hk1 _ hV.lt (by (try dsimp only); omega))
  have h5 := h5.k (hk1 _ (by have := h5.lt; omega) (by (try dsimp only); omega)) (hk1 _ h5.lt (by (try dsimp only); omega))
  have h7 := h7.k (hk1 _ (by have := h7.lt; omega) (by (try dsimp only); omega)) (hk1 _ h7.lt (by (try dsimp only); omega))
  have h9 := h9.k (hk1 _ (by have := h9.lt; omega) (by (try dsimp only); omega)) (hk1 _ h9.lt (by (try dsimp only); omega))
  have hRt := hRt.k (hk1 _ (by have := hRt.lt; omega) (by (try dsimp only); omega)) (hk1 _ hRt.lt (by (try dsimp only); omega))
  have hLf := wh_zero hLfr
  refine pw_iconst hx hb dX9_findBound_17 ?_
  refine pw_asi (((0 : Nat) : Int)) rfl ?_
  refine lv_istore_n (lv' := [(3, .int (iI (((0 : Nat) : Int)))), (2, .ref (o0 + 326 + 2 + 16 * 1)), (0, .ref (o0)), (1, .int (iI ((n : Int))))]) hx hb dX9_findBound_18 rfl hl (by decide) rfl (fun ls hl => ?_)
  exact loop (mN σ) 0 xr _ _ _ (by omega) hO hM hLO hLR hFO hU hV h5 h7 h9 hLf hRt hS (lv_sub hl [2, 3, 1, 0] rfl)
set_option maxHeartbeats 4000000 in
set_option maxRecDepth 100000 in
/-- bound(n, part) -/
theorem c_bound (l : Launch) (D : va_G) (E : Nat → ClassId) (o0 : Nat) (σ : MS) (rn n part : Int) (n1 : -2147483648 ≤ n) (n2 : n ≤ 2147483647) (part1 : -2147483648 ≤ part) (part2 : part ≤ 2147483647) : pw_M rvL l D E yX9_bound wsX9_bound ({ frames := 6, cells := 0, slots := 0, locals := 169 } : Room) [.ref (o0), .int (iI (n)), .int (iI (part))] (fun H => PO D E o0 σ rn H) (fun z H => PO D E o0 σ rn H ∧ ((¬ (rdy σ ∧ 0 ≤ n ∧ n ≤ 8 ∧ -1 ≤ part) ∧ z = (if part = -1 then -2 else -1)) ∨ ((rdy σ ∧ 0 ≤ n ∧ n ≤ 8 ∧ -1 ≤ part) ∧ ∃ x y : Nat, BQ σ x y (mN σ) ∧ z = tellZ ((x : Int) * ((mA σ ^ n.toNat : Nat) : Int) * (mB σ : Int)) ((y : Int) * ((mB σ ^ n.toNat : Nat) : Int) * ((mB σ : Int) - (mA σ : Int))) part))) (fun q => o0 ≤ q ∧ q ≤ o0 + 582) (0) (0) := by
  refine pw_of (cc := cX9_bound) (maxL := 4) (ret := (some .long)) (by decide +kernel) rfl (Nat.le_of_ble_eq_true rfl) ?_
  intro p e s m args below meth c hx hb hr hml hts hown hlocks hini hK ⟨bv, bd, bp, wn, wd, wq, kn, V, B, pk, ⟨hO, hM, hE, hCx, hLD, hRW, hBP, hQ, hWS, hZ, hT, hF, hW1, hW2, hW3⟩, hINV⟩ ls hl
  have hown : s.vm.findClass RX9 = some m.cls := hown
  have hl : lv_has ls 4 [(0, .ref (o0)), (1, .int (iI (n))), (2, .int (iI (part)))] := hl
  have hS : va_S (fun q => o0 ≤ q ∧ q ≤ o0 + 582) s.heap s.heap [] := va_S.rf
  have lk_10 := hts (.fieldLink RX9 10 "PolicyWorks" "model" "LPolicyWorks$Model;") (by decide +kernel)
  have lk_26 := hts (.fieldLink RX9 26 "PolicyWorks" "chooser" "LPolicyWorks$Chooser;") (by decide +kernel)
  have lk_33 := hts (.fieldLink RX9 33 "PolicyWorks" "ladder" "LPolicyWorks$Ladder;") (by decide +kernel)
  have lk_64 := hts (.fieldLink RX9 64 "PolicyWorks" "told" "LPolicyWorks$Fraction;") (by decide +kernel)
  have hin9 : ∀ w ∈ wsX90, w ∈ wsX9_bound := by decide +kernel
  have hMO := hM.1
  have hMC := hM.2.1
  have hMQ := hM.2.2.1
  have hAT : ATS D E (o0 + 1) σ s.heap := hM.2.2.2
  have hLO := hLD.1
  have hLR : LDR D E (o0 + 326) V B pk s.heap := hLD.2
  have hok := hINV.1
  have hrn := hINV.2.1
  have hN6 := hok.1
  have hC4 := hok.2.1
  obtain ⟨fu, fw, fo1, fo2, fo3, hF⟩ := hF
  obtain ⟨gb, gr, vb, sb, vr, sr, hCH⟩ := hCx
  refine lv_iload_n hx hb dX9_bound_0 rfl (lv_at hl 1 rfl) ?_
  refine pw_if_lt (tgt := 19) hx hb dX9_bound_1 (by decide) (fun c_1 => ?_) (fun c_1 => ?_)
  · refine pw_iconst hx hb dX9_bound_19 ?_
    refine lv_istore_n (lv' := [(3, .int (iI (0))), (0, .ref (o0)), (1, .int (iI (n))), (2, .int (iI (part)))]) hx hb dX9_bound_20 rfl hl (by decide) rfl (fun ls hl => ?_)
    refine lv_iload_n hx hb dX9_bound_21 rfl (lv_at hl 0 rfl) ?_
    refine pw_if_eq (tgt := 35) hx hb dX9_bound_22 (by decide) (fun c_22 => ?_) (fun c_22 => absurd c_22 (by omega))
    refine lv_iload_n hx hb dX9_bound_35 rfl (lv_at hl 3 rfl) ?_
    refine pw_callSl (As := [.int (iI (part))]) (rest := []) ⟨hx, hb, hml, hown, hts⟩ (c_refusal l D E part part1 part2) (va_cwS 1 hts gX9_bound_X9_refusal rfl rfl rfl (by decide +kernel) ⟨Nat.le_of_ble_eq_true rfl, Nat.le_of_ble_eq_true rfl⟩) hK trivial rfl hl.1 rfl (Nat.le_of_ble_eq_true rfl) dX9_bound_36 ⟨Nat.zero_le _, Nat.zero_le _⟩ hS (fun q h => h.elim) (fun zn H1 locs1 hzn hz1 hk1 hS => ?_)
    have hO := hO.k (hk1 _ hO.lt (fun h => h))
    have hM := hM.k (fun q h1 h2 h3 => (hk1 _ h3 (fun h => h)))
    have hMO := hMO.k (hk1 _ hMO.lt (fun h => h))
    have hMC := hMC.k (hk1 _ hMC.lt (fun h => h))
    have hMQ := hMQ.k (hk1 _ hMQ.lt (fun h => h))
    have hAT := hAT.k (fun q h1 h2 h3 => (hk1 _ h3 (fun h => h)))
    have hE := hE.k (fun q h1 h2 h3 => (hk1 _ h3 (fun h => h)))
    have hCH := hCH.k (fun q h1 h2 h3 => (hk1 _ h3 (fun h => h)))
    have hLO := hLO.k (hk1 _ hLO.lt (fun h => h))
    have hLR := hLR.k (fun q h1 h2 h3 => (hk1 _ h3 (fun h => h)))
    have hRW := hRW.k (fun q h1 h2 h3 => (hk1 _ h3 (fun h => h)))
    have hBP := hBP.k (hk1 _ hBP.lt (fun h => h))
    have hQ := hQ.k (hk1 _ hQ.lt (fun h => h))
    have hWS := hWS.k (fun q h1 h2 h3 => (hk1 _ h3 (fun h => h)))
    have hZ := hZ.k (hk1 _ hZ.lt (fun h => h))
    have hT := hT.k (fun q h1 h2 h3 => (hk1 _ h3 (fun h => h)))
    have hW1 := hW1.k (fun q h1 h2 h3 => (hk1 _ h3 (fun h => h)))
    have hW2 := hW2.k (fun q h1 h2 h3 => (hk1 _ h3 (fun h => h)))
    have hW3 := hW3.k (fun q h1 h2 h3 => (hk1 _ h3 (fun h => h)))
    have hF := hF.k (fun q h1 h2 h3 => (hk1 _ h3 (fun h => h)))
    subst hzn
    exact pw_lret hx hb hr hlocks hS ⟨⟨bv, bd, bp, wn, wd, wq, kn, V, B, pk, ⟨hO, hM, hE, ⟨_, _, _, _, _, _, hCH⟩, ⟨hLO, hLR⟩, hRW, hBP, hQ, hWS, hZ, hT, ⟨_, _, _, _, _, hF⟩, hW1, hW2, hW3⟩, hINV⟩, Or.inl ⟨fun h => by omega, rfl⟩⟩ dX9_bound_39
  · refine lv_iload_n hx hb dX9_bound_4 rfl (lv_at hl 1 rfl) ?_
    refine pw_bipush hx hb dX9_bound_5 ?_
    refine pw_icmp_gt (tgt := 19) hx hb dX9_bound_7 (by decide) (fun c_7 => ?_) (fun c_7 => ?_)
    · refine pw_iconst hx hb dX9_bound_19 ?_
      refine lv_istore_n (lv' := [(3, .int (iI (0))), (0, .ref (o0)), (1, .int (iI (n))), (2, .int (iI (part)))]) hx hb dX9_bound_20 rfl hl (by decide) rfl (fun ls hl => ?_)
      refine lv_iload_n hx hb dX9_bound_21 rfl (lv_at hl 0 rfl) ?_
      refine pw_if_eq (tgt := 35) hx hb dX9_bound_22 (by decide) (fun c_22 => ?_) (fun c_22 => absurd c_22 (by omega))
      refine lv_iload_n hx hb dX9_bound_35 rfl (lv_at hl 3 rfl) ?_
      refine pw_callSl (As := [.int (iI (part))]) (rest := []) ⟨hx, hb, hml, hown, hts⟩ (c_refusal l D E part part1 part2) (va_cwS 1 hts gX9_bound_X9_refusal rfl rfl rfl (by decide +kernel) ⟨Nat.le_of_ble_eq_true rfl, Nat.le_of_ble_eq_true rfl⟩) hK trivial rfl hl.1 rfl (Nat.le_of_ble_eq_true rfl) dX9_bound_36 ⟨Nat.zero_le _, Nat.zero_le _⟩ hS (fun q h => h.elim) (fun zn H1 locs1 hzn hz1 hk1 hS => ?_)
      have hO := hO.k (hk1 _ hO.lt (fun h => h))
      have hM := hM.k (fun q h1 h2 h3 => (hk1 _ h3 (fun h => h)))
      have hMO := hMO.k (hk1 _ hMO.lt (fun h => h))
      have hMC := hMC.k (hk1 _ hMC.lt (fun h => h))
      have hMQ := hMQ.k (hk1 _ hMQ.lt (fun h => h))
      have hAT := hAT.k (fun q h1 h2 h3 => (hk1 _ h3 (fun h => h)))
      have hE := hE.k (fun q h1 h2 h3 => (hk1 _ h3 (fun h => h)))
      have hCH := hCH.k (fun q h1 h2 h3 => (hk1 _ h3 (fun h => h)))
      have hLO := hLO.k (hk1 _ hLO.lt (fun h => h))
      have hLR := hLR.k (fun q h1 h2 h3 => (hk1 _ h3 (fun h => h)))
      have hRW := hRW.k (fun q h1 h2 h3 => (hk1 _ h3 (fun h => h)))
      have hBP := hBP.k (hk1 _ hBP.lt (fun h => h))
      have hQ := hQ.k (hk1 _ hQ.lt (fun h => h))
      have hWS := hWS.k (fun q h1 h2 h3 => (hk1 _ h3 (fun h => h)))
      have hZ := hZ.k (hk1 _ hZ.lt (fun h => h))
      have hT := hT.k (fun q h1 h2 h3 => (hk1 _ h3 (fun h => h)))
      have hW1 := hW1.k (fun q h1 h2 h3 => (hk1 _ h3 (fun h => h)))
      have hW2 := hW2.k (fun q h1 h2 h3 => (hk1 _ h3 (fun h => h)))
      have hW3 := hW3.k (fun q h1 h2 h3 => (hk1 _ h3 (fun h => h)))
      have hF := hF.k (fun q h1 h2 h3 => (hk1 _ h3 (fun h => h)))
      subst hzn
      exact pw_lret hx hb hr hlocks hS ⟨⟨bv, bd, bp, wn, wd, wq, kn, V, B, pk, ⟨hO, hM, hE, ⟨_, _, _, _, _, _, hCH⟩, ⟨hLO, hLR⟩, hRW, hBP, hQ, hWS, hZ, hT, ⟨_, _, _, _, _, hF⟩, hW1, hW2, hW3⟩, hINV⟩, Or.inl ⟨fun h => by omega, rfl⟩⟩ dX9_bound_39
    · refine lv_iload_n hx hb dX9_bound_10 rfl (lv_at hl 2 rfl) ?_
      refine pw_iconst hx hb dX9_bound_11 ?_
      refine pw_icmp_lt (tgt := 19) hx hb dX9_bound_12 (by decide) (fun c_12 => ?_) (fun c_12 => ?_)
      · refine pw_iconst hx hb dX9_bound_19 ?_
        refine lv_istore_n (lv' := [(3, .int (iI (0))), (0, .ref (o0)), (1, .int (iI (n))), (2, .int (iI (part)))]) hx hb dX9_bound_20 rfl hl (by decide) rfl (fun ls hl => ?_)
        refine lv_iload_n hx hb dX9_bound_21 rfl (lv_at hl 0 rfl) ?_
        refine pw_if_eq (tgt := 35) hx hb dX9_bound_22 (by decide) (fun c_22 => ?_) (fun c_22 => absurd c_22 (by omega))
        refine lv_iload_n hx hb dX9_bound_35 rfl (lv_at hl 3 rfl) ?_
        refine pw_callSl (As := [.int (iI (part))]) (rest := []) ⟨hx, hb, hml, hown, hts⟩ (c_refusal l D E part part1 part2) (va_cwS 1 hts gX9_bound_X9_refusal rfl rfl rfl (by decide +kernel) ⟨Nat.le_of_ble_eq_true rfl, Nat.le_of_ble_eq_true rfl⟩) hK trivial rfl hl.1 rfl (Nat.le_of_ble_eq_true rfl) dX9_bound_36 ⟨Nat.zero_le _, Nat.zero_le _⟩ hS (fun q h => h.elim) (fun zn H1 locs1 hzn hz1 hk1 hS => ?_)
        have hO := hO.k (hk1 _ hO.lt (fun h => h))
        have hM := hM.k (fun q h1 h2 h3 => (hk1 _ h3 (fun h => h)))
        have hMO := hMO.k (hk1 _ hMO.lt (fun h => h))
        have hMC := hMC.k (hk1 _ hMC.lt (fun h => h))
        have hMQ := hMQ.k (hk1 _ hMQ.lt (fun h => h))
        have hAT := hAT.k (fun q h1 h2 h3 => (hk1 _ h3 (fun h => h)))
        have hE := hE.k (fun q h1 h2 h3 => (hk1 _ h3 (fun h => h)))
        have hCH := hCH.k (fun q h1 h2 h3 => (hk1 _ h3 (fun h => h)))
        have hLO := hLO.k (hk1 _ hLO.lt (fun h => h))
        have hLR := hLR.k (fun q h1 h2 h3 => (hk1 _ h3 (fun h => h)))
        have hRW := hRW.k (fun q h1 h2 h3 => (hk1 _ h3 (fun h => h)))
        have hBP := hBP.k (hk1 _ hBP.lt (fun h => h))
        have hQ := hQ.k (hk1 _ hQ.lt (fun h => h))
        have hWS := hWS.k (fun q h1 h2 h3 => (hk1 _ h3 (fun h => h)))
        have hZ := hZ.k (hk1 _ hZ.lt (fun h => h))
        have hT := hT.k (fun q h1 h2 h3 => (hk1 _ h3 (fun h => h)))
        have hW1 := hW1.k (fun q h1 h2 h3 => (hk1 _ h3 (fun h => h)))
        have hW2 := hW2.k (fun q h1 h2 h3 => (hk1 _ h3 (fun h => h)))
        have hW3 := hW3.k (fun q h1 h2 h3 => (hk1 _ h3 (fun h => h)))
        have hF := hF.k (fun q h1 h2 h3 => (hk1 _ h3 (fun h => h)))
        subst hzn
        exact pw_lret hx hb hr hlocks hS ⟨⟨bv, bd, bp, wn, wd, wq, kn, V, B, pk, ⟨hO, hM, hE, ⟨_, _, _, _, _, _, hCH⟩, ⟨hLO, hLR⟩, hRW, hBP, hQ, hWS, hZ, hT, ⟨_, _, _, _, _, hF⟩, hW1, hW2, hW3⟩, hINV⟩, Or.inl ⟨fun h => by omega, rfl⟩⟩ dX9_bound_39
      · refine pw_iconst hx hb dX9_bound_15 ?_
        refine lv_goto (tgt := 20) hx hb dX9_bound_16 (by decide) ?_
        refine lv_istore_n (lv' := [(3, .int (iI (1))), (0, .ref (o0)), (1, .int (iI (n))), (2, .int (iI (part)))]) hx hb dX9_bound_20 rfl hl (by decide) rfl (fun ls hl => ?_)
        refine lv_iload_n hx hb dX9_bound_21 rfl (lv_at hl 0 rfl) ?_
        refine pw_if_eq (tgt := 35) hx hb dX9_bound_22 (by decide) (fun c_22 => absurd c_22 (by omega)) (fun c_22 => ?_)
        refine lv_aload_n hx hb dX9_bound_25 rfl (lv_at hl 1 rfl) ?_
        refine pw_get (C := RX9) (T := TX9) (N := 14) hx hb hts hin9 hown hK hO rfl 0 (by decide) lk_10 rfl rfl dX9_bound_26 ?_
        refine pw_callVi (As := []) (rest := []) ⟨hx, hb, hml, hown, hts⟩ (c_allReady l D E (o0 + 1) σ hok) (cwV 0 hts gX9_bound_X6_allReady rfl rfl rfl (by decide +kernel) ⟨Nat.le_of_ble_eq_true rfl, Nat.le_of_ble_eq_true rfl⟩) hK hMO rfl hM rfl hl.1 rfl (Nat.le_of_ble_eq_true rfl) dX9_bound_29 ⟨Nat.zero_le _, Nat.zero_le _⟩ hS (fun q h => h.elim) (fun zy H1 locs1 ⟨hy01, hyr⟩ hz1 hk1 hS => ?_)
        have hO := hO.k (hk1 _ hO.lt (fun h => h))
        have hM := hM.k (fun q h1 h2 h3 => (hk1 _ h3 (fun h => h)))
        have hMO := hMO.k (hk1 _ hMO.lt (fun h => h))
        have hMC := hMC.k (hk1 _ hMC.lt (fun h => h))
        have hMQ := hMQ.k (hk1 _ hMQ.lt (fun h => h))
        have hAT := hAT.k (fun q h1 h2 h3 => (hk1 _ h3 (fun h => h)))
        have hE := hE.k (fun q h1 h2 h3 => (hk1 _ h3 (fun h => h)))
        have hCH := hCH.k (fun q h1 h2 h3 => (hk1 _ h3 (fun h => h)))
        have hLO := hLO.k (hk1 _ hLO.lt (fun h => h))
        have hLR := hLR.k (fun q h1 h2 h3 => (hk1 _ h3 (fun h => h)))
        have hRW := hRW.k (fun q h1 h2 h3 => (hk1 _ h3 (fun h => h)))
        have hBP := hBP.k (hk1 _ hBP.lt (fun h => h))
        have hQ := hQ.k (hk1 _ hQ.lt (fun h => h))
        have hWS := hWS.k (fun q h1 h2 h3 => (hk1 _ h3 (fun h => h)))
        have hZ := hZ.k (hk1 _ hZ.lt (fun h => h))
        have hT := hT.k (fun q h1 h2 h3 => (hk1 _ h3 (fun h => h)))
        have hW1 := hW1.k (fun q h1 h2 h3 => (hk1 _ h3 (fun h => h)))
        have hW2 := hW2.k (fun q h1 h2 h3 => (hk1 _ h3 (fun h => h)))
        have hW3 := hW3.k (fun q h1 h2 h3 => (hk1 _ h3 (fun h => h)))
        have hF := hF.k (fun q h1 h2 h3 => (hk1 _ h3 (fun h => h)))
        refine pw_if_ne (tgt := 40) hx hb dX9_bound_32 (by decide) (fun c_32 => ?_) (fun c_32 => ?_)
        · have hrd := hyr.mp (by omega)
          refine lv_aload_n hx hb dX9_bound_40 rfl (lv_at hl 1 rfl) ?_
          refine pw_get (C := RX9) (T := TX9) (N := 14) hx hb hts hin9 hown hK hO rfl 3 (by decide) lk_33 rfl rfl dX9_bound_41 ?_
          refine lv_aload_n hx hb dX9_bound_44 rfl (lv_at hl 1 rfl) ?_
          refine pw_get (C := RX9) (T := TX9) (N := 14) hx hb hts hin9 hown hK hO rfl 0 (by decide) lk_10 rfl rfl dX9_bound_45 ?_
          refine lv_aload_n hx hb dX9_bound_48 rfl (lv_at hl 1 rfl) ?_
          refine pw_get (C := RX9) (T := TX9) (N := 14) hx hb hts hin9 hown hK hO rfl 2 (by decide) lk_26 rfl rfl dX9_bound_49 ?_
          refine pw_iconst hx hb dX9_bound_52 ?_
          refine pw_asi (((1 : Nat) : Int)) rfl ?_
          refine pw_callVv (As := [.ref (o0 + 1), .ref (o0 + 317), .int (iI (((1 : Nat) : Int)))]) (rest := []) ⟨hx, hb, hml, hown, hts⟩ (c_climb l D E (o0 + 326) (o0 + 1) (o0 + 317) gb gr (1) kn σ vb sb vr sr V B pk hok hrd (by omega) hINV.2.2.2.2 (by omega) (by omega) (by omega)) (cwV 3 hts gX9_bound_X5_climb rfl rfl rfl (by decide +kernel) ⟨Nat.le_of_ble_eq_true rfl, Nat.le_of_ble_eq_true rfl⟩) hK hLO rfl ⟨⟨hLO, hLR⟩, hM, hCH⟩ rfl hl.1 rfl (Nat.le_of_ble_eq_true rfl) dX9_bound_53 ⟨Nat.zero_le _, Nat.zero_le _⟩ hS (fun q h => by (try dsimp only at h); (try dsimp only); omega) (fun H1 locs1 ⟨gb, gr, vb, sb, vr, sr, kn, V, B, pk, hCH, hLD, hLV, hkn⟩ hz1 hk1 hS => ?_)
          have hO := hO.k (hk1 _ hO.lt (by (try dsimp only); omega))
          have hM := hM.k (fun q h1 h2 h3 => (hk1 _ h3 (by (try dsimp only); omega)))
          have hMO := hMO.k (hk1 _ hMO.lt (by (try dsimp only); omega))
          have hMC := hMC.k (hk1 _ hMC.lt (by (try dsimp only); omega))
          have hMQ := hMQ.k (hk1 _ hMQ.lt (by (try dsimp only); omega))
          have hAT := hAT.k (fun q h1 h2 h3 => (hk1 _ h3 (by (try dsimp only); omega)))
          have hE := hE.k (fun q h1 h2 h3 => (hk1 _ h3 (by (try dsimp only); omega)))
          have hRW := hRW.k (fun q h1 h2 h3 => (hk1 _ h3 (by (try dsimp only); omega)))
          have hBP := hBP.k (hk1 _ hBP.lt (by (try dsimp only); omega))
          have hQ := hQ.k (hk1 _ hQ.lt (by (try dsimp only); omega))
          have hWS := hWS.k (fun q h1 h2 h3 => (hk1 _ h3 (by (try dsimp only); omega)))
          have hZ := hZ.k (hk1 _ hZ.lt (by (try dsimp only); omega))
          have hT := hT.k (fun q h1 h2 h3 => (hk1 _ h3 (by (try dsimp only); omega)))
          have hW1 := hW1.k (fun q h1 h2 h3 => (hk1 _ h3 (by (try dsimp only); omega)))
          have hW2 := hW2.k (fun q h1 h2 h3 => (hk1 _ h3 (by (try dsimp only); omega)))
          have hW3 := hW3.k (fun q h1 h2 h3 => (hk1 _ h3 (by (try dsimp only); omega)))
          have hF := hF.k (fun q h1 h2 h3 => (hk1 _ h3 (by (try dsimp only); omega)))
          have hLO := hLD.1
          have hLR : LDR D E (o0 + 326) V B pk _ := hLD.2
          clear hLD
          have hLQ := hLR.1
          have hPQ := hLR.2.2.1
          refine lv_aload_n hx hb dX9_bound_56 rfl (lv_at hl 1 rfl) ?_
          refine lv_iload_n hx hb dX9_bound_57 rfl (lv_at hl 2 rfl) ?_
          refine pw_asi (((n.toNat : Nat) : Int)) (by omega) ?_
          refine pw_callVv (As := [.int (iI (((n.toNat : Nat) : Int)))]) (rest := []) ⟨hx, hb, hml, hown, hts⟩ (c_findBound l D E o0 n.toNat kn σ rn V B pk fu fw fo1 fo2 fo3 (by omega) hok hLV (by omega)) (cwV 1 hts gX9_bound_X9_findBound rfl rfl rfl (by decide +kernel) ⟨Nat.le_of_ble_eq_true rfl, Nat.le_of_ble_eq_true rfl⟩) hK hO rfl ⟨hO, hM, ⟨hLO, hLR⟩, hF, hW1, hW2⟩ rfl hl.1 rfl (Nat.le_of_ble_eq_true rfl) dX9_bound_58 ⟨Nat.zero_le _, Nat.zero_le _⟩ hS (fun q h => by (try dsimp only at h); (try dsimp only); omega) (fun H1 locs1 ⟨hF, hW1, hW2⟩ hz1 hk1 hS => ?_)
          have hO := hO.k (hk1 _ hO.lt (by (try dsimp only); omega))
          have hM := hM.k (fun q h1 h2 h3 => (hk1 _ h3 (by (try dsimp only); omega)))
          have hMO := hMO.k (hk1 _ hMO.lt (by (try dsimp only); omega))
          have hMC := hMC.k (hk1 _ hMC.lt (by (try dsimp only); omega))
          have hMQ := hMQ.k (hk1 _ hMQ.lt (by (try dsimp only); omega))
          have hAT := hAT.k (fun q h1 h2 h3 => (hk1 _ h3 (by (try dsimp only); omega)))
          have hE := hE.k (fun q h1 h2 h3 => (hk1 _ h3 (by (try dsimp only); omega)))
          have hCH := hCH.k (fun q h1 h2 h3 => (hk1 _ h3 (by (try dsimp only); omega)))
          have hLO := hLO.k (hk1 _ hLO.lt (by (try dsimp only); omega))
          have hLR := hLR.k (fun q h1 h2 h3 => (hk1 _ h3 (by (try dsimp only); omega)))
          have hRW := hRW.k (fun q h1 h2 h3 => (hk1 _ h3 (by (try dsimp only); omega)))
          have hBP := hBP.k (hk1 _ hBP.lt (by (try dsimp only); omega))
          have hQ := hQ.k (hk1 _ hQ.lt (by (try dsimp only); omega))
          have hWS := hWS.k (fun q h1 h2 h3 => (hk1 _ h3 (by (try dsimp only); omega)))
          have hZ := hZ.k (hk1 _ hZ.lt (by (try dsimp only); omega))
          have hT := hT.k (fun q h1 h2 h3 => (hk1 _ h3 (by (try dsimp only); omega)))
          have hW3 := hW3.k (fun q h1 h2 h3 => (hk1 _ h3 (by (try dsimp only); omega)))
          have hLQ := hLQ.k (hk1 _ hLQ.lt (by (try dsimp only); omega))
          have hPQ := hPQ.k (hk1 _ hPQ.lt (by (try dsimp only); omega))
          have hb1 : 0 < B 1 := (hLV.gs hN6 1 (by omega)).pos
          have hw0 : 0 < B 1 * ((mB σ : Int) - (mA σ : Int)) * ((mB σ ^ n.toNat : Nat) : Int) := Int.mul_pos (Int.mul_pos hb1 (by have := hok.2.2.2.1; omega)) (by have : 0 < mB σ ^ n.toNat := Nat.pow_pos (by have := hok.2.2.2.1; omega); omega)
          refine lv_aload_n hx hb dX9_bound_61 rfl (lv_at hl 1 rfl) ?_
          refine pw_get (C := RX9) (T := TX9) (N := 14) hx hb hts hin9 hown hK hO rfl 9 (by decide) lk_64 rfl rfl dX9_bound_62 ?_
          refine lv_iload_n hx hb dX9_bound_65 rfl (lv_at hl 3 rfl) ?_
          refine pw_callVl (As := [.int (iI (part))]) (rest := []) ⟨hx, hb, hml, hown, hts⟩ (c_tell l D E (o0 + 566) ((mxA (V 1) (mN σ) : Int) * (mB σ : Int) * ((mA σ ^ n.toNat : Nat) : Int)) (B 1 * ((mB σ : Int) - (mA σ : Int)) * ((mB σ ^ n.toNat : Nat) : Int)) _ _ _ part hw0 (by omega) part2) (cwV 1 hts gX9_bound_X3_tell rfl rfl rfl (by decide +kernel) ⟨Nat.le_of_ble_eq_true rfl, Nat.le_of_ble_eq_true rfl⟩) hK hF.1 rfl hF rfl hl.1 rfl (Nat.le_of_ble_eq_true rfl) dX9_bound_66 ⟨Nat.zero_le _, Nat.zero_le _⟩ hS (fun q h => by (try dsimp only at h); (try dsimp only); omega) (fun zt H1 locs1 ⟨hzt, fu, fw, fo1, fo2, fo3, hF⟩ hz1 hk1 hS => ?_)
          have hO := hO.k (hk1 _ hO.lt (by (try dsimp only); omega))
          have hM := hM.k (fun q h1 h2 h3 => (hk1 _ h3 (by (try dsimp only); omega)))
          have hMO := hMO.k (hk1 _ hMO.lt (by (try dsimp only); omega))
          have hMC := hMC.k (hk1 _ hMC.lt (by (try dsimp only); omega))
          have hMQ := hMQ.k (hk1 _ hMQ.lt (by (try dsimp only); omega))
          have hAT := hAT.k (fun q h1 h2 h3 => (hk1 _ h3 (by (try dsimp only); omega)))
          have hE := hE.k (fun q h1 h2 h3 => (hk1 _ h3 (by (try dsimp only); omega)))
          have hCH := hCH.k (fun q h1 h2 h3 => (hk1 _ h3 (by (try dsimp only); omega)))
          have hLO := hLO.k (hk1 _ hLO.lt (by (try dsimp only); omega))
          have hLR := hLR.k (fun q h1 h2 h3 => (hk1 _ h3 (by (try dsimp only); omega)))
          have hRW := hRW.k (fun q h1 h2 h3 => (hk1 _ h3 (by (try dsimp only); omega)))
          have hBP := hBP.k (hk1 _ hBP.lt (by (try dsimp only); omega))
          have hQ := hQ.k (hk1 _ hQ.lt (by (try dsimp only); omega))
          have hWS := hWS.k (fun q h1 h2 h3 => (hk1 _ h3 (by (try dsimp only); omega)))
          have hZ := hZ.k (hk1 _ hZ.lt (by (try dsimp only); omega))
          have hT := hT.k (fun q h1 h2 h3 => (hk1 _ h3 (by (try dsimp only); omega)))
          have hW1 := hW1.k (fun q h1 h2 h3 => (hk1 _ h3 (by (try dsimp only); omega)))
          have hW2 := hW2.k (fun q h1 h2 h3 => (hk1 _ h3 (by (try dsimp only); omega)))
          have hW3 := hW3.k (fun q h1 h2 h3 => (hk1 _ h3 (by (try dsimp only); omega)))
          have hLQ := hLQ.k (hk1 _ hLQ.lt (by (try dsimp only); omega))
          have hPQ := hPQ.k (hk1 _ hPQ.lt (by (try dsimp only); omega))
          refine pw_lret hx hb hr hlocks hS ⟨⟨bv, bd, bp, wn, wd, wq, kn, V, B, pk, ⟨hO, hM, hE, ⟨_, _, _, _, _, _, hCH⟩, ⟨hLO, hLR⟩, hRW, hBP, hQ, hWS, hZ, hT, ⟨_, _, _, _, _, hF⟩, hW1, hW2, hW3⟩, ⟨hok, hrn, hINV.2.2.1, hINV.2.2.2.1, hLV⟩⟩, Or.inr ⟨⟨hrd, by omega, by omega, by omega⟩, mxA (V 1) (mN σ), (B 1).natAbs, bq_lv hok hrd hLV (by omega), ?_⟩⟩ dX9_bound_69
          rw [hzt, Int.natAbs_of_nonneg (Int.le_of_lt hb1)]
          rw [Int.mul_right_comm (mxA (V 1) (mN σ) : Int), Int.mul_right_comm (B 1)]
        · refine lv_iload_n hx hb dX9_bound_35 rfl (lv_at hl 3 rfl) ?_
          refine pw_callSl (As := [.int (iI (part))]) (rest := []) ⟨hx, hb, hml, hown, hts⟩ (c_refusal l D E part part1 part2) (va_cwS 1 hts gX9_bound_X9_refusal rfl rfl rfl (by decide +kernel) ⟨Nat.le_of_ble_eq_true rfl, Nat.le_of_ble_eq_true rfl⟩) hK trivial rfl hl.1 rfl (Nat.le_of_ble_eq_true rfl) dX9_bound_36 ⟨Nat.zero_le _, Nat.zero_le _⟩ hS (fun q h => h.elim) (fun zn H1 locs1 hzn hz1 hk1 hS => ?_)
          have hO := hO.k (hk1 _ hO.lt (fun h => h))
          have hM := hM.k (fun q h1 h2 h3 => (hk1 _ h3 (fun h => h)))
          have hMO := hMO.k (hk1 _ hMO.lt (fun h => h))
          have hMC := hMC.k (hk1 _ hMC.lt (fun h => h))
          have hMQ := hMQ.k (hk1 _ hMQ.lt (fun h => h))
          have hAT := hAT.k (fun q h1 h2 h3 => (hk1 _ h3 (fun h => h)))
          have hE := hE.k (fun q h1 h2 h3 => (hk1 _ h3 (fun h => h)))
          have hCH := hCH.k (fun q h1 h2 h3 => (hk1 _ h3 (fun h => h)))
          have hLO := hLO.k (hk1 _ hLO.lt (fun h => h))
          have hLR := hLR.k (fun q h1 h2 h3 => (hk1 _ h3 (fun h => h)))
          have hRW := hRW.k (fun q h1 h2 h3 => (hk1 _ h3 (fun h => h)))
          have hBP := hBP.k (hk1 _ hBP.lt (fun h => h))
          have hQ := hQ.k (hk1 _ hQ.lt (fun h => h))
          have hWS := hWS.k (fun q h1 h2 h3 => (hk1 _ h3 (fun h => h)))
          have hZ := hZ.k (hk1 _ hZ.lt (fun h => h))
          have hT := hT.k (fun q h1 h2 h3 => (hk1 _ h3 (fun h => h)))
          have hW1 := hW1.k (fun q h1 h2 h3 => (hk1 _ h3 (fun h => h)))
          have hW2 := hW2.k (fun q h1 h2 h3 => (hk1 _ h3 (fun h => h)))
          have hW3 := hW3.k (fun q h1 h2 h3 => (hk1 _ h3 (fun h => h)))
          have hF := hF.k (fun q h1 h2 h3 => (hk1 _ h3 (fun h => h)))
          subst hzn
          exact pw_lret hx hb hr hlocks hS ⟨⟨bv, bd, bp, wn, wd, wq, kn, V, B, pk, ⟨hO, hM, hE, ⟨_, _, _, _, _, _, hCH⟩, ⟨hLO, hLR⟩, hRW, hBP, hQ, hWS, hZ, hT, ⟨_, _, _, _, _, hF⟩, hW1, hW2, hW3⟩, hINV⟩, Or.inl ⟨fun h => absurd (hyr.mpr h.1) (by omega), rfl⟩⟩ dX9_bound_39
