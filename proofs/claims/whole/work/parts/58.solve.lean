/-! solve -/
theorem seq_next {σ : MS} {sq : Nat → Nat → Nat} {j : Nat} {v : Nat → Int} {b : Int} (h : seqOK σ sq j) (hp : PV σ (sq j) v b) : seqOK σ (fun i => if i = j + 1 then npol σ (sq j) v b else sq i) (j + 1) ∧ (∀ i, i < j → (chg σ (fun i => if i = j + 1 then npol σ (sq j) v b else sq i) i ↔ chg σ sq i)) ∧ (chg σ (fun i => if i = j + 1 then npol σ (sq j) v b else sq i) j ↔ ∃ s, s < mN σ ∧ npol σ (sq j) v b s ≠ sq j s) := by
  refine ⟨⟨fun s hs => ?_, fun i hi => ?_⟩, fun i hi => ?_, ?_⟩
  · show (if 0 = j + 1 then _ else sq 0) s = 0
    rw [if_neg (by omega)]
    exact h.1 s hs
  · by_cases e : i = j
    · subst e
      refine ⟨v, b, ?_, fun s hs => ?_⟩
      · show PV σ (if i = i + 1 then _ else sq i) v b
        rw [if_neg (by omega)]
        exact hp
      · show (if i + 1 = i + 1 then _ else sq (i + 1)) s = npol σ (if i = i + 1 then _ else sq i) v b s
        rw [if_pos rfl, if_neg (by omega)]
    · obtain ⟨v1, b1, h1, h2⟩ := h.2 i (by omega)
      refine ⟨v1, b1, ?_, fun s hs => ?_⟩
      · show PV σ (if i = j + 1 then _ else sq i) v1 b1
        rw [if_neg (by omega)]
        exact h1
      · show (if i + 1 = j + 1 then _ else sq (i + 1)) s = npol σ (if i = j + 1 then _ else sq i) v1 b1 s
        rw [if_neg (by omega), if_neg (by omega)]
        exact h2 s hs
  · unfold chg
    show (∃ s, s < mN σ ∧ (if i + 1 = j + 1 then _ else sq (i + 1)) s ≠ (if i = j + 1 then _ else sq i) s) ↔ _
    rw [if_neg (by omega), if_neg (by omega)]
  · unfold chg
    show (∃ s, s < mN σ ∧ (if j + 1 = j + 1 then _ else sq (j + 1)) s ≠ (if j = j + 1 then _ else sq j) s) ↔ _
    rw [if_pos rfl, if_neg (by omega)]
set_option maxHeartbeats 4000000 in
set_option maxRecDepth 100000 in
/-- solve() -/
theorem c_solve (l : Launch) (D : va_G) (E : Nat → ClassId) (o0 : Nat) (σ : MS) (rn : Int) (bv : Nat → Int) (bd : Int) (bp : Nat → Int) (hok : mOK σ) (hrn : 0 ≤ rn ∧ rn ≤ 4096) : pw_M rvI l D E yX9_solve wsX9_solve ({ frames := 5, cells := 0, slots := 0, locals := 139 } : Room) [.ref (o0)] (fun H => MO D E (o0 + 1) σ H ∧ OA D o0 9 [.ref (o0 + 1), .ref (o0 + 52), .ref (o0 + 317), .ref (o0 + 326), .ref (o0 + 482), .ref (o0 + 498), .ref (o0 + 499), .ref (o0 + 564), .ref (o0 + 565), .ref (o0 + 566), .ref (o0 + 577), .ref (o0 + 579), .ref (o0 + 581), .int (iI (rn))] H ∧ EQx D E (o0 + 52) H ∧ CHx D E (o0 + 317) H ∧ RW D E (o0 + 482) 8 bv bd H ∧ IA E (o0 + 498) 6 bp H) (fun z H => (¬ rdy σ ∧ z = -1 ∧ OA D o0 9 [.ref (o0 + 1), .ref (o0 + 52), .ref (o0 + 317), .ref (o0 + 326), .ref (o0 + 482), .ref (o0 + 498), .ref (o0 + 499), .ref (o0 + 564), .ref (o0 + 565), .ref (o0 + 566), .ref (o0 + 577), .ref (o0 + 579), .ref (o0 + 581), .int (iI (rn))] H ∧ EQx D E (o0 + 52) H ∧ CHx D E (o0 + 317) H ∧ RW D E (o0 + 482) 8 bv bd H ∧ IA E (o0 + 498) 6 bp H) ∨ (rdy σ ∧ 0 < rn ∧ z = rn ∧ OA D o0 9 [.ref (o0 + 1), .ref (o0 + 52), .ref (o0 + 317), .ref (o0 + 326), .ref (o0 + 482), .ref (o0 + 498), .ref (o0 + 499), .ref (o0 + 564), .ref (o0 + 565), .ref (o0 + 566), .ref (o0 + 577), .ref (o0 + 579), .ref (o0 + 581), .int (iI (rn))] H ∧ EQx D E (o0 + 52) H ∧ CHx D E (o0 + 317) H ∧ RW D E (o0 + 482) 8 bv bd H ∧ IA E (o0 + 498) 6 bp H) ∨ (rdy σ ∧ rn = 0 ∧ ∃ (r : Nat) (bp bv : Nat → Int) (bd : Int), z = (r : Int) ∧ r ≤ 4096 ∧ SOL σ r bp bv bd ∧ OA D o0 9 [.ref (o0 + 1), .ref (o0 + 52), .ref (o0 + 317), .ref (o0 + 326), .ref (o0 + 482), .ref (o0 + 498), .ref (o0 + 499), .ref (o0 + 564), .ref (o0 + 565), .ref (o0 + 566), .ref (o0 + 577), .ref (o0 + 579), .ref (o0 + 581), .int (iI ((r : Int)))] H ∧ EQx D E (o0 + 52) H ∧ CHx D E (o0 + 317) H ∧ RW D E (o0 + 482) 8 bv bd H ∧ IA E (o0 + 498) 6 bp H)) (fun q => q = o0 ∨ (o0 + 52 ≤ q ∧ q ≤ o0 + 325) ∨ (o0 + 482 ≤ q ∧ q ≤ o0 + 498)) (0) (0) := by
  refine pw_of (cc := cX9_solve) (maxL := 3) (ret := (some .int)) (by decide +kernel) rfl (Nat.le_of_ble_eq_true rfl) ?_
  intro p e s m args below meth c hx hb hr hml hts hown hlocks hini hK ⟨hM, hO, hE, hCx, hRW, hBP⟩ ls hl
  have hown : s.vm.findClass RX9 = some m.cls := hown
  have hl : lv_has ls 3 [(0, .ref (o0))] := hl
  have hS : va_S (fun q => q = o0 ∨ (o0 + 52 ≤ q ∧ q ≤ o0 + 325) ∨ (o0 + 482 ≤ q ∧ q ≤ o0 + 498)) s.heap s.heap [] := va_S.rf
  have lk_10 := hts (.fieldLink RX9 10 "PolicyWorks" "model" "LPolicyWorks$Model;") (by decide +kernel)
  have lk_19 := hts (.fieldLink RX9 19 "PolicyWorks" "equations" "LPolicyWorks$Equations;") (by decide +kernel)
  have lk_42 := hts (.fieldLink RX9 42 "PolicyWorks" "bestValues" "LPolicyWorks$Row;") (by decide +kernel)
  have lk_46 := hts (.fieldLink RX9 46 "PolicyWorks" "bestPolicy" "[I") (by decide +kernel)
  have lk_81 := hts (.fieldLink RX9 81 "PolicyWorks" "rounds" "I") (by decide +kernel)
  have hin9 : ∀ w ∈ wsX90, w ∈ wsX9_solve := by decide +kernel
  have hN6 := hok.1
  have hC4 := hok.2.1
  have hMO := hM.1
  have fin : ∀ (j : Nat) (g bw : Nat → Int) (be : Int) (H : Heap) (locs : List Loc) (ls : Array Slot), rdy σ → rn = 0 → j ≤ 4096 → SOL σ j g bw be → MO D E (o0 + 1) σ H → OA D (o0) 9 [.ref (o0 + 1), .ref (o0 + 52), .ref (o0 + 317), .ref (o0 + 326), .ref (o0 + 482), .ref (o0 + 498), .ref (o0 + 499), .ref (o0 + 564), .ref (o0 + 565), .ref (o0 + 566), .ref (o0 + 577), .ref (o0 + 579), .ref (o0 + 581), .int (iI (rn))] H → EQx D E (o0 + 52) H → CHx D E (o0 + 317) H → RW D E (o0 + 482) 8 bw be H → IA E (o0 + 498) 6 g H → va_S (fun q => q = o0 ∨ (o0 + 52 ≤ q ∧ q ≤ o0 + 325) ∨ (o0 + 482 ≤ q ∧ q ≤ o0 + 498)) s.heap H locs → lv_has ls 3 [(0, .ref (o0)), (1, .int (iI ((j : Int)))), (2, .int (iI (0)))] → W p l e ({ frames := 5, cells := 0, slots := 0, locals := 139 } : Room) s m args below meth c H locs (0) (0) (MQ below (pw_Q rvI (fun z H => (¬ rdy σ ∧ z = -1 ∧ OA D o0 9 [.ref (o0 + 1), .ref (o0 + 52), .ref (o0 + 317), .ref (o0 + 326), .ref (o0 + 482), .ref (o0 + 498), .ref (o0 + 499), .ref (o0 + 564), .ref (o0 + 565), .ref (o0 + 566), .ref (o0 + 577), .ref (o0 + 579), .ref (o0 + 581), .int (iI (rn))] H ∧ EQx D E (o0 + 52) H ∧ CHx D E (o0 + 317) H ∧ RW D E (o0 + 482) 8 bv bd H ∧ IA E (o0 + 498) 6 bp H) ∨ (rdy σ ∧ 0 < rn ∧ z = rn ∧ OA D o0 9 [.ref (o0 + 1), .ref (o0 + 52), .ref (o0 + 317), .ref (o0 + 326), .ref (o0 + 482), .ref (o0 + 498), .ref (o0 + 499), .ref (o0 + 564), .ref (o0 + 565), .ref (o0 + 566), .ref (o0 + 577), .ref (o0 + 579), .ref (o0 + 581), .int (iI (rn))] H ∧ EQx D E (o0 + 52) H ∧ CHx D E (o0 + 317) H ∧ RW D E (o0 + 482) 8 bv bd H ∧ IA E (o0 + 498) 6 bp H) ∨ (rdy σ ∧ rn = 0 ∧ ∃ (r : Nat) (bp bv : Nat → Int) (bd : Int), z = (r : Int) ∧ r ≤ 4096 ∧ SOL σ r bp bv bd ∧ OA D o0 9 [.ref (o0 + 1), .ref (o0 + 52), .ref (o0 + 317), .ref (o0 + 326), .ref (o0 + 482), .ref (o0 + 498), .ref (o0 + 499), .ref (o0 + 564), .ref (o0 + 565), .ref (o0 + 566), .ref (o0 + 577), .ref (o0 + 579), .ref (o0 + 581), .int (iI ((r : Int)))] H ∧ EQx D E (o0 + 52) H ∧ CHx D E (o0 + 317) H ∧ RW D E (o0 + 482) 8 bv bd H ∧ IA E (o0 + 498) 6 bp H)) (fun q => q = o0 ∨ (o0 + 52 ≤ q ∧ q ≤ o0 + 325) ∨ (o0 + 482 ≤ q ∧ q ≤ o0 + 498))) args s (0) (0) (fun q => q = o0 ∨ (o0 + 52 ≤ q ∧ q ≤ o0 + 325) ∨ (o0 + 482 ≤ q ∧ q ≤ o0 + 498))) (F0 m 36 ls []) := by
    intro j g bw be H locs ls hrd hr0 hj hsol hM hO hE hCx hRW hBP hS hl
    have hMO := hM.1
    refine lv_iload_n hx hb dX9_solve_36 rfl (lv_at hl 2 rfl) ?_
    refine pw_if_eq (tgt := 77) hx hb dX9_solve_37 (by decide) (fun c_37 => ?_) (fun c_37 => absurd c_37 (by omega))
    refine lv_aload_n hx hb dX9_solve_77 rfl (lv_at hl 0 rfl) ?_
    refine lv_iload_n hx hb dX9_solve_78 rfl (lv_at hl 1 rfl) ?_
    refine pw_put (C := RX9) (T := TX9) (N := 14) hx hb hts hin9 tyX9 tyX9_ok nmX9 hown hK hO hS (Or.inl rfl) rfl 13 (by decide) lk_81 rfl rfl rfl rfl (by show _ < 14; decide) dX9_solve_79 (fun H1 locs1 hnew hz1 oq hS => ?_)
    have hM := hM.k (fun q h1 h2 h3 => (oq _ (by omega)))
    have hMO := hMO.k (oq _ (by omega))
    have hE := hE.k (fun q h1 h2 h3 => (oq _ (by omega)))
    have hCx := hCx.k (fun q h1 h2 h3 => (oq _ (by omega)))
    have hRW := hRW.k (fun q h1 h2 h3 => (oq _ (by omega)))
    have hBP := hBP.k (oq _ (by omega))
    have hO : OA D (o0) 9 [.ref (o0 + 1), .ref (o0 + 52), .ref (o0 + 317), .ref (o0 + 326), .ref (o0 + 482), .ref (o0 + 498), .ref (o0 + 499), .ref (o0 + 564), .ref (o0 + 565), .ref (o0 + 566), .ref (o0 + 577), .ref (o0 + 579), .ref (o0 + 581), .int (iI ((j : Int)))] H1 := hnew
    clear hnew oq hz1
    refine lv_aload_n hx hb dX9_solve_82 rfl (lv_at hl 0 rfl) ?_
    refine pw_get (C := RX9) (T := TX9) (N := 14) hx hb hts hin9 hown hK hO rfl 13 (by decide) lk_81 rfl rfl dX9_solve_83 ?_
    exact pw_iret hx hb hr hlocks hS (Or.inr (Or.inr ⟨hrd, hr0, j, g, bw, be, rfl, hj, hsol, hO, hE, hCx, hRW, hBP⟩)) dX9_solve_86
  have loop : ∀ (kk j : Nat) (sq : Nat → Nat → Nat) (g bw : Nat → Int) (be : Int) (H : Heap) (locs : List Loc) (ls : Array Slot), rdy σ → rn = 0 → j + kk = 4096 → seqOK σ sq j → (∀ i, i < j → chg σ sq i) → (∀ s, s < mN σ → g s = (sq j s : Int)) → MO D E (o0 + 1) σ H → OA D (o0) 9 [.ref (o0 + 1), .ref (o0 + 52), .ref (o0 + 317), .ref (o0 + 326), .ref (o0 + 482), .ref (o0 + 498), .ref (o0 + 499), .ref (o0 + 564), .ref (o0 + 565), .ref (o0 + 566), .ref (o0 + 577), .ref (o0 + 579), .ref (o0 + 581), .int (iI (rn))] H → EQx D E (o0 + 52) H → CHx D E (o0 + 317) H → RW D E (o0 + 482) 8 bw be H → IA E (o0 + 498) 6 g H → va_S (fun q => q = o0 ∨ (o0 + 52 ≤ q ∧ q ≤ o0 + 325) ∨ (o0 + 482 ≤ q ∧ q ≤ o0 + 498)) s.heap H locs → lv_has ls 3 [(0, .ref (o0)), (1, .int (iI ((j : Int)))), (2, .int (iI (1)))] → W p l e ({ frames := 5, cells := 0, slots := 0, locals := 139 } : Room) s m args below meth c H locs (0) (0) (MQ below (pw_Q rvI (fun z H => (¬ rdy σ ∧ z = -1 ∧ OA D o0 9 [.ref (o0 + 1), .ref (o0 + 52), .ref (o0 + 317), .ref (o0 + 326), .ref (o0 + 482), .ref (o0 + 498), .ref (o0 + 499), .ref (o0 + 564), .ref (o0 + 565), .ref (o0 + 566), .ref (o0 + 577), .ref (o0 + 579), .ref (o0 + 581), .int (iI (rn))] H ∧ EQx D E (o0 + 52) H ∧ CHx D E (o0 + 317) H ∧ RW D E (o0 + 482) 8 bv bd H ∧ IA E (o0 + 498) 6 bp H) ∨ (rdy σ ∧ 0 < rn ∧ z = rn ∧ OA D o0 9 [.ref (o0 + 1), .ref (o0 + 52), .ref (o0 + 317), .ref (o0 + 326), .ref (o0 + 482), .ref (o0 + 498), .ref (o0 + 499), .ref (o0 + 564), .ref (o0 + 565), .ref (o0 + 566), .ref (o0 + 577), .ref (o0 + 579), .ref (o0 + 581), .int (iI (rn))] H ∧ EQx D E (o0 + 52) H ∧ CHx D E (o0 + 317) H ∧ RW D E (o0 + 482) 8 bv bd H ∧ IA E (o0 + 498) 6 bp H) ∨ (rdy σ ∧ rn = 0 ∧ ∃ (r : Nat) (bp bv : Nat → Int) (bd : Int), z = (r : Int) ∧ r ≤ 4096 ∧ SOL σ r bp bv bd ∧ OA D o0 9 [.ref (o0 + 1), .ref (o0 + 52), .ref (o0 + 317), .ref (o0 + 326), .ref (o0 + 482), .ref (o0 + 498), .ref (o0 + 499), .ref (o0 + 564), .ref (o0 + 565), .ref (o0 + 566), .ref (o0 + 577), .ref (o0 + 579), .ref (o0 + 581), .int (iI ((r : Int)))] H ∧ EQx D E (o0 + 52) H ∧ CHx D E (o0 + 317) H ∧ RW D E (o0 + 482) 8 bv bd H ∧ IA E (o0 + 498) 6 bp H)) (fun q => q = o0 ∨ (o0 + 52 ≤ q ∧ q ≤ o0 + 325) ∨ (o0 + 482 ≤ q ∧ q ≤ o0 + 498))) args s (0) (0) (fun q => q = o0 ∨ (o0 + 52 ≤ q ∧ q ≤ o0 + 325) ∨ (o0 + 482 ≤ q ∧ q ≤ o0 + 498))) (F0 m 36 ls []) := by
    intro kk
    induction kk with
    | zero =>
      intro j sq g bw be H locs ls hrd hr0 hj hsq hch
      have := rounds_lt hok hrd hsq hch
      exact absurd hj (by omega)
    | succ kk ih =>
      intro j sq g bw be H locs ls hrd hr0 hj hsq hch hg hM hO hE hCx hRW hBP hS hl
      have hMO := hM.1
      have hj4 := rounds_lt hok hrd hsq hch
      have hlt := seq_lt hrd hsq j (Nat.le_refl j)
      obtain ⟨R0, mn0, hEQ⟩ := hE
      have hEO := hEQ.1
      refine lv_iload_n hx hb dX9_solve_36 rfl (lv_at hl 2 rfl) ?_
      refine pw_if_eq (tgt := 77) hx hb dX9_solve_37 (by decide) (fun c_37 => absurd c_37 (by omega)) (fun c_37 => ?_)
      refine lv_iload_n hx hb dX9_solve_40 rfl (lv_at hl 1 rfl) ?_
      refine pw_sipush hx hb dX9_solve_41 ?_
      refine pw_icmp_ge (tgt := 77) hx hb dX9_solve_44 (by decide) (fun c_44 => absurd c_44 (by omega)) (fun c_44 => ?_)
      refine lv_iinc (v := iI (((j + 1 : Nat) : Int))) (lv' := [(1, .int (iI (((j + 1 : Nat) : Int)))), (0, .ref (o0)), (2, .int (iI (1)))]) hx hb dX9_solve_47 hl (k := 1) rfl (by show iI _ + iI _ = _; exact (iI_add _ _).trans (by first | rfl | (congr 1; omega))) (by decide) rfl (fun ls hl => ?_)
      refine lv_aload_n hx hb dX9_solve_50 rfl (lv_at hl 1 rfl) ?_
      refine pw_get (C := RX9) (T := TX9) (N := 14) hx hb hts hin9 hown hK hO rfl 1 (by decide) lk_19 rfl rfl dX9_solve_51 ?_
      refine lv_aload_n hx hb dX9_solve_54 rfl (lv_at hl 1 rfl) ?_
      refine pw_get (C := RX9) (T := TX9) (N := 14) hx hb hts hin9 hown hK hO rfl 0 (by decide) lk_10 rfl rfl dX9_solve_55 ?_
      refine lv_aload_n hx hb dX9_solve_58 rfl (lv_at hl 1 rfl) ?_
      refine pw_get (C := RX9) (T := TX9) (N := 14) hx hb hts hin9 hown hK hO rfl 5 (by decide) lk_46 rfl rfl dX9_solve_59 ?_
      refine lv_aload_n hx hb dX9_solve_62 rfl (lv_at hl 1 rfl) ?_
      refine pw_get (C := RX9) (T := TX9) (N := 14) hx hb hts hin9 hown hK hO rfl 4 (by decide) lk_42 rfl rfl dX9_solve_63 ?_
      refine pw_callVv (As := [.ref (o0 + 1), .ref (o0 + 498), .ref (o0 + 482)]) (rest := []) ⟨hx, hb, hml, hown, hts⟩ (c_findValues l D E (o0 + 52) (o0 + 1) (o0 + 498) (o0 + 482) σ (sq j) g R0 mn0 bw be hg hok hrd hlt (by omega) (by omega) (by omega) (by omega) (by omega)) (cwV 3 hts gX9_solve_X2_findValues rfl rfl rfl (by decide +kernel) ⟨Nat.le_of_ble_eq_true rfl, Nat.le_of_ble_eq_true rfl⟩) hK hEO rfl ⟨hEQ, hM, hBP, hRW⟩ rfl hl.1 rfl (Nat.le_of_ble_eq_true rfl) dX9_solve_66 ⟨Nat.zero_le _, Nat.zero_le _⟩ hS (fun q h => by (try dsimp only at h); (try dsimp only); omega) (fun H1 locs1 ⟨R1, mn1, v1, b1, hEQ, hRW, hPV⟩ hz1 hk1 hS => ?_)
      have hO := hO.k (hk1 _ hO.lt (by (try dsimp only); omega))
      have hM := hM.k (fun q h1 h2 h3 => (hk1 _ h3 (by (try dsimp only); omega)))
      have hMO := hMO.k (hk1 _ hMO.lt (by (try dsimp only); omega))
      have hCx := hCx.k (fun q h1 h2 h3 => (hk1 _ h3 (by (try dsimp only); omega)))
      have hBP := hBP.k (hk1 _ hBP.lt (by (try dsimp only); omega))
      have hEO := hEQ.1
      obtain ⟨sn1, sn2, sn3⟩ := seq_next hsq hPV
      refine lv_aload_n hx hb dX9_solve_69 rfl (lv_at hl 1 rfl) ?_
      refine pw_callVi (As := []) (rest := []) ⟨hx, hb, hml, hown, hts⟩ (c_improve l D E o0 σ rn (sq j) v1 b1 g hok hrd hlt hg hPV) (cwV 0 hts gX9_solve_X9_improve rfl rfl rfl (by decide +kernel) ⟨Nat.le_of_ble_eq_true rfl, Nat.le_of_ble_eq_true rfl⟩) hK hO rfl ⟨hO, hM, hCx, hRW, hBP⟩ rfl hl.1 rfl (Nat.le_of_ble_eq_true rfl) dX9_solve_70 ⟨Nat.zero_le _, Nat.zero_le _⟩ hS (fun q h => by (try dsimp only at h); (try dsimp only); omega) (fun z H1 locs1 ⟨hz01, hziff, hCx, bp1, hbp1, hBP⟩ hz1 hk1 hS => ?_)
      have hO := hO.k (hk1 _ hO.lt (by (try dsimp only); omega))
      have hM := hM.k (fun q h1 h2 h3 => (hk1 _ h3 (by (try dsimp only); omega)))
      have hMO := hMO.k (hk1 _ hMO.lt (by (try dsimp only); omega))
      have hEQ := hEQ.k (fun q h1 h2 h3 => (hk1 _ h3 (by (try dsimp only); omega)))
      have hRW := hRW.k (fun q h1 h2 h3 => (hk1 _ h3 (by (try dsimp only); omega)))
      have hEO := hEO.k (hk1 _ hEO.lt (by (try dsimp only); omega))
      refine lv_istore_n (lv' := [(2, .int (iI (z))), (1, .int (iI (((j + 1 : Nat) : Int)))), (0, .ref (o0))]) hx hb dX9_solve_73 rfl hl (by decide) rfl (fun ls hl => ?_)
      refine lv_goto (tgt := 36) hx hb dX9_solve_74 (by decide) ?_
      have hbp2 : ∀ s, s < mN σ → bp1 s = ((fun i => if i = j + 1 then npol σ (sq j) v1 b1 else sq i) (j + 1) s : Int) := fun s hs => by
        rw [hbp1 s hs]
        show _ = (((if j + 1 = j + 1 then npol σ (sq j) v1 b1 else sq (j + 1)) s : Nat) : Int)
        rw [if_pos rfl]
      rcases hz01 with hz | hz
      · subst hz
        have hl : lv_has ls 3 [(0, .ref (o0)), (1, .int (iI (((j + 1 : Nat) : Int)))), (2, .int (iI (0)))] := lv_sub hl [2, 1, 0] rfl
        have hno := hziff.mp rfl
        refine fin (j + 1) bp1 v1 b1 _ _ _ hrd hr0 (by omega) ⟨(fun i => if i = j + 1 then npol σ (sq j) v1 b1 else sq i), sn1, by omega, fun i hi => (sn2 i (by omega)).mpr (hch i (by omega)), fun hc => ?_, hbp2, ?_⟩ hM hO ⟨_, _, hEQ⟩ hCx hRW hBP hS hl
        · obtain ⟨s1, hs1, hne⟩ := sn3.mp hc
          exact hne (hno s1 hs1)
        · refine pv_congr hPV (fun s hs => ?_)
          show sq j s = (if j + 1 = j + 1 then npol σ (sq j) v1 b1 else sq (j + 1)) s
          rw [if_pos rfl]
          exact (hno s hs).symm
      · subst hz
        have hl : lv_has ls 3 [(0, .ref (o0)), (1, .int (iI (((j + 1 : Nat) : Int)))), (2, .int (iI (1)))] := lv_sub hl [2, 1, 0] rfl
        refine ih (j + 1) (fun i => if i = j + 1 then npol σ (sq j) v1 b1 else sq i) bp1 v1 b1 _ _ _ hrd hr0 (by omega) sn1 (fun i hi => ?_) hbp2 hM hO ⟨_, _, hEQ⟩ hCx hRW hBP hS hl
        by_cases e : i = j
        · subst e
          refine sn3.mpr ?_
          rcases Classical.em (∃ s, s < mN σ ∧ npol σ (sq i) v1 b1 s ≠ sq i s) with h9 | h9
          · exact h9
          · exfalso
            have h8 : (1 : Int) = 0 := hziff.mpr (fun s hs => Classical.byContradiction (fun h7 => h9 ⟨s, hs, h7⟩))
            omega
        · exact (sn2 i (by omega)).mpr (hch i (by omega))
  refine lv_aload_n hx hb dX9_solve_0 rfl (lv_at hl 0 rfl) ?_
  refine pw_get (C := RX9) (T := TX9) (N := 14) hx hb hts hin9 hown hK hO rfl 0 (by decide) lk_10 rfl rfl dX9_solve_1 ?_
  refine pw_callVi (As := []) (rest := []) ⟨hx, hb, hml, hown, hts⟩ (c_allReady l D E (o0 + 1) σ hok) (cwV 0 hts gX9_solve_X6_allReady rfl rfl rfl (by decide +kernel) ⟨Nat.le_of_ble_eq_true rfl, Nat.le_of_ble_eq_true rfl⟩) hK hMO rfl hM rfl hl.1 rfl (Nat.le_of_ble_eq_true rfl) dX9_solve_4 ⟨Nat.zero_le _, Nat.zero_le _⟩ hS (fun q h => h.elim) (fun z H1 locs1 ⟨hz01, hzr⟩ hz1 hk1 hS => ?_)
  have hO := hO.k (hk1 _ hO.lt (fun h => h))
  have hM := hM.k (fun q h1 h2 h3 => (hk1 _ h3 (fun h => h)))
  have hMO := hMO.k (hk1 _ hMO.lt (fun h => h))
  have hE := hE.k (fun q h1 h2 h3 => (hk1 _ h3 (fun h => h)))
  have hCx := hCx.k (fun q h1 h2 h3 => (hk1 _ h3 (fun h => h)))
  have hRW := hRW.k (fun q h1 h2 h3 => (hk1 _ h3 (fun h => h)))
  have hBP := hBP.k (hk1 _ hBP.lt (fun h => h))
  refine pw_if_ne (tgt := 12) hx hb dX9_solve_7 (by decide) (fun c_7 => ?_) (fun c_7 => ?_)
  · refine lv_aload_n hx hb dX9_solve_12 rfl (lv_at hl 0 rfl) ?_
    refine pw_get (C := RX9) (T := TX9) (N := 14) hx hb hts hin9 hown hK hO rfl 13 (by decide) lk_81 rfl rfl dX9_solve_13 ?_
    refine pw_if_le (tgt := 24) hx hb dX9_solve_16 (by decide) (fun c_16 => ?_) (fun c_16 => ?_)
    · refine lv_aload_n hx hb dX9_solve_24 rfl (lv_at hl 0 rfl) ?_
      refine pw_get (C := RX9) (T := TX9) (N := 14) hx hb hts hin9 hown hK hO rfl 5 (by decide) lk_46 rfl rfl dX9_solve_25 ?_
      refine pw_iconst hx hb dX9_solve_28 ?_
      refine pw_callSv (As := [.ref (o0 + 498), .int (iI (0))]) (rest := []) ⟨hx, hb, hml, hown, hts⟩ (c_fillI l D E (o0 + 498) 6 bp 0 (by omega)) (va_cwS 2 hts gX9_solve_J7_fill_53178 rfl rfl rfl (by decide +kernel) ⟨Nat.le_of_ble_eq_true rfl, Nat.le_of_ble_eq_true rfl⟩) hK hBP rfl hl.1 rfl (Nat.le_of_ble_eq_true rfl) dX9_solve_29 ⟨Nat.zero_le _, Nat.zero_le _⟩ hS (fun q h => by (try dsimp only at h); (try dsimp only); omega) (fun H1 locs1 hBP hz1 hk1 hS => ?_)
      have hO := hO.k (hk1 _ hO.lt (by (try dsimp only); omega))
      have hM := hM.k (fun q h1 h2 h3 => (hk1 _ h3 (by (try dsimp only); omega)))
      have hMO := hMO.k (hk1 _ hMO.lt (by (try dsimp only); omega))
      have hE := hE.k (fun q h1 h2 h3 => (hk1 _ h3 (by (try dsimp only); omega)))
      have hCx := hCx.k (fun q h1 h2 h3 => (hk1 _ h3 (by (try dsimp only); omega)))
      have hRW := hRW.k (fun q h1 h2 h3 => (hk1 _ h3 (by (try dsimp only); omega)))
      refine pw_iconst hx hb dX9_solve_32 ?_
      refine lv_istore_n (lv' := [(1, .int (iI (0))), (0, .ref (o0))]) hx hb dX9_solve_33 rfl hl (by decide) rfl (fun ls hl => ?_)
      refine pw_iconst hx hb dX9_solve_34 ?_
      refine lv_istore_n (lv' := [(2, .int (iI (1))), (1, .int (iI (0))), (0, .ref (o0))]) hx hb dX9_solve_35 rfl hl (by decide) rfl (fun ls hl => ?_)
      exact loop 4096 0 (fun _ _ => 0) (fun _ => 0) bv bd _ _ _ (hzr.mp (by omega)) (by omega) (by omega) ⟨fun s hs => rfl, fun j hj => absurd hj (Nat.not_lt_zero j)⟩ (fun i hi => absurd hi (Nat.not_lt_zero i)) (fun s hs => rfl) hM hO hE hCx hRW hBP hS (lv_sub hl [2, 1, 0] rfl)
    · refine lv_aload_n hx hb dX9_solve_19 rfl (lv_at hl 0 rfl) ?_
      refine pw_get (C := RX9) (T := TX9) (N := 14) hx hb hts hin9 hown hK hO rfl 13 (by decide) lk_81 rfl rfl dX9_solve_20 ?_
      exact pw_iret hx hb hr hlocks hS (Or.inr (Or.inl ⟨hzr.mp (by omega), by omega, rfl, hO, hE, hCx, hRW, hBP⟩)) dX9_solve_23
  · refine pw_iconst hx hb dX9_solve_10 ?_
    exact pw_iret hx hb hr hlocks hS (Or.inl ⟨fun h => absurd (hzr.mpr h) (by omega), rfl, hO, hE, hCx, hRW, hBP⟩) dX9_solve_11
