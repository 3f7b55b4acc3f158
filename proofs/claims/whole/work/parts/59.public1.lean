/-! the public methods: what an object is between calls; state, discount, policy -/
def LDR (D : va_G) (E : Nat → ClassId) (l0 : Nat) (V : Nat → Nat → Int) (B : Nat → Int) (pk : Nat → Nat → Int) (H : Heap) : Prop := QA E 4 (l0 + 1) 9 (fun k => some (l0 + 2 + 16 * k)) H ∧ LX D E l0 9 V B H ∧ QA E 6 (l0 + 146) 9 (fun k => some (l0 + 147 + k)) H ∧ PX E l0 9 pk H
theorem LDR.k {D : va_G} {E : Nat → ClassId} {l0 : Nat} {V : Nat → Nat → Int} {B : Nat → Int} {pk : Nat → Nat → Int} {H H1 : Heap} (h : LDR D E l0 V B pk H) (hq : ∀ q, l0 + 1 ≤ q → q ≤ l0 + 155 → q < H.size → H1[q]? = H[q]?) : LDR D E l0 V B pk H1 := by
  obtain ⟨h1, h2, h3, h4⟩ := h
  exact ⟨h1.k (hq _ (by omega) (by omega) h1.lt), h2.k (fun q a b c => hq q (by omega) (by omega) c), h3.k (hq _ (by omega) (by omega) h3.lt), h4.k (fun q a b c => hq q (by omega) (by omega) c)⟩
def ATS (D : va_G) (E : Nat → ClassId) (a : Nat) (σ : MS) (H : Heap) : Prop := ∀ i, i < 24 → AT D E (a + 3 + 2 * i) σ i H
theorem ATS.k {D : va_G} {E : Nat → ClassId} {a : Nat} {σ : MS} {H H1 : Heap} (h : ATS D E a σ H) (hq : ∀ q, a + 3 ≤ q → q ≤ a + 50 → q < H.size → H1[q]? = H[q]?) : ATS D E a σ H1 := fun i hi => ⟨(h i hi).1.k (hq _ (by omega) (by omega) (h i hi).1.lt), (h i hi).2.k (hq _ (by omega) (by omega) (h i hi).2.lt)⟩
def INV (σ : MS) (rn : Int) (bv : Nat → Int) (bd : Int) (bp : Nat → Int) (wn : Nat → Nat → Int) (wd wq : Nat → Int) (kn : Nat) (V : Nat → Nat → Int) (B : Nat → Int) (pk : Nat → Nat → Int) : Prop := mOK σ ∧ (0 ≤ rn ∧ rn ≤ 4096) ∧ (0 < rn → rdy σ ∧ SOL σ rn.toNat bp bv bd) ∧ WQ σ wn wd wq ∧ LV σ kn V B pk
theorem INV0 {σ : MS} {bv : Nat → Int} {bd : Int} {bp : Nat → Int} {wn : Nat → Nat → Int} {wd : Nat → Int} {V : Nat → Nat → Int} {B : Nat → Int} {pk : Nat → Nat → Int} (h : mOK σ) : INV σ 0 bv bd bp wn wd (fun _ => 0) 0 V B pk := ⟨h, by omega, fun h => absurd h (by omega), fun k _ => Or.inl rfl, by omega, fun h => absurd h (by omega)⟩
/-- an object between calls: its model, and the rounds of the last solving (0: not solved) -/
def PO (D : va_G) (E : Nat → ClassId) (o0 : Nat) (σ : MS) (rn : Int) (H : Heap) : Prop := ∃ bv bd bp wn wd wq kn V B pk, PW D E o0 σ rn bv bd bp wn wd wq kn V B pk H ∧ INV σ rn bv bd bp wn wd wq kn V B pk
-- what calls set
def sS (σ : MS) : MS := (mN σ + 1, σ.2)
def sG (σ : MS) (x y : Nat) : MS := (mN σ, mC σ, mU σ, mD σ, mW σ, x, y)
theorem sS_ok {σ : MS} (h : mOK σ) (hn : mN σ < 6) : mOK (sS σ) := by
  obtain ⟨h1, h2, h3, h4, h5, h6, h7, h8⟩ := h
  exact ⟨hn, h2, h3, h4, h5, fun s a b => h6 s (by have : mN σ + 1 ≤ s := a; omega) b, h7, fun i t a b c => h8 i t a (by have : mN σ + 1 ≤ t := b; omega) c⟩
theorem sG_ok {σ : MS} (h : mOK σ) {x y : Nat} (hx : x < y) (hy : y ≤ 20) : mOK (sG σ x y) := by
  obtain ⟨h1, h2, h3, h4, h5, h6, h7, h8⟩ := h
  exact ⟨h1, h2, h3, hx, hy, h6, h7, h8⟩
set_option maxHeartbeats 4000000 in
set_option maxRecDepth 100000 in
/-- state() -/
theorem c_state (l : Launch) (D : va_G) (E : Nat → ClassId) (o0 : Nat) (σ : MS) (rn : Int) : pw_M rvI l D E yX9_state wsX9_state ({ frames := 1, cells := 0, slots := 0, locals := 21 } : Room) [.ref (o0)] (fun H => PO D E o0 σ rn H) (fun z H => (mN σ = 6 ∧ z = -1 ∧ PO D E o0 σ rn H) ∨ (mN σ < 6 ∧ z = (mN σ : Int) ∧ PO D E o0 (sS σ) 0 H)) (fun q => o0 ≤ q ∧ q ≤ o0 + 582) (0) (0) := by
  refine pw_of (cc := cX9_state) (maxL := 1) (ret := (some .int)) (by decide +kernel) rfl (Nat.le_of_ble_eq_true rfl) ?_
  intro p e s m args below meth c hx hb hr hml hts hown hlocks hini hK ⟨bv, bd, bp, wn, wd, wq, kn, V, B, pk, ⟨hO, hM, hE, hCx, hLD, hRW, hBP, hQ, hWS, hZ, hT, hF, hW1, hW2, hW3⟩, hINV⟩ ls hl
  have hown : s.vm.findClass RX9 = some m.cls := hown
  have hl : lv_has ls 1 [(0, .ref (o0))] := hl
  have hS : va_S (fun q => o0 ≤ q ∧ q ≤ o0 + 582) s.heap s.heap [] := va_S.rf
  have lk_10 := hts (.fieldLink RX9 10 "PolicyWorks" "model" "LPolicyWorks$Model;") (by decide +kernel)
  have lk_85 := hts (.fieldLink RX9 85 "PolicyWorks$Model" "states" "I") (by decide +kernel)
  have hin6 : ∀ w ∈ wsX60, w ∈ wsX9_state := by decide +kernel
  have hin9 : ∀ w ∈ wsX90, w ∈ wsX9_state := by decide +kernel
  have hMO := hM.1
  have hMC := hM.2.1
  have hMQ := hM.2.2.1
  have hAT : ATS D E (o0 + 1) σ s.heap := hM.2.2.2
  have hLO := hLD.1
  have hLR : LDR D E (o0 + 326) V B pk s.heap := hLD.2
  have hok := hINV.1
  have hrn := hINV.2.1
  have hN6 := hok.1
  have hC4 := hok.2.1
  refine lv_aload_n hx hb dX9_state_0 rfl (lv_at hl 0 rfl) ?_
  refine pw_get (C := RX9) (T := TX9) (N := 14) hx hb hts hin9 hown hK hO rfl 0 (by decide) lk_10 rfl rfl dX9_state_1 ?_
  refine pw_get (C := RX6) (T := TX6) (N := 5) hx hb hts hin6 hown hK hMO rfl 2 (by decide) lk_85 rfl rfl dX9_state_4 ?_
  refine pw_bipush hx hb dX9_state_7 ?_
  refine pw_icmp_lt (tgt := 14) hx hb dX9_state_9 (by decide) (fun c_9 => ?_) (fun c_9 => ?_)
  · refine lv_aload_n hx hb dX9_state_14 rfl (lv_at hl 0 rfl) ?_
    refine pw_callVv (As := []) (rest := []) ⟨hx, hb, hml, hown, hts⟩ (c_forget l D E o0 rn (kn : Int) wq) (cwV 0 hts gX9_state_X9_forget rfl rfl rfl (by decide +kernel) ⟨Nat.le_of_ble_eq_true rfl, Nat.le_of_ble_eq_true rfl⟩) hK hO rfl ⟨hO, hLO, hZ⟩ rfl hl.1 rfl (Nat.le_of_ble_eq_true rfl) dX9_state_15 ⟨Nat.zero_le _, Nat.zero_le _⟩ hS (fun q h => by (try dsimp only at h); (try dsimp only); omega) (fun H1 locs1 ⟨hO, hLO, hZ⟩ hz1 hk1 hS => ?_)
    have hM := hM.k (fun q h1 h2 h3 => (hk1 _ h3 (by (try dsimp only); omega)))
    have hMO := hMO.k (hk1 _ hMO.lt (by (try dsimp only); omega))
    have hMC := hMC.k (hk1 _ hMC.lt (by (try dsimp only); omega))
    have hMQ := hMQ.k (hk1 _ hMQ.lt (by (try dsimp only); omega))
    have hAT := hAT.k (fun q h1 h2 h3 => (hk1 _ h3 (by (try dsimp only); omega)))
    have hE := hE.k (fun q h1 h2 h3 => (hk1 _ h3 (by (try dsimp only); omega)))
    have hCx := hCx.k (fun q h1 h2 h3 => (hk1 _ h3 (by (try dsimp only); omega)))
    have hLR := hLR.k (fun q h1 h2 h3 => (hk1 _ h3 (by (try dsimp only); omega)))
    have hRW := hRW.k (fun q h1 h2 h3 => (hk1 _ h3 (by (try dsimp only); omega)))
    have hBP := hBP.k (hk1 _ hBP.lt (by (try dsimp only); omega))
    have hQ := hQ.k (hk1 _ hQ.lt (by (try dsimp only); omega))
    have hWS := hWS.k (fun q h1 h2 h3 => (hk1 _ h3 (by (try dsimp only); omega)))
    have hT := hT.k (fun q h1 h2 h3 => (hk1 _ h3 (by (try dsimp only); omega)))
    have hF := hF.k (fun q h1 h2 h3 => (hk1 _ h3 (by (try dsimp only); omega)))
    have hW1 := hW1.k (fun q h1 h2 h3 => (hk1 _ h3 (by (try dsimp only); omega)))
    have hW2 := hW2.k (fun q h1 h2 h3 => (hk1 _ h3 (by (try dsimp only); omega)))
    have hW3 := hW3.k (fun q h1 h2 h3 => (hk1 _ h3 (by (try dsimp only); omega)))
    refine lv_aload_n hx hb dX9_state_18 rfl (lv_at hl 0 rfl) ?_
    refine pw_get (C := RX9) (T := TX9) (N := 14) hx hb hts hin9 hown hK hO rfl 0 (by decide) lk_10 rfl rfl dX9_state_19 ?_
    refine lv_dup hx hb dX9_state_22 rfl ?_
    refine pw_get (C := RX6) (T := TX6) (N := 5) hx hb hts hin6 hown hK hMO rfl 2 (by decide) lk_85 rfl rfl dX9_state_23 ?_
    refine pw_iconst hx hb dX9_state_26 ?_
    refine pw_iadd hx hb dX9_state_27 ?_
    refine pw_asi (((mN σ + 1 : Nat) : Int)) (by omega) ?_
    refine pw_put (C := RX6) (T := TX6) (N := 5) hx hb hts hin6 tyX6 tyX6_ok nmX6 hown hK hMO hS (by (try dsimp only); omega) rfl 2 (by decide) lk_85 rfl rfl rfl rfl (by show _ < 5; decide) dX9_state_28 (fun H1 locs1 hnew hz1 oq hS => ?_)
    have hO := hO.k (oq _ (by omega))
    have hMC := hMC.k (oq _ (by omega))
    have hMQ := hMQ.k (oq _ (by omega))
    have hAT := hAT.k (fun q h1 h2 h3 => (oq _ (by omega)))
    have hE := hE.k (fun q h1 h2 h3 => (oq _ (by omega)))
    have hCx := hCx.k (fun q h1 h2 h3 => (oq _ (by omega)))
    have hLO := hLO.k (oq _ (by omega))
    have hLR := hLR.k (fun q h1 h2 h3 => (oq _ (by omega)))
    have hRW := hRW.k (fun q h1 h2 h3 => (oq _ (by omega)))
    have hBP := hBP.k (oq _ (by omega))
    have hQ := hQ.k (oq _ (by omega))
    have hWS := hWS.k (fun q h1 h2 h3 => (oq _ (by omega)))
    have hZ := hZ.k (oq _ (by omega))
    have hT := hT.k (fun q h1 h2 h3 => (oq _ (by omega)))
    have hF := hF.k (fun q h1 h2 h3 => (oq _ (by omega)))
    have hW1 := hW1.k (fun q h1 h2 h3 => (oq _ (by omega)))
    have hW2 := hW2.k (fun q h1 h2 h3 => (oq _ (by omega)))
    have hW3 := hW3.k (fun q h1 h2 h3 => (oq _ (by omega)))
    have hMO : OA D (o0 + 1) 6 [.ref (o0 + 1 + 1), .ref (o0 + 1 + 2), .int (iI (((mN σ + 1 : Nat) : Int))), .int (iI ((mA σ : Int))), .int (iI ((mB σ : Int)))] H1 := hnew
    clear hnew oq hz1
    refine lv_aload_n hx hb dX9_state_31 rfl (lv_at hl 0 rfl) ?_
    refine pw_get (C := RX9) (T := TX9) (N := 14) hx hb hts hin9 hown hK hO rfl 0 (by decide) lk_10 rfl rfl dX9_state_32 ?_
    refine pw_get (C := RX6) (T := TX6) (N := 5) hx hb hts hin6 hown hK hMO rfl 2 (by decide) lk_85 rfl rfl dX9_state_35 ?_
    refine pw_iconst hx hb dX9_state_38 ?_
    refine pw_isub hx hb dX9_state_39 ?_
    refine pw_asi ((mN σ : Int)) (by omega) ?_
    exact pw_iret hx hb hr hlocks hS (Or.inr ⟨by omega, rfl, ⟨bv, bd, bp, wn, wd, fun _ => 0, 0, V, B, pk, ⟨hO, ⟨hMO, hMC, hMQ, hAT⟩, hE, hCx, ⟨hLO, hLR⟩, hRW, hBP, hQ, hWS, hZ, hT, hF, hW1, hW2, hW3⟩, INV0 (sS_ok hok (by omega))⟩⟩) dX9_state_40
  · refine pw_iconst hx hb dX9_state_12 ?_
    exact pw_iret hx hb hr hlocks hS (Or.inl ⟨by omega, rfl, ⟨bv, bd, bp, wn, wd, wq, kn, V, B, pk, ⟨hO, hM, hE, hCx, ⟨hLO, hLR⟩, hRW, hBP, hQ, hWS, hZ, hT, hF, hW1, hW2, hW3⟩, hINV⟩⟩) dX9_state_13
set_option maxHeartbeats 4000000 in
set_option maxRecDepth 100000 in
/-- discount(x, y) -/
theorem c_discount (l : Launch) (D : va_G) (E : Nat → ClassId) (o0 : Nat) (σ : MS) (rn x y : Int) (x1 : -2147483648 ≤ x) (x2 : x ≤ 2147483647) (y1 : -2147483648 ≤ y) (y2 : y ≤ 2147483647) : pw_M rvI l D E yX9_discount wsX9_discount ({ frames := 1, cells := 0, slots := 0, locals := 21 } : Room) [.ref (o0), .int (iI (x)), .int (iI (y))] (fun H => PO D E o0 σ rn H) (fun z H => (¬ (0 ≤ x ∧ x < y ∧ y ≤ 20) ∧ z = 0 ∧ PO D E o0 σ rn H) ∨ (0 ≤ x ∧ x < y ∧ y ≤ 20 ∧ z = 1 ∧ PO D E o0 (sG σ x.toNat y.toNat) 0 H)) (fun q => o0 ≤ q ∧ q ≤ o0 + 582) (0) (0) := by
  refine pw_of (cc := cX9_discount) (maxL := 3) (ret := (some .boolean)) (by decide +kernel) rfl (Nat.le_of_ble_eq_true rfl) ?_
  intro p e s m args below meth c hx hb hr hml hts hown hlocks hini hK ⟨bv, bd, bp, wn, wd, wq, kn, V, B, pk, ⟨hO, hM, hE, hCx, hLD, hRW, hBP, hQ, hWS, hZ, hT, hF, hW1, hW2, hW3⟩, hINV⟩ ls hl
  have hown : s.vm.findClass RX9 = some m.cls := hown
  have hl : lv_has ls 3 [(0, .ref (o0)), (1, .int (iI (x))), (2, .int (iI (y)))] := hl
  have hS : va_S (fun q => o0 ≤ q ∧ q ≤ o0 + 582) s.heap s.heap [] := va_S.rf
  have lk_10 := hts (.fieldLink RX9 10 "PolicyWorks" "model" "LPolicyWorks$Model;") (by decide +kernel)
  have lk_120 := hts (.fieldLink RX9 120 "PolicyWorks$Model" "discountAbove" "I") (by decide +kernel)
  have lk_123 := hts (.fieldLink RX9 123 "PolicyWorks$Model" "discountBelow" "I") (by decide +kernel)
  have hin6 : ∀ w ∈ wsX60, w ∈ wsX9_discount := by decide +kernel
  have hin9 : ∀ w ∈ wsX90, w ∈ wsX9_discount := by decide +kernel
  have hMO := hM.1
  have hMC := hM.2.1
  have hMQ := hM.2.2.1
  have hAT : ATS D E (o0 + 1) σ s.heap := hM.2.2.2
  have hLO := hLD.1
  have hLR : LDR D E (o0 + 326) V B pk s.heap := hLD.2
  have hok := hINV.1
  have hrn := hINV.2.1
  have hN6 := hok.1
  have hC4 := hok.2.1
  refine lv_iload_n hx hb dX9_discount_0 rfl (lv_at hl 1 rfl) ?_
  refine pw_if_lt (tgt := 15) hx hb dX9_discount_1 (by decide) (fun c_1 => ?_) (fun c_1 => ?_)
  · refine pw_iconst hx hb dX9_discount_15 ?_
    exact pw_zret hx hb hr hlocks hS (by omega) (Or.inl ⟨by omega, rfl, ⟨bv, bd, bp, wn, wd, wq, kn, V, B, pk, ⟨hO, hM, hE, hCx, ⟨hLO, hLR⟩, hRW, hBP, hQ, hWS, hZ, hT, hF, hW1, hW2, hW3⟩, hINV⟩⟩) dX9_discount_16
  · refine lv_iload_n hx hb dX9_discount_4 rfl (lv_at hl 1 rfl) ?_
    refine lv_iload_n hx hb dX9_discount_5 rfl (lv_at hl 2 rfl) ?_
    refine pw_icmp_ge (tgt := 15) hx hb dX9_discount_6 (by decide) (fun c_6 => ?_) (fun c_6 => ?_)
    · refine pw_iconst hx hb dX9_discount_15 ?_
      exact pw_zret hx hb hr hlocks hS (by omega) (Or.inl ⟨by omega, rfl, ⟨bv, bd, bp, wn, wd, wq, kn, V, B, pk, ⟨hO, hM, hE, hCx, ⟨hLO, hLR⟩, hRW, hBP, hQ, hWS, hZ, hT, hF, hW1, hW2, hW3⟩, hINV⟩⟩) dX9_discount_16
    · refine lv_iload_n hx hb dX9_discount_9 rfl (lv_at hl 2 rfl) ?_
      refine pw_bipush hx hb dX9_discount_10 ?_
      refine pw_icmp_le (tgt := 17) hx hb dX9_discount_12 (by decide) (fun c_12 => ?_) (fun c_12 => ?_)
      · refine lv_aload_n hx hb dX9_discount_17 rfl (lv_at hl 0 rfl) ?_
        refine pw_callVv (As := []) (rest := []) ⟨hx, hb, hml, hown, hts⟩ (c_forget l D E o0 rn (kn : Int) wq) (cwV 0 hts gX9_discount_X9_forget rfl rfl rfl (by decide +kernel) ⟨Nat.le_of_ble_eq_true rfl, Nat.le_of_ble_eq_true rfl⟩) hK hO rfl ⟨hO, hLO, hZ⟩ rfl hl.1 rfl (Nat.le_of_ble_eq_true rfl) dX9_discount_18 ⟨Nat.zero_le _, Nat.zero_le _⟩ hS (fun q h => by (try dsimp only at h); (try dsimp only); omega) (fun H1 locs1 ⟨hO, hLO, hZ⟩ hz1 hk1 hS => ?_)
        have hM := hM.k (fun q h1 h2 h3 => (hk1 _ h3 (by (try dsimp only); omega)))
        have hMO := hMO.k (hk1 _ hMO.lt (by (try dsimp only); omega))
        have hMC := hMC.k (hk1 _ hMC.lt (by (try dsimp only); omega))
        have hMQ := hMQ.k (hk1 _ hMQ.lt (by (try dsimp only); omega))
        have hAT := hAT.k (fun q h1 h2 h3 => (hk1 _ h3 (by (try dsimp only); omega)))
        have hE := hE.k (fun q h1 h2 h3 => (hk1 _ h3 (by (try dsimp only); omega)))
        have hCx := hCx.k (fun q h1 h2 h3 => (hk1 _ h3 (by (try dsimp only); omega)))
        have hLR := hLR.k (fun q h1 h2 h3 => (hk1 _ h3 (by (try dsimp only); omega)))
        have hRW := hRW.k (fun q h1 h2 h3 => (hk1 _ h3 (by (try dsimp only); omega)))
        have hBP := hBP.k (hk1 _ hBP.lt (by (try dsimp only); omega))
        have hQ := hQ.k (hk1 _ hQ.lt (by (try dsimp only); omega))
        have hWS := hWS.k (fun q h1 h2 h3 => (hk1 _ h3 (by (try dsimp only); omega)))
        have hT := hT.k (fun q h1 h2 h3 => (hk1 _ h3 (by (try dsimp only); omega)))
        have hF := hF.k (fun q h1 h2 h3 => (hk1 _ h3 (by (try dsimp only); omega)))
        have hW1 := hW1.k (fun q h1 h2 h3 => (hk1 _ h3 (by (try dsimp only); omega)))
        have hW2 := hW2.k (fun q h1 h2 h3 => (hk1 _ h3 (by (try dsimp only); omega)))
        have hW3 := hW3.k (fun q h1 h2 h3 => (hk1 _ h3 (by (try dsimp only); omega)))
        refine lv_aload_n hx hb dX9_discount_21 rfl (lv_at hl 0 rfl) ?_
        refine pw_get (C := RX9) (T := TX9) (N := 14) hx hb hts hin9 hown hK hO rfl 0 (by decide) lk_10 rfl rfl dX9_discount_22 ?_
        refine lv_iload_n hx hb dX9_discount_25 rfl (lv_at hl 1 rfl) ?_
        refine pw_asi ((x.toNat : Int)) (by omega) ?_
        refine pw_put (C := RX6) (T := TX6) (N := 5) hx hb hts hin6 tyX6 tyX6_ok nmX6 hown hK hMO hS (by (try dsimp only); omega) rfl 3 (by decide) lk_120 rfl rfl rfl rfl (by show _ < 5; decide) dX9_discount_26 (fun H1 locs1 hnew hz1 oq hS => ?_)
        have hO := hO.k (oq _ (by omega))
        have hMC := hMC.k (oq _ (by omega))
        have hMQ := hMQ.k (oq _ (by omega))
        have hAT := hAT.k (fun q h1 h2 h3 => (oq _ (by omega)))
        have hE := hE.k (fun q h1 h2 h3 => (oq _ (by omega)))
        have hCx := hCx.k (fun q h1 h2 h3 => (oq _ (by omega)))
        have hLO := hLO.k (oq _ (by omega))
        have hLR := hLR.k (fun q h1 h2 h3 => (oq _ (by omega)))
        have hRW := hRW.k (fun q h1 h2 h3 => (oq _ (by omega)))
        have hBP := hBP.k (oq _ (by omega))
        have hQ := hQ.k (oq _ (by omega))
        have hWS := hWS.k (fun q h1 h2 h3 => (oq _ (by omega)))
        have hZ := hZ.k (oq _ (by omega))
        have hT := hT.k (fun q h1 h2 h3 => (oq _ (by omega)))
        have hF := hF.k (fun q h1 h2 h3 => (oq _ (by omega)))
        have hW1 := hW1.k (fun q h1 h2 h3 => (oq _ (by omega)))
        have hW2 := hW2.k (fun q h1 h2 h3 => (oq _ (by omega)))
        have hW3 := hW3.k (fun q h1 h2 h3 => (oq _ (by omega)))
        have hMO : OA D (o0 + 1) 6 [.ref (o0 + 1 + 1), .ref (o0 + 1 + 2), .int (iI ((mN σ : Int))), .int (iI ((x.toNat : Int))), .int (iI ((mB σ : Int)))] H1 := hnew
        clear hnew oq hz1
        refine lv_aload_n hx hb dX9_discount_29 rfl (lv_at hl 0 rfl) ?_
        refine pw_get (C := RX9) (T := TX9) (N := 14) hx hb hts hin9 hown hK hO rfl 0 (by decide) lk_10 rfl rfl dX9_discount_30 ?_
        refine lv_iload_n hx hb dX9_discount_33 rfl (lv_at hl 2 rfl) ?_
        refine pw_asi ((y.toNat : Int)) (by omega) ?_
        refine pw_put (C := RX6) (T := TX6) (N := 5) hx hb hts hin6 tyX6 tyX6_ok nmX6 hown hK hMO hS (by (try dsimp only); omega) rfl 4 (by decide) lk_123 rfl rfl rfl rfl (by show _ < 5; decide) dX9_discount_34 (fun H1 locs1 hnew hz1 oq hS => ?_)
        have hO := hO.k (oq _ (by omega))
        have hMC := hMC.k (oq _ (by omega))
        have hMQ := hMQ.k (oq _ (by omega))
        have hAT := hAT.k (fun q h1 h2 h3 => (oq _ (by omega)))
        have hE := hE.k (fun q h1 h2 h3 => (oq _ (by omega)))
        have hCx := hCx.k (fun q h1 h2 h3 => (oq _ (by omega)))
        have hLO := hLO.k (oq _ (by omega))
        have hLR := hLR.k (fun q h1 h2 h3 => (oq _ (by omega)))
        have hRW := hRW.k (fun q h1 h2 h3 => (oq _ (by omega)))
        have hBP := hBP.k (oq _ (by omega))
        have hQ := hQ.k (oq _ (by omega))
        have hWS := hWS.k (fun q h1 h2 h3 => (oq _ (by omega)))
        have hZ := hZ.k (oq _ (by omega))
        have hT := hT.k (fun q h1 h2 h3 => (oq _ (by omega)))
        have hF := hF.k (fun q h1 h2 h3 => (oq _ (by omega)))
        have hW1 := hW1.k (fun q h1 h2 h3 => (oq _ (by omega)))
        have hW2 := hW2.k (fun q h1 h2 h3 => (oq _ (by omega)))
        have hW3 := hW3.k (fun q h1 h2 h3 => (oq _ (by omega)))
        have hMO : OA D (o0 + 1) 6 [.ref (o0 + 1 + 1), .ref (o0 + 1 + 2), .int (iI ((mN σ : Int))), .int (iI ((x.toNat : Int))), .int (iI ((y.toNat : Int)))] H1 := hnew
        clear hnew oq hz1
        refine pw_iconst hx hb dX9_discount_37 ?_
        exact pw_zret hx hb hr hlocks hS (by omega) (Or.inr ⟨by omega, by omega, by omega, rfl, ⟨bv, bd, bp, wn, wd, fun _ => 0, 0, V, B, pk, ⟨hO, ⟨hMO, hMC, hMQ, hAT⟩, hE, hCx, ⟨hLO, hLR⟩, hRW, hBP, hQ, hWS, hZ, hT, hF, hW1, hW2, hW3⟩, INV0 (sG_ok hok (by omega) (by omega))⟩⟩) dX9_discount_38
      · refine pw_iconst hx hb dX9_discount_15 ?_
        exact pw_zret hx hb hr hlocks hS (by omega) (Or.inl ⟨by omega, rfl, ⟨bv, bd, bp, wn, wd, wq, kn, V, B, pk, ⟨hO, hM, hE, hCx, ⟨hLO, hLR⟩, hRW, hBP, hQ, hWS, hZ, hT, hF, hW1, hW2, hW3⟩, hINV⟩⟩) dX9_discount_16
set_option maxHeartbeats 4000000 in
set_option maxRecDepth 100000 in
/-- policy(k) -/
theorem c_policy (l : Launch) (D : va_G) (E : Nat → ClassId) (o0 : Nat) (σ : MS) (rn k : Int) (k1 : -2147483648 ≤ k) (k2 : k ≤ 2147483647) : pw_M rvI l D E yX9_policy wsX9_policy ({ frames := 1, cells := 0, slots := 0, locals := 21 } : Room) [.ref (o0), .int (iI (k))] (fun H => PO D E o0 σ rn H) (fun z H => ((z = -1 ∧ (rn = 0 ∨ ¬ (0 ≤ k ∧ k < (mN σ : Int)))) ∨ (0 < rn ∧ 0 ≤ k ∧ k < (mN σ : Int) ∧ ∃ bp bv bd, SOL σ rn.toNat bp bv bd ∧ z = bp k.toNat)) ∧ PO D E o0 σ rn H) (fun q => o0 ≤ q ∧ q ≤ o0 + 582) (0) (0) := by
  refine pw_of (cc := cX9_policy) (maxL := 2) (ret := (some .int)) (by decide +kernel) rfl (Nat.le_of_ble_eq_true rfl) ?_
  intro p e s m args below meth c hx hb hr hml hts hown hlocks hini hK ⟨bv, bd, bp, wn, wd, wq, kn, V, B, pk, ⟨hO, hM, hE, hCx, hLD, hRW, hBP, hQ, hWS, hZ, hT, hF, hW1, hW2, hW3⟩, hINV⟩ ls hl
  have hown : s.vm.findClass RX9 = some m.cls := hown
  have hl : lv_has ls 2 [(0, .ref (o0)), (1, .int (iI (k)))] := hl
  have hS : va_S (fun q => o0 ≤ q ∧ q ≤ o0 + 582) s.heap s.heap [] := va_S.rf
  have lk_10 := hts (.fieldLink RX9 10 "PolicyWorks" "model" "LPolicyWorks$Model;") (by decide +kernel)
  have lk_46 := hts (.fieldLink RX9 46 "PolicyWorks" "bestPolicy" "[I") (by decide +kernel)
  have lk_81 := hts (.fieldLink RX9 81 "PolicyWorks" "rounds" "I") (by decide +kernel)
  have hin9 : ∀ w ∈ wsX90, w ∈ wsX9_policy := by decide +kernel
  have hMO := hM.1
  have hMC := hM.2.1
  have hMQ := hM.2.2.1
  have hAT : ATS D E (o0 + 1) σ s.heap := hM.2.2.2
  have hLO := hLD.1
  have hLR : LDR D E (o0 + 326) V B pk s.heap := hLD.2
  have hok := hINV.1
  have hrn := hINV.2.1
  have hN6 := hok.1
  have hC4 := hok.2.1
  refine lv_aload_n hx hb dX9_policy_0 rfl (lv_at hl 0 rfl) ?_
  refine pw_get (C := RX9) (T := TX9) (N := 14) hx hb hts hin9 hown hK hO rfl 13 (by decide) lk_81 rfl rfl dX9_policy_1 ?_
  refine pw_if_eq (tgt := 18) hx hb dX9_policy_4 (by decide) (fun c_4 => ?_) (fun c_4 => ?_)
  · refine pw_iconst hx hb dX9_policy_18 ?_
    exact pw_iret hx hb hr hlocks hS ⟨Or.inl ⟨rfl, Or.inl c_4⟩, ⟨bv, bd, bp, wn, wd, wq, kn, V, B, pk, ⟨hO, hM, hE, hCx, ⟨hLO, hLR⟩, hRW, hBP, hQ, hWS, hZ, hT, hF, hW1, hW2, hW3⟩, hINV⟩⟩ dX9_policy_19
  · refine lv_aload_n hx hb dX9_policy_7 rfl (lv_at hl 0 rfl) ?_
    refine pw_get (C := RX9) (T := TX9) (N := 14) hx hb hts hin9 hown hK hO rfl 0 (by decide) lk_10 rfl rfl dX9_policy_8 ?_
    refine lv_iload_n hx hb dX9_policy_11 rfl (lv_at hl 1 rfl) ?_
    refine pw_callVi (As := [.int (iI (k))]) (rest := []) ⟨hx, hb, hml, hown, hts⟩ (c_hasState l D E (o0 + 1) σ k hok (by omega) (by omega)) (cwV 1 hts gX9_policy_X6_hasState rfl rfl rfl (by decide +kernel) ⟨Nat.le_of_ble_eq_true rfl, Nat.le_of_ble_eq_true rfl⟩) hK hMO rfl hM rfl hl.1 rfl (Nat.le_of_ble_eq_true rfl) dX9_policy_12 ⟨Nat.zero_le _, Nat.zero_le _⟩ hS (fun q h => h.elim) (fun z H1 locs1 hz hz1 hk1 hS => ?_)
    have hO := hO.k (hk1 _ hO.lt (fun h => h))
    have hM := hM.k (fun q h1 h2 h3 => (hk1 _ h3 (fun h => h)))
    have hMO := hMO.k (hk1 _ hMO.lt (fun h => h))
    have hMC := hMC.k (hk1 _ hMC.lt (fun h => h))
    have hMQ := hMQ.k (hk1 _ hMQ.lt (fun h => h))
    have hAT := hAT.k (fun q h1 h2 h3 => (hk1 _ h3 (fun h => h)))
    have hE := hE.k (fun q h1 h2 h3 => (hk1 _ h3 (fun h => h)))
    have hCx := hCx.k (fun q h1 h2 h3 => (hk1 _ h3 (fun h => h)))
    have hLO := hLO.k (hk1 _ hLO.lt (fun h => h))
    have hLR := hLR.k (fun q h1 h2 h3 => (hk1 _ h3 (fun h => h)))
    have hRW := hRW.k (fun q h1 h2 h3 => (hk1 _ h3 (fun h => h)))
    have hBP := hBP.k (hk1 _ hBP.lt (fun h => h))
    have hQ := hQ.k (hk1 _ hQ.lt (fun h => h))
    have hWS := hWS.k (fun q h1 h2 h3 => (hk1 _ h3 (fun h => h)))
    have hZ := hZ.k (hk1 _ hZ.lt (fun h => h))
    have hT := hT.k (fun q h1 h2 h3 => (hk1 _ h3 (fun h => h)))
    have hF := hF.k (fun q h1 h2 h3 => (hk1 _ h3 (fun h => h)))
    have hW1 := hW1.k (fun q h1 h2 h3 => (hk1 _ h3 (fun h => h)))
    have hW2 := hW2.k (fun q h1 h2 h3 => (hk1 _ h3 (fun h => h)))
    have hW3 := hW3.k (fun q h1 h2 h3 => (hk1 _ h3 (fun h => h)))
    have hz01 : 0 ≤ z ∧ z ≤ 1 := by rw [hz]; split <;> omega
    refine pw_if_ne (tgt := 20) hx hb dX9_policy_15 (by decide) (fun c_15 => ?_) (fun c_15 => ?_)
    · have hkin : 0 ≤ k ∧ k < (mN σ : Int) := by
        by_cases h : 0 ≤ k ∧ k < (mN σ : Int)
        · exact h
        · rw [if_neg h] at hz; omega
      refine lv_aload_n hx hb dX9_policy_20 rfl (lv_at hl 0 rfl) ?_
      refine pw_get (C := RX9) (T := TX9) (N := 14) hx hb hts hin9 hown hK hO rfl 5 (by decide) lk_46 rfl rfl dX9_policy_21 ?_
      refine lv_iload_n hx hb dX9_policy_24 rfl (lv_at hl 1 rfl) ?_
      refine pw_iald hx hb hK hBP (k.toNat) (by omega) (by omega) (by omega) dX9_policy_25 ?_
      exact pw_iret hx hb hr hlocks hS ⟨Or.inr ⟨by omega, hkin.1, hkin.2, bp, bv, bd, (hINV.2.2.1 (by omega)).2, rfl⟩, ⟨bv, bd, bp, wn, wd, wq, kn, V, B, pk, ⟨hO, hM, hE, hCx, ⟨hLO, hLR⟩, hRW, hBP, hQ, hWS, hZ, hT, hF, hW1, hW2, hW3⟩, hINV⟩⟩ dX9_policy_26
    · refine pw_iconst hx hb dX9_policy_18 ?_
      exact pw_iret hx hb hr hlocks hS ⟨Or.inl ⟨rfl, Or.inr (fun h => by rw [if_pos h] at hz; omega)⟩, ⟨bv, bd, bp, wn, wd, wq, kn, V, B, pk, ⟨hO, hM, hE, hCx, ⟨hLO, hLR⟩, hRW, hBP, hQ, hWS, hZ, hT, hF, hW1, hW2, hW3⟩, hINV⟩⟩ dX9_policy_19
