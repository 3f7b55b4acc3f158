/-! the public methods: action, reward, move, count, value, gain, worth, steps, plan -/
def un (f : Nat → Nat) (j x : Nat) : Nat → Nat := fun q => if q = j then x else f q
theorem un_s (f : Nat → Nat) (j x : Nat) : un f j x j = x := if_pos rfl
theorem un_n (f : Nat → Nat) {j q : Nat} (x : Nat) (h : q ≠ j) : un f j x q = f q := if_neg h
def sAc (σ : MS) (s : Nat) : MS := (mN σ, un (mC σ) s (mC σ s + 1), mU σ, mD σ, mW σ, mA σ, mB σ)
def sRw (σ : MS) (i : Nat) (u : Int) (d : Nat) : MS := (mN σ, mC σ, ud (mU σ) i u, un (mD σ) i d, mW σ, mA σ, mB σ)
def sMv (σ : MS) (i t w : Nat) : MS := (mN σ, mC σ, mU σ, mD σ, (fun q => if q = i then un (mW σ i) t w else mW σ q), mA σ, mB σ)
theorem sAc_ok {σ : MS} (h : mOK σ) {s : Nat} (hs : s < mN σ) (hc : mC σ s < 4) : mOK (sAc σ s) := by
  obtain ⟨h1, h2, h3, h4, h5, h6, h7, h8⟩ := h
  refine ⟨h1, fun q hq => ?_, h3, h4, h5, fun q a b => ?_, fun q k a b d => ?_, h8⟩
  · show un (mC σ) s (mC σ s + 1) q ≤ 4
    by_cases e : q = s
    · rw [e, un_s]; omega
    · rw [un_n _ _ e]; exact h2 q hq
  · show un (mC σ) s (mC σ s + 1) q = 0
    have a : mN σ ≤ q := a
    rw [un_n _ _ (by omega)]; exact h6 q a b
  · have b : un (mC σ) s (mC σ s + 1) q ≤ k := b
    refine h7 q k a ?_ d
    by_cases e : q = s
    · rw [e, un_s] at b; rw [e]; omega
    · rw [un_n _ _ e] at b; exact b
theorem sRw_ok {σ : MS} (h : mOK σ) {s k : Nat} {u : Int} {d : Nat} (hs : s < mN σ) (hk : k < mC σ s) (hu1 : -1000 ≤ u) (hu2 : u ≤ 1000) (hd1 : 1 ≤ d) (hd2 : d ≤ 20) : mOK (sRw σ (4 * s + k) u d) := by
  obtain ⟨h1, h2, h3, h4, h5, h6, h7, h8⟩ := h
  refine ⟨h1, h2, fun q hq => ?_, h4, h5, h6, fun q j a b c => ?_, h8⟩
  · show -1000 ≤ ud (mU σ) (4 * s + k) u q ∧ ud (mU σ) (4 * s + k) u q ≤ 1000 ∧ 1 ≤ un (mD σ) (4 * s + k) d q ∧ un (mD σ) (4 * s + k) d q ≤ 20 ∧ _
    by_cases e : q = 4 * s + k
    · rw [e, ud_s, un_s]; exact ⟨hu1, hu2, hd1, hd2, (h3 _ (by omega)).2.2.2.2⟩
    · rw [ud_n _ _ e, un_n _ _ e]; exact h3 q hq
  · show ud (mU σ) (4 * s + k) u (4 * q + j) = 0 ∧ un (mD σ) (4 * s + k) d (4 * q + j) = 1 ∧ _
    have b : mC σ q ≤ j := b
    have hc4 := h2 s (by omega)
    have hne : 4 * q + j ≠ 4 * s + k := fun e => by
      have e1 : q = s := by omega
      subst e1
      omega
    rw [ud_n _ _ hne, un_n _ _ hne]
    exact h7 q j a b c
theorem sMv_ok {σ : MS} (h : mOK σ) {s k t w : Nat} (hs : s < mN σ) (hk : k < mC σ s) (ht : t < mN σ) (hw : w ≤ 20) : mOK (sMv σ (4 * s + k) t w) := by
  obtain ⟨h1, h2, h3, h4, h5, h6, h7, h8⟩ := h
  have hc4 := h2 s (by omega)
  refine ⟨h1, h2, fun q hq => ?_, h4, h5, h6, fun q j a b c => ?_, fun q r a b c => ?_⟩
  · obtain ⟨a1, a2, a3, a4, a5⟩ := h3 q hq
    refine ⟨a1, a2, a3, a4, fun r hr => ?_⟩
    show (if q = 4 * s + k then un (mW σ (4 * s + k)) t w else mW σ q) r ≤ 20
    by_cases e : q = 4 * s + k
    · rw [if_pos e]
      by_cases e2 : r = t
      · rw [e2, un_s]; exact hw
      · rw [un_n _ _ e2, ← e]; exact a5 r hr
    · rw [if_neg e]; exact a5 r hr
  · have b : mC σ q ≤ j := b
    have hne : 4 * q + j ≠ 4 * s + k := fun e => by
      have e1 : q = s := by omega
      subst e1
      omega
    obtain ⟨a1, a2, a3⟩ := h7 q j a b c
    refine ⟨a1, a2, fun r hr => ?_⟩
    show (if 4 * q + j = 4 * s + k then un (mW σ (4 * s + k)) t w else mW σ (4 * q + j)) r = 0
    rw [if_neg hne]; exact a3 r hr
  · have b : mN σ ≤ r := b
    show (if q = 4 * s + k then un (mW σ (4 * s + k)) t w else mW σ q) r = 0
    by_cases e : q = 4 * s + k
    · rw [if_pos e, un_n _ _ (by omega), ← e]; exact h8 q r a b c
    · rw [if_neg e]; exact h8 q r a b c
theorem sMv_T {σ : MS} {i t w : Nat} (ht : t < 6) : (mT (sMv σ i t w) i : Int) = (mT σ i : Int) + ((w : Int) - (mW σ i t : Int)) := by
  have e : ∀ r, mW (sMv σ i t w) i r = if r = t then w else mW σ i r := fun r => by
    show (if i = i then un (mW σ i) t w else mW σ i) r = _
    rw [if_pos rfl]; rfl
  unfold mT
  rw [e, e, e, e, e, e]
  rcases (show t = 0 ∨ t = 1 ∨ t = 2 ∨ t = 3 ∨ t = 4 ∨ t = 5 by omega) with h | h | h | h | h | h <;> subst h <;> simp <;> omega
theorem ATS.rw1 {D : va_G} {E : Nat → ClassId} {a : Nat} {σ : MS} {i : Nat} {u : Int} {d : Nat} {H : Heap} (h : ∀ j, j < 24 → j ≠ i → AT D E (a + 3 + 2 * j) σ j H) (hi : OA D (a + 3 + 2 * i) 0 [.ref (a + 3 + 2 * i + 1), .int (iI u), .int (iI (d : Int)), .int (iI (mT σ i : Int))] H) (hw : IA E (a + 3 + 2 * i + 1) 6 (fun t => (mW σ i t : Int)) H) : ATS D E a (sRw σ i u d) H := fun j hj => by
  by_cases e : j = i
  · subst e
    refine ⟨?_, hw⟩
    have e1 : mU (sRw σ j u d) j = u := ud_s _ _ _
    have e2 : mD (sRw σ j u d) j = d := un_s _ _ _
    rw [e1, e2]
    exact hi
  · have e1 : mU (sRw σ i u d) j = mU σ j := ud_n _ _ e
    have e2 : mD (sRw σ i u d) j = mD σ j := un_n _ _ e
    obtain ⟨p1, p2⟩ := h j hj e
    refine ⟨?_, p2⟩
    rw [e1, e2]
    exact p1
theorem ATS.mv1 {D : va_G} {E : Nat → ClassId} {a : Nat} {σ : MS} {i t w : Nat} {T : Int} {H : Heap} (ht : t < 6) (h : ∀ j, j < 24 → j ≠ i → AT D E (a + 3 + 2 * j) σ j H) (hi : OA D (a + 3 + 2 * i) 0 [.ref (a + 3 + 2 * i + 1), .int (iI (mU σ i)), .int (iI (mD σ i : Int)), .int (iI T)] H) (hT : T = (mT σ i : Int) + ((w : Int) - (mW σ i t : Int))) (hw : IA E (a + 3 + 2 * i + 1) 6 (ud (fun t => (mW σ i t : Int)) t (w : Int)) H) : ATS D E a (sMv σ i t w) H := fun j hj => by
  by_cases e : j = i
  · subst e
    refine ⟨?_, hw.to (fun r => ?_)⟩
    · rw [hT, ← sMv_T ht] at hi; exact hi
    · show ud (fun t => (mW σ j t : Int)) t (w : Int) r = (((if j = j then un (mW σ j) t w else mW σ j) r : Nat) : Int)
      rw [if_pos rfl]
      by_cases e2 : r = t
      · rw [e2, ud_s, un_s]
      · rw [ud_n _ _ e2, un_n _ _ e2]
  · obtain ⟨p1, p2⟩ := h j hj e
    have e1 : mW (sMv σ i t w) j = mW σ j := if_neg e
    have e2 : mT (sMv σ i t w) j = mT σ j := by unfold mT; rw [e1]
    refine ⟨?_, ?_⟩
    · rw [e2]; exact p1
    · rw [e1]; exact p2
def ATX (D : va_G) (E : Nat → ClassId) (a : Nat) (σ : MS) (i : Nat) (H : Heap) : Prop := ∀ j, j < 24 → j ≠ i → AT D E (a + 3 + 2 * j) σ j H
theorem ATX.k {D : va_G} {E : Nat → ClassId} {a : Nat} {σ : MS} {i : Nat} {H H1 : Heap} (h : ATX D E a σ i H) (hq : ∀ q, a + 3 ≤ q → q ≤ a + 50 ∧ q ≠ a + 3 + 2 * i ∧ q ≠ a + 3 + 2 * i + 1 → q < H.size → H1[q]? = H[q]?) : ATX D E a σ i H1 := fun j hj hne => ⟨(h j hj hne).1.k (hq _ (by omega) (by omega) (h j hj hne).1.lt), (h j hj hne).2.k (hq _ (by omega) (by omega) (h j hj hne).2.lt)⟩
set_option maxHeartbeats 4000000 in
set_option maxRecDepth 100000 in
/-- action(k) -/
theorem c_action (l : Launch) (D : va_G) (E : Nat → ClassId) (o0 : Nat) (σ : MS) (rn k : Int) (k1 : -2147483648 ≤ k) (k2 : k ≤ 2147483647) : pw_M rvI l D E yX9_action wsX9_action ({ frames := 1, cells := 0, slots := 0, locals := 21 } : Room) [.ref (o0), .int (iI (k))] (fun H => PO D E o0 σ rn H) (fun z H => (¬ ((0 ≤ k ∧ k < (mN σ : Int)) ∧ mC σ k.toNat < 4) ∧ z = -1 ∧ PO D E o0 σ rn H) ∨ ((0 ≤ k ∧ k < (mN σ : Int)) ∧ mC σ k.toNat < 4 ∧ z = (mC σ k.toNat : Int) ∧ PO D E o0 (sAc σ k.toNat) 0 H)) (fun q => o0 ≤ q ∧ q ≤ o0 + 582) (0) (0) := by
  refine pw_of (cc := cX9_action) (maxL := 2) (ret := (some .int)) (by decide +kernel) rfl (Nat.le_of_ble_eq_true rfl) ?_
  intro p e s m args below meth c hx hb hr hml hts hown hlocks hini hK ⟨bv, bd, bp, wn, wd, wq, kn, V, B, pk, ⟨hO, hM, hE, hCx, hLD, hRW, hBP, hQ, hWS, hZ, hT, hF, hW1, hW2, hW3⟩, hINV⟩ ls hl
  have hown : s.vm.findClass RX9 = some m.cls := hown
  have hl : lv_has ls 2 [(0, .ref (o0)), (1, .int (iI (k)))] := hl
  have hS : va_S (fun q => o0 ≤ q ∧ q ≤ o0 + 582) s.heap s.heap [] := va_S.rf
  have lk_10 := hts (.fieldLink RX9 10 "PolicyWorks" "model" "LPolicyWorks$Model;") (by decide +kernel)
  have lk_95 := hts (.fieldLink RX9 95 "PolicyWorks$Model" "actionCounts" "[I") (by decide +kernel)
  have hin6 : ∀ w ∈ wsX60, w ∈ wsX9_action := by decide +kernel
  have hin9 : ∀ w ∈ wsX90, w ∈ wsX9_action := by decide +kernel
  have hMO := hM.1
  have hMC := hM.2.1
  have hMQ := hM.2.2.1
  have hAT : ATS D E (o0 + 1) σ s.heap := hM.2.2.2
  have hLO := hLD.1
  have hLR : LDR D E (o0 + 326) V B pk s.heap := hLD.2
  have hok := hINV.1
  have hrn := hINV.2.1
  have hN6 := hok.1
  have hC4 := hok.2.1
  refine lv_aload_n hx hb dX9_action_0 rfl (lv_at hl 0 rfl) ?_
  refine pw_get (C := RX9) (T := TX9) (N := 14) hx hb hts hin9 hown hK hO rfl 0 (by decide) lk_10 rfl rfl dX9_action_1 ?_
  refine lv_iload_n hx hb dX9_action_4 rfl (lv_at hl 1 rfl) ?_
  refine pw_callVi (As := [.int (iI (k))]) (rest := []) ⟨hx, hb, hml, hown, hts⟩ (c_hasState l D E (o0 + 1) σ k hok (by omega) (by omega)) (cwV 1 hts gX9_action_X6_hasState rfl rfl rfl (by decide +kernel) ⟨Nat.le_of_ble_eq_true rfl, Nat.le_of_ble_eq_true rfl⟩) hK hMO rfl hM rfl hl.1 rfl (Nat.le_of_ble_eq_true rfl) dX9_action_5 ⟨Nat.zero_le _, Nat.zero_le _⟩ hS (fun q h => h.elim) (fun z H1 locs1 hz hz1 hk1 hS => ?_)
  have hO := hO.k (hk1 _ hO.lt (fun h => h))
  have hM := hM.k (fun q h1 h2 h3 => (hk1 _ h3 (fun h => h)))
  have hMO := hMO.k (hk1 _ hMO.lt (fun h => h))
  have hMC := hMC.k (hk1 _ hMC.lt (fun h => h))
  have hMQ := hMQ.k (hk1 _ hMQ.lt (fun h => h))
  have hAT := hAT.k (fun q h1 h2 h3 => (hk1 _ h3 (fun h => h)))
  have hE := hE.k (fun q h1 h2 h3 => (hk1 _ h3 (fun h => h)))
  have hCx := hCx.k (fun q h1 h2 h3 => (hk1 _ h3 (fun h => h)))
  have hLO := hLO.k (hk1 _ hLO.lt (fun h => h))
  have hLR := hLR.k (fun q h1 h2 h3 => (hk1 _ h3 (fun h => h)))
  have hRW := hRW.k (fun q h1 h2 h3 => (hk1 _ h3 (fun h => h)))
  have hBP := hBP.k (hk1 _ hBP.lt (fun h => h))
  have hQ := hQ.k (hk1 _ hQ.lt (fun h => h))
  have hWS := hWS.k (fun q h1 h2 h3 => (hk1 _ h3 (fun h => h)))
  have hZ := hZ.k (hk1 _ hZ.lt (fun h => h))
  have hT := hT.k (fun q h1 h2 h3 => (hk1 _ h3 (fun h => h)))
  have hF := hF.k (fun q h1 h2 h3 => (hk1 _ h3 (fun h => h)))
  have hW1 := hW1.k (fun q h1 h2 h3 => (hk1 _ h3 (fun h => h)))
  have hW2 := hW2.k (fun q h1 h2 h3 => (hk1 _ h3 (fun h => h)))
  have hW3 := hW3.k (fun q h1 h2 h3 => (hk1 _ h3 (fun h => h)))
  have hz01 : 0 ≤ z ∧ z ≤ 1 := by rw [hz]; split <;> omega
  refine pw_if_eq (tgt := 24) hx hb dX9_action_8 (by decide) (fun c_8 => ?_) (fun c_8 => ?_)
  · refine pw_iconst hx hb dX9_action_24 ?_
    exact pw_iret hx hb hr hlocks hS (Or.inl ⟨(fun h => by rw [if_pos h.1] at hz; omega), rfl, ⟨bv, bd, bp, wn, wd, wq, kn, V, B, pk, ⟨hO, hM, hE, hCx, ⟨hLO, hLR⟩, hRW, hBP, hQ, hWS, hZ, hT, hF, hW1, hW2, hW3⟩, hINV⟩⟩) dX9_action_25
  · have hkin : 0 ≤ k ∧ k < (mN σ : Int) := by
      by_cases h : 0 ≤ k ∧ k < (mN σ : Int)
      · exact h
      · rw [if_neg h] at hz; omega
    have hc4k := hC4 k.toNat (by omega)
    refine lv_aload_n hx hb dX9_action_11 rfl (lv_at hl 0 rfl) ?_
    refine pw_get (C := RX9) (T := TX9) (N := 14) hx hb hts hin9 hown hK hO rfl 0 (by decide) lk_10 rfl rfl dX9_action_12 ?_
    refine pw_get (C := RX6) (T := TX6) (N := 5) hx hb hts hin6 hown hK hMO rfl 0 (by decide) lk_95 rfl rfl dX9_action_15 ?_
    refine lv_iload_n hx hb dX9_action_18 rfl (lv_at hl 1 rfl) ?_
    refine pw_iald hx hb hK hMC (k.toNat) (by omega) (by omega) (by omega) dX9_action_19 ?_
    refine pw_asi ((mC σ (k.toNat) : Int)) rfl ?_
    refine pw_iconst hx hb dX9_action_20 ?_
    refine pw_icmp_lt (tgt := 26) hx hb dX9_action_21 (by decide) (fun c_21 => ?_) (fun c_21 => ?_)
    · refine lv_aload_n hx hb dX9_action_26 rfl (lv_at hl 0 rfl) ?_
      refine pw_callVv (As := []) (rest := []) ⟨hx, hb, hml, hown, hts⟩ (c_forget l D E o0 rn (kn : Int) wq) (cwV 0 hts gX9_action_X9_forget rfl rfl rfl (by decide +kernel) ⟨Nat.le_of_ble_eq_true rfl, Nat.le_of_ble_eq_true rfl⟩) hK hO rfl ⟨hO, hLO, hZ⟩ rfl hl.1 rfl (Nat.le_of_ble_eq_true rfl) dX9_action_27 ⟨Nat.zero_le _, Nat.zero_le _⟩ hS (fun q h => by (try dsimp only at h); (try dsimp only); omega) (fun H1 locs1 ⟨hO, hLO, hZ⟩ hz1 hk1 hS => ?_)
      have hM := hM.k (fun q h1 h2 h3 => (hk1 _ h3 (by (try dsimp only); omega)))
      have hMO := hMO.k (hk1 _ hMO.lt (by (try dsimp only); omega))
      have hMC := hMC.k (hk1 _ hMC.lt (by (try dsimp only); omega))
      have hMQ := hMQ.k (hk1 _ hMQ.lt (by (try dsimp only); omega))
      have hAT := hAT.k (fun q h1 h2 h3 => (hk1 _ h3 (by (try dsimp only); omega)))
      have hE := hE.k (fun q h1 h2 h3 => (hk1 _ h3 (by (try dsimp only); omega)))
      have hCx := hCx.k (fun q h1 h2 h3 => (hk1 _ h3 (by (try dsimp only); omega)))
      have hLR := hLR.k (fun q h1 h2 h3 => (hk1 _ h3 (by (try dsimp only); omega)))
      have hRW := hRW.k (fun q h1 h2 h3 => (hk1 _ h3 (by (try dsimp only); omega)))
      have hBP := hBP.k (hk1 _ hBP.lt (by (try dsimp only); omega))
      have hQ := hQ.k (hk1 _ hQ.lt (by (try dsimp only); omega))
      have hWS := hWS.k (fun q h1 h2 h3 => (hk1 _ h3 (by (try dsimp only); omega)))
      have hT := hT.k (fun q h1 h2 h3 => (hk1 _ h3 (by (try dsimp only); omega)))
      have hF := hF.k (fun q h1 h2 h3 => (hk1 _ h3 (by (try dsimp only); omega)))
      have hW1 := hW1.k (fun q h1 h2 h3 => (hk1 _ h3 (by (try dsimp only); omega)))
      have hW2 := hW2.k (fun q h1 h2 h3 => (hk1 _ h3 (by (try dsimp only); omega)))
      have hW3 := hW3.k (fun q h1 h2 h3 => (hk1 _ h3 (by (try dsimp only); omega)))
      refine lv_aload_n hx hb dX9_action_30 rfl (lv_at hl 0 rfl) ?_
      refine pw_get (C := RX9) (T := TX9) (N := 14) hx hb hts hin9 hown hK hO rfl 0 (by decide) lk_10 rfl rfl dX9_action_31 ?_
      refine pw_get (C := RX6) (T := TX6) (N := 5) hx hb hts hin6 hown hK hMO rfl 0 (by decide) lk_95 rfl rfl dX9_action_34 ?_
      refine lv_iload_n hx hb dX9_action_37 rfl (lv_at hl 1 rfl) ?_
      refine lv_dup2_11 hx hb dX9_action_38 rfl rfl ?_
      refine pw_iald hx hb hK hMC (k.toNat) (by omega) (by omega) (by omega) dX9_action_39 ?_
      refine pw_asi ((mC σ (k.toNat) : Int)) rfl ?_
      refine pw_iconst hx hb dX9_action_40 ?_
      refine pw_iadd hx hb dX9_action_41 ?_
      refine pw_iast hx hb hK hMC hS (by (try dsimp only); omega) (k.toNat) (by omega) (by omega) (by omega) dX9_action_42 (fun H1 locs1 hnew hz1 oq hS => ?_)
      have hO := hO.k (oq _ (by omega))
      have hMO := hMO.k (oq _ (by omega))
      have hMQ := hMQ.k (oq _ (by omega))
      have hAT := hAT.k (fun q h1 h2 h3 => (oq _ (by omega)))
      have hE := hE.k (fun q h1 h2 h3 => (oq _ (by omega)))
      have hCx := hCx.k (fun q h1 h2 h3 => (oq _ (by omega)))
      have hLO := hLO.k (oq _ (by omega))
      have hLR := hLR.k (fun q h1 h2 h3 => (oq _ (by omega)))
      have hRW := hRW.k (fun q h1 h2 h3 => (oq _ (by omega)))
      have hBP := hBP.k (oq _ (by omega))
      have hQ := hQ.k (oq _ (by omega))
      have hWS := hWS.k (fun q h1 h2 h3 => (oq _ (by omega)))
      have hZ := hZ.k (oq _ (by omega))
      have hT := hT.k (fun q h1 h2 h3 => (oq _ (by omega)))
      have hF := hF.k (fun q h1 h2 h3 => (oq _ (by omega)))
      have hW1 := hW1.k (fun q h1 h2 h3 => (oq _ (by omega)))
      have hW2 := hW2.k (fun q h1 h2 h3 => (oq _ (by omega)))
      have hW3 := hW3.k (fun q h1 h2 h3 => (oq _ (by omega)))
      have hMC := hnew
      clear hnew oq hz1
      refine lv_aload_n hx hb dX9_action_43 rfl (lv_at hl 0 rfl) ?_
      refine pw_get (C := RX9) (T := TX9) (N := 14) hx hb hts hin9 hown hK hO rfl 0 (by decide) lk_10 rfl rfl dX9_action_44 ?_
      refine pw_get (C := RX6) (T := TX6) (N := 5) hx hb hts hin6 hown hK hMO rfl 0 (by decide) lk_95 rfl rfl dX9_action_47 ?_
      refine lv_iload_n hx hb dX9_action_50 rfl (lv_at hl 1 rfl) ?_
      refine pw_iald hx hb hK hMC (k.toNat) (by omega) (by omega) (by omega) dX9_action_51 ?_
      refine pw_asi ((mC σ k.toNat : Int) + 1) (ud_s _ _ _) ?_
      refine pw_iconst hx hb dX9_action_52 ?_
      refine pw_isub hx hb dX9_action_53 ?_
      refine pw_asi ((mC σ k.toNat : Int)) (by omega) ?_
      have hMC2 : IA E (o0 + 1 + 1) 6 (fun s => (mC (sAc σ k.toNat) s : Int)) H1 := hMC.to (fun q => by
        show _ = ((un (mC σ) k.toNat (mC σ k.toNat + 1) q : Nat) : Int)
        by_cases e : q = k.toNat
        · rw [e, ud_s, un_s]; omega
        · rw [ud_n _ _ e, un_n _ _ e])
      exact pw_iret hx hb hr hlocks hS (Or.inr ⟨hkin, by omega, rfl, ⟨bv, bd, bp, wn, wd, fun _ => 0, 0, V, B, pk, ⟨hO, ⟨hMO, hMC2, hMQ, hAT⟩, hE, hCx, ⟨hLO, hLR⟩, hRW, hBP, hQ, hWS, hZ, hT, hF, hW1, hW2, hW3⟩, INV0 (sAc_ok hok (by omega) (by omega))⟩⟩) dX9_action_54
    · refine pw_iconst hx hb dX9_action_24 ?_
      exact pw_iret hx hb hr hlocks hS (Or.inl ⟨(fun h => by have := h.2; omega), rfl, ⟨bv, bd, bp, wn, wd, wq, kn, V, B, pk, ⟨hO, hM, hE, hCx, ⟨hLO, hLR⟩, hRW, hBP, hQ, hWS, hZ, hT, hF, hW1, hW2, hW3⟩, hINV⟩⟩) dX9_action_25
set_option maxHeartbeats 4000000 in
set_option maxRecDepth 100000 in
/-- reward(k, j, u, d) -/
theorem c_reward (l : Launch) (D : va_G) (E : Nat → ClassId) (o0 : Nat) (σ : MS) (rn k j u d : Int) (k1 : -2147483648 ≤ k) (k2 : k ≤ 2147483647) (j1 : -2147483648 ≤ j) (j2 : j ≤ 2147483647) (u1 : -2147483648 ≤ u) (u2 : u ≤ 2147483647) (d1 : -2147483648 ≤ d) (d2 : d ≤ 2147483647) : pw_M rvI l D E yX9_reward wsX9_reward ({ frames := 2, cells := 0, slots := 0, locals := 43 } : Room) [.ref (o0), .int (iI (k)), .int (iI (j)), .int (iI (u)), .int (iI (d))] (fun H => PO D E o0 σ rn H) (fun z H => (¬ ((0 ≤ k ∧ k < (mN σ : Int) ∧ 0 ≤ j ∧ j < (mC σ k.toNat : Int)) ∧ (-1000 ≤ u ∧ u ≤ 1000 ∧ 1 ≤ d ∧ d ≤ 20)) ∧ z = 0 ∧ PO D E o0 σ rn H) ∨ ((0 ≤ k ∧ k < (mN σ : Int) ∧ 0 ≤ j ∧ j < (mC σ k.toNat : Int)) ∧ (-1000 ≤ u ∧ u ≤ 1000 ∧ 1 ≤ d ∧ d ≤ 20) ∧ z = 1 ∧ PO D E o0 (sRw σ (4 * k.toNat + j.toNat) u d.toNat) 0 H)) (fun q => o0 ≤ q ∧ q ≤ o0 + 582) (0) (0) := by
  refine pw_of (cc := cX9_reward) (maxL := 7) (ret := (some .boolean)) (by decide +kernel) rfl (Nat.le_of_ble_eq_true rfl) ?_
  intro p e s m args below meth c hx hb hr hml hts hown hlocks hini hK ⟨bv, bd, bp, wn, wd, wq, kn, V, B, pk, ⟨hO, hM, hE, hCx, hLD, hRW, hBP, hQ, hWS, hZ, hT, hF, hW1, hW2, hW3⟩, hINV⟩ ls hl
  have hown : s.vm.findClass RX9 = some m.cls := hown
  have hl : lv_has ls 7 [(0, .ref (o0)), (1, .int (iI (k))), (2, .int (iI (j))), (3, .int (iI (u))), (4, .int (iI (d)))] := hl
  have hS : va_S (fun q => o0 ≤ q ∧ q ≤ o0 + 582) s.heap s.heap [] := va_S.rf
  have lk_10 := hts (.fieldLink RX9 10 "PolicyWorks" "model" "LPolicyWorks$Model;") (by decide +kernel)
  have lk_106 := hts (.fieldLink RX9 106 "PolicyWorks$Action" "above" "I") (by decide +kernel)
  have lk_111 := hts (.fieldLink RX9 111 "PolicyWorks$Action" "below" "I") (by decide +kernel)
  have hin0 : ∀ w ∈ wsX00, w ∈ wsX9_reward := by decide +kernel
  have hin9 : ∀ w ∈ wsX90, w ∈ wsX9_reward := by decide +kernel
  have hMO := hM.1
  have hMC := hM.2.1
  have hMQ := hM.2.2.1
  have hAT : ATS D E (o0 + 1) σ s.heap := hM.2.2.2
  have hLO := hLD.1
  have hLR : LDR D E (o0 + 326) V B pk s.heap := hLD.2
  have hok := hINV.1
  have hrn := hINV.2.1
  have hN6 := hok.1
  have hC4 := hok.2.1
  refine lv_iload_n hx hb dX9_reward_0 rfl (lv_at hl 3 rfl) ?_
  refine pw_sipush hx hb dX9_reward_1 ?_
  refine pw_icmp_lt (tgt := 31) hx hb dX9_reward_4 (by decide) (fun c_4 => ?_) (fun c_4 => ?_)
  · refine pw_iconst hx hb dX9_reward_31 ?_
    refine lv_istore (lv' := [(5, .int (iI (0))), (0, .ref (o0)), (1, .int (iI (k))), (2, .int (iI (j))), (3, .int (iI (u))), (4, .int (iI (d)))]) hx hb dX9_reward_32 hl (by decide) rfl (fun ls hl => ?_)
    refine lv_iload hx hb dX9_reward_34 (lv_at hl 0 rfl) ?_
    refine pw_if_eq (tgt := 51) hx hb dX9_reward_36 (by decide) (fun c_36 => ?_) (fun c_36 => absurd c_36 (by omega))
    refine pw_iconst hx hb dX9_reward_51 ?_
    exact pw_zret hx hb hr hlocks hS (by omega) (Or.inl ⟨(fun h => by omega), rfl, ⟨bv, bd, bp, wn, wd, wq, kn, V, B, pk, ⟨hO, hM, hE, hCx, ⟨hLO, hLR⟩, hRW, hBP, hQ, hWS, hZ, hT, hF, hW1, hW2, hW3⟩, hINV⟩⟩) dX9_reward_52
  · refine lv_iload_n hx hb dX9_reward_7 rfl (lv_at hl 3 rfl) ?_
    refine pw_sipush hx hb dX9_reward_8 ?_
    refine pw_icmp_gt (tgt := 31) hx hb dX9_reward_11 (by decide) (fun c_11 => ?_) (fun c_11 => ?_)
    · refine pw_iconst hx hb dX9_reward_31 ?_
      refine lv_istore (lv' := [(5, .int (iI (0))), (0, .ref (o0)), (1, .int (iI (k))), (2, .int (iI (j))), (3, .int (iI (u))), (4, .int (iI (d)))]) hx hb dX9_reward_32 hl (by decide) rfl (fun ls hl => ?_)
      refine lv_iload hx hb dX9_reward_34 (lv_at hl 0 rfl) ?_
      refine pw_if_eq (tgt := 51) hx hb dX9_reward_36 (by decide) (fun c_36 => ?_) (fun c_36 => absurd c_36 (by omega))
      refine pw_iconst hx hb dX9_reward_51 ?_
      exact pw_zret hx hb hr hlocks hS (by omega) (Or.inl ⟨(fun h => by omega), rfl, ⟨bv, bd, bp, wn, wd, wq, kn, V, B, pk, ⟨hO, hM, hE, hCx, ⟨hLO, hLR⟩, hRW, hBP, hQ, hWS, hZ, hT, hF, hW1, hW2, hW3⟩, hINV⟩⟩) dX9_reward_52
    · refine lv_iload hx hb dX9_reward_14 (lv_at hl 4 rfl) ?_
      refine pw_iconst hx hb dX9_reward_16 ?_
      refine pw_icmp_lt (tgt := 31) hx hb dX9_reward_17 (by decide) (fun c_17 => ?_) (fun c_17 => ?_)
      · refine pw_iconst hx hb dX9_reward_31 ?_
        refine lv_istore (lv' := [(5, .int (iI (0))), (0, .ref (o0)), (1, .int (iI (k))), (2, .int (iI (j))), (3, .int (iI (u))), (4, .int (iI (d)))]) hx hb dX9_reward_32 hl (by decide) rfl (fun ls hl => ?_)
        refine lv_iload hx hb dX9_reward_34 (lv_at hl 0 rfl) ?_
        refine pw_if_eq (tgt := 51) hx hb dX9_reward_36 (by decide) (fun c_36 => ?_) (fun c_36 => absurd c_36 (by omega))
        refine pw_iconst hx hb dX9_reward_51 ?_
        exact pw_zret hx hb hr hlocks hS (by omega) (Or.inl ⟨(fun h => by omega), rfl, ⟨bv, bd, bp, wn, wd, wq, kn, V, B, pk, ⟨hO, hM, hE, hCx, ⟨hLO, hLR⟩, hRW, hBP, hQ, hWS, hZ, hT, hF, hW1, hW2, hW3⟩, hINV⟩⟩) dX9_reward_52
      · refine lv_iload hx hb dX9_reward_20 (lv_at hl 4 rfl) ?_
        refine pw_bipush hx hb dX9_reward_22 ?_
        refine pw_icmp_gt (tgt := 31) hx hb dX9_reward_24 (by decide) (fun c_24 => ?_) (fun c_24 => ?_)
        · refine pw_iconst hx hb dX9_reward_31 ?_
          refine lv_istore (lv' := [(5, .int (iI (0))), (0, .ref (o0)), (1, .int (iI (k))), (2, .int (iI (j))), (3, .int (iI (u))), (4, .int (iI (d)))]) hx hb dX9_reward_32 hl (by decide) rfl (fun ls hl => ?_)
          refine lv_iload hx hb dX9_reward_34 (lv_at hl 0 rfl) ?_
          refine pw_if_eq (tgt := 51) hx hb dX9_reward_36 (by decide) (fun c_36 => ?_) (fun c_36 => absurd c_36 (by omega))
          refine pw_iconst hx hb dX9_reward_51 ?_
          exact pw_zret hx hb hr hlocks hS (by omega) (Or.inl ⟨(fun h => by omega), rfl, ⟨bv, bd, bp, wn, wd, wq, kn, V, B, pk, ⟨hO, hM, hE, hCx, ⟨hLO, hLR⟩, hRW, hBP, hQ, hWS, hZ, hT, hF, hW1, hW2, hW3⟩, hINV⟩⟩) dX9_reward_52
        · refine pw_iconst hx hb dX9_reward_27 ?_
          refine lv_goto (tgt := 32) hx hb dX9_reward_28 (by decide) ?_
          refine lv_istore (lv' := [(5, .int (iI (1))), (0, .ref (o0)), (1, .int (iI (k))), (2, .int (iI (j))), (3, .int (iI (u))), (4, .int (iI (d)))]) hx hb dX9_reward_32 hl (by decide) rfl (fun ls hl => ?_)
          refine lv_iload hx hb dX9_reward_34 (lv_at hl 0 rfl) ?_
          refine pw_if_eq (tgt := 51) hx hb dX9_reward_36 (by decide) (fun c_36 => absurd c_36 (by omega)) (fun c_36 => ?_)
          refine lv_aload_n hx hb dX9_reward_39 rfl (lv_at hl 1 rfl) ?_
          refine pw_get (C := RX9) (T := TX9) (N := 14) hx hb hts hin9 hown hK hO rfl 0 (by decide) lk_10 rfl rfl dX9_reward_40 ?_
          refine lv_iload_n hx hb dX9_reward_43 rfl (lv_at hl 2 rfl) ?_
          refine lv_iload_n hx hb dX9_reward_44 rfl (lv_at hl 3 rfl) ?_
          refine pw_callVi (As := [.int (iI (k)), .int (iI (j))]) (rest := []) ⟨hx, hb, hml, hown, hts⟩ (c_hasAction l D E (o0 + 1) σ k j hok k1 k2 j1 j2) (cwV 2 hts gX9_reward_X6_hasAction rfl rfl rfl (by decide +kernel) ⟨Nat.le_of_ble_eq_true rfl, Nat.le_of_ble_eq_true rfl⟩) hK hMO rfl hM rfl hl.1 rfl (Nat.le_of_ble_eq_true rfl) dX9_reward_45 ⟨Nat.zero_le _, Nat.zero_le _⟩ hS (fun q h => h.elim) (fun z H1 locs1 ⟨hz01, hzi⟩ hz1 hk1 hS => ?_)
          have hO := hO.k (hk1 _ hO.lt (fun h => h))
          have hM := hM.k (fun q h1 h2 h3 => (hk1 _ h3 (fun h => h)))
          have hMO := hMO.k (hk1 _ hMO.lt (fun h => h))
          have hMC := hMC.k (hk1 _ hMC.lt (fun h => h))
          have hMQ := hMQ.k (hk1 _ hMQ.lt (fun h => h))
          have hAT := hAT.k (fun q h1 h2 h3 => (hk1 _ h3 (fun h => h)))
          have hE := hE.k (fun q h1 h2 h3 => (hk1 _ h3 (fun h => h)))
          have hCx := hCx.k (fun q h1 h2 h3 => (hk1 _ h3 (fun h => h)))
          have hLO := hLO.k (hk1 _ hLO.lt (fun h => h))
          have hLR := hLR.k (fun q h1 h2 h3 => (hk1 _ h3 (fun h => h)))
          have hRW := hRW.k (fun q h1 h2 h3 => (hk1 _ h3 (fun h => h)))
          have hBP := hBP.k (hk1 _ hBP.lt (fun h => h))
          have hQ := hQ.k (hk1 _ hQ.lt (fun h => h))
          have hWS := hWS.k (fun q h1 h2 h3 => (hk1 _ h3 (fun h => h)))
          have hZ := hZ.k (hk1 _ hZ.lt (fun h => h))
          have hT := hT.k (fun q h1 h2 h3 => (hk1 _ h3 (fun h => h)))
          have hF := hF.k (fun q h1 h2 h3 => (hk1 _ h3 (fun h => h)))
          have hW1 := hW1.k (fun q h1 h2 h3 => (hk1 _ h3 (fun h => h)))
          have hW2 := hW2.k (fun q h1 h2 h3 => (hk1 _ h3 (fun h => h)))
          have hW3 := hW3.k (fun q h1 h2 h3 => (hk1 _ h3 (fun h => h)))
          refine pw_if_ne (tgt := 53) hx hb dX9_reward_48 (by decide) (fun c_48 => ?_) (fun c_48 => ?_)
          · have hin := hzi.mp (by omega)
            have hk0 : k = (k.toNat : Int) := by omega
            have hj0 : j = (j.toNat : Int) := by omega
            have hc4k := hC4 k.toNat (by omega)
            refine lv_aload_n hx hb dX9_reward_53 rfl (lv_at hl 1 rfl) ?_
            refine pw_callVv (As := []) (rest := []) ⟨hx, hb, hml, hown, hts⟩ (c_forget l D E o0 rn (kn : Int) wq) (cwV 0 hts gX9_reward_X9_forget rfl rfl rfl (by decide +kernel) ⟨Nat.le_of_ble_eq_true rfl, Nat.le_of_ble_eq_true rfl⟩) hK hO rfl ⟨hO, hLO, hZ⟩ rfl hl.1 rfl (Nat.le_of_ble_eq_true rfl) dX9_reward_54 ⟨Nat.zero_le _, Nat.zero_le _⟩ hS (fun q h => by (try dsimp only at h); (try dsimp only); omega) (fun H1 locs1 ⟨hO, hLO, hZ⟩ hz1 hk1 hS => ?_)
            have hM := hM.k (fun q h1 h2 h3 => (hk1 _ h3 (by (try dsimp only); omega)))
            have hMO := hMO.k (hk1 _ hMO.lt (by (try dsimp only); omega))
            have hMC := hMC.k (hk1 _ hMC.lt (by (try dsimp only); omega))
            have hMQ := hMQ.k (hk1 _ hMQ.lt (by (try dsimp only); omega))
            have hAT := hAT.k (fun q h1 h2 h3 => (hk1 _ h3 (by (try dsimp only); omega)))
            have hE := hE.k (fun q h1 h2 h3 => (hk1 _ h3 (by (try dsimp only); omega)))
            have hCx := hCx.k (fun q h1 h2 h3 => (hk1 _ h3 (by (try dsimp only); omega)))
            have hLR := hLR.k (fun q h1 h2 h3 => (hk1 _ h3 (by (try dsimp only); omega)))
            have hRW := hRW.k (fun q h1 h2 h3 => (hk1 _ h3 (by (try dsimp only); omega)))
            have hBP := hBP.k (hk1 _ hBP.lt (by (try dsimp only); omega))
            have hQ := hQ.k (hk1 _ hQ.lt (by (try dsimp only); omega))
            have hWS := hWS.k (fun q h1 h2 h3 => (hk1 _ h3 (by (try dsimp only); omega)))
            have hT := hT.k (fun q h1 h2 h3 => (hk1 _ h3 (by (try dsimp only); omega)))
            have hF := hF.k (fun q h1 h2 h3 => (hk1 _ h3 (by (try dsimp only); omega)))
            have hW1 := hW1.k (fun q h1 h2 h3 => (hk1 _ h3 (by (try dsimp only); omega)))
            have hW2 := hW2.k (fun q h1 h2 h3 => (hk1 _ h3 (by (try dsimp only); omega)))
            have hW3 := hW3.k (fun q h1 h2 h3 => (hk1 _ h3 (by (try dsimp only); omega)))
            have hAI := hAT (4 * k.toNat + j.toNat) (by omega)
            have hAO := hAI.1
            have hAW := hAI.2
            have hAX : ATX D E (o0 + 1) σ (4 * k.toNat + j.toNat) _ := fun q hq _ => hAT q hq
            refine lv_aload_n hx hb dX9_reward_57 rfl (lv_at hl 1 rfl) ?_
            refine pw_get (C := RX9) (T := TX9) (N := 14) hx hb hts hin9 hown hK hO rfl 0 (by decide) lk_10 rfl rfl dX9_reward_58 ?_
            refine lv_iload_n hx hb dX9_reward_61 rfl (lv_at hl 2 rfl) ?_
            refine lv_iload_n hx hb dX9_reward_62 rfl (lv_at hl 3 rfl) ?_
            have hMw : MO D E (o0 + 1) σ _ := ⟨hMO, hMC, hMQ, fun q hq => by
              by_cases e : q = (4 * k.toNat + j.toNat)
              · subst e; exact ⟨hAO, hAW⟩
              · exact hAX q hq e⟩
            refine pw_callVr (As := [.int (iI (k)), .int (iI (j))]) (rest := []) ⟨hx, hb, hml, hown, hts⟩ (show pw_M rvR l D E yX6_find wsX6_find _ [.ref (o0 + 1), .int (iI k), .int (iI j)] (fun H => MO D E (o0 + 1) σ H) (fun r H => r = o0 + 1 + 3 + 2 * (4 * k.toNat + j.toNat)) (fun _ => False) (0) (0) by rw [hk0, hj0]; exact c_find l D E (o0 + 1) σ k.toNat j.toNat (by omega) (by omega)) (cwV 2 hts gX9_reward_X6_find rfl rfl rfl (by decide +kernel) ⟨Nat.le_of_ble_eq_true rfl, Nat.le_of_ble_eq_true rfl⟩) hK hMO rfl hMw rfl hl.1 rfl (Nat.le_of_ble_eq_true rfl) dX9_reward_63 ⟨Nat.zero_le _, Nat.zero_le _⟩ hS (fun q h => h.elim) (fun z H1 locs1 hzf hz1 hk1 hS => ?_)
            have hO := hO.k (hk1 _ hO.lt (fun h => h))
            have hMO := hMO.k (hk1 _ hMO.lt (fun h => h))
            have hMC := hMC.k (hk1 _ hMC.lt (fun h => h))
            have hMQ := hMQ.k (hk1 _ hMQ.lt (fun h => h))
            have hE := hE.k (fun q h1 h2 h3 => (hk1 _ h3 (fun h => h)))
            have hCx := hCx.k (fun q h1 h2 h3 => (hk1 _ h3 (fun h => h)))
            have hLO := hLO.k (hk1 _ hLO.lt (fun h => h))
            have hLR := hLR.k (fun q h1 h2 h3 => (hk1 _ h3 (fun h => h)))
            have hRW := hRW.k (fun q h1 h2 h3 => (hk1 _ h3 (fun h => h)))
            have hBP := hBP.k (hk1 _ hBP.lt (fun h => h))
            have hQ := hQ.k (hk1 _ hQ.lt (fun h => h))
            have hWS := hWS.k (fun q h1 h2 h3 => (hk1 _ h3 (fun h => h)))
            have hZ := hZ.k (hk1 _ hZ.lt (fun h => h))
            have hT := hT.k (fun q h1 h2 h3 => (hk1 _ h3 (fun h => h)))
            have hF := hF.k (fun q h1 h2 h3 => (hk1 _ h3 (fun h => h)))
            have hW1 := hW1.k (fun q h1 h2 h3 => (hk1 _ h3 (fun h => h)))
            have hW2 := hW2.k (fun q h1 h2 h3 => (hk1 _ h3 (fun h => h)))
            have hW3 := hW3.k (fun q h1 h2 h3 => (hk1 _ h3 (fun h => h)))
            have hAX := hAX.k (fun q h1 h2 h3 => (hk1 _ h3 (fun h => h)))
            have hAO := hAO.k (hk1 _ hAO.lt (fun h => h))
            have hAW := hAW.k (hk1 _ hAW.lt (fun h => h))
            subst hzf
            refine lv_astore (lv' := [(6, .ref (o0 + 1 + 3 + 2 * (4 * k.toNat + j.toNat))), (5, .int (iI (1))), (0, .ref (o0)), (1, .int (iI (k))), (2, .int (iI (j))), (3, .int (iI (u))), (4, .int (iI (d)))]) hx hb dX9_reward_66 hl (by decide) rfl (fun ls hl => ?_)
            refine lv_aload hx hb dX9_reward_68 (lv_at hl 0 rfl) ?_
            refine lv_iload_n hx hb dX9_reward_70 rfl (lv_at hl 5 rfl) ?_
            refine pw_put (C := RX0) (T := TX0) (N := 4) hx hb hts hin0 tyX0 tyX0_ok nmX0 hown hK hAO hS (by (try dsimp only); omega) rfl 1 (by decide) lk_106 rfl rfl rfl rfl (by show _ < 4; decide) dX9_reward_71 (fun H1 locs1 hnew hz1 oq hS => ?_)
            have hO := hO.k (oq _ (by omega))
            have hMO := hMO.k (oq _ (by omega))
            have hMC := hMC.k (oq _ (by omega))
            have hMQ := hMQ.k (oq _ (by omega))
            have hE := hE.k (fun q h1 h2 h3 => (oq _ (by omega)))
            have hCx := hCx.k (fun q h1 h2 h3 => (oq _ (by omega)))
            have hLO := hLO.k (oq _ (by omega))
            have hLR := hLR.k (fun q h1 h2 h3 => (oq _ (by omega)))
            have hRW := hRW.k (fun q h1 h2 h3 => (oq _ (by omega)))
            have hBP := hBP.k (oq _ (by omega))
            have hQ := hQ.k (oq _ (by omega))
            have hWS := hWS.k (fun q h1 h2 h3 => (oq _ (by omega)))
            have hZ := hZ.k (oq _ (by omega))
            have hT := hT.k (fun q h1 h2 h3 => (oq _ (by omega)))
            have hF := hF.k (fun q h1 h2 h3 => (oq _ (by omega)))
            have hW1 := hW1.k (fun q h1 h2 h3 => (oq _ (by omega)))
            have hW2 := hW2.k (fun q h1 h2 h3 => (oq _ (by omega)))
            have hW3 := hW3.k (fun q h1 h2 h3 => (oq _ (by omega)))
            have hAX := hAX.k (fun q h1 h2 h3 => (oq _ (by omega)))
            have hAW := hAW.k (oq _ (by omega))
            have hAO : OA D (o0 + 1 + 3 + 2 * (4 * k.toNat + j.toNat)) 0 [.ref (o0 + 1 + 3 + 2 * (4 * k.toNat + j.toNat) + 1), .int (iI (u)), .int (iI ((mD σ (4 * k.toNat + j.toNat) : Int))), .int (iI ((mT σ (4 * k.toNat + j.toNat) : Int)))] H1 := hnew
            clear hnew oq hz1
            refine lv_aload hx hb dX9_reward_74 (lv_at hl 0 rfl) ?_
            refine lv_iload hx hb dX9_reward_76 (lv_at hl 6 rfl) ?_
            refine pw_asi ((d.toNat : Int)) (by omega) ?_
            refine pw_put (C := RX0) (T := TX0) (N := 4) hx hb hts hin0 tyX0 tyX0_ok nmX0 hown hK hAO hS (by (try dsimp only); omega) rfl 2 (by decide) lk_111 rfl rfl rfl rfl (by show _ < 4; decide) dX9_reward_78 (fun H1 locs1 hnew hz1 oq hS => ?_)
            have hO := hO.k (oq _ (by omega))
            have hMO := hMO.k (oq _ (by omega))
            have hMC := hMC.k (oq _ (by omega))
            have hMQ := hMQ.k (oq _ (by omega))
            have hE := hE.k (fun q h1 h2 h3 => (oq _ (by omega)))
            have hCx := hCx.k (fun q h1 h2 h3 => (oq _ (by omega)))
            have hLO := hLO.k (oq _ (by omega))
            have hLR := hLR.k (fun q h1 h2 h3 => (oq _ (by omega)))
            have hRW := hRW.k (fun q h1 h2 h3 => (oq _ (by omega)))
            have hBP := hBP.k (oq _ (by omega))
            have hQ := hQ.k (oq _ (by omega))
            have hWS := hWS.k (fun q h1 h2 h3 => (oq _ (by omega)))
            have hZ := hZ.k (oq _ (by omega))
            have hT := hT.k (fun q h1 h2 h3 => (oq _ (by omega)))
            have hF := hF.k (fun q h1 h2 h3 => (oq _ (by omega)))
            have hW1 := hW1.k (fun q h1 h2 h3 => (oq _ (by omega)))
            have hW2 := hW2.k (fun q h1 h2 h3 => (oq _ (by omega)))
            have hW3 := hW3.k (fun q h1 h2 h3 => (oq _ (by omega)))
            have hAX := hAX.k (fun q h1 h2 h3 => (oq _ (by omega)))
            have hAW := hAW.k (oq _ (by omega))
            have hAO : OA D (o0 + 1 + 3 + 2 * (4 * k.toNat + j.toNat)) 0 [.ref (o0 + 1 + 3 + 2 * (4 * k.toNat + j.toNat) + 1), .int (iI (u)), .int (iI ((d.toNat : Int))), .int (iI ((mT σ (4 * k.toNat + j.toNat) : Int)))] H1 := hnew
            clear hnew oq hz1
            refine pw_iconst hx hb dX9_reward_81 ?_
            exact pw_zret hx hb hr hlocks hS (by omega) (Or.inr ⟨hin, by omega, rfl, ⟨bv, bd, bp, wn, wd, fun _ => 0, 0, V, B, pk, ⟨hO, ⟨hMO, hMC, hMQ, ATS.rw1 hAX hAO hAW⟩, hE, hCx, ⟨hLO, hLR⟩, hRW, hBP, hQ, hWS, hZ, hT, hF, hW1, hW2, hW3⟩, INV0 (sRw_ok hok (by omega) (by omega) (by omega) (by omega) (by omega) (by omega))⟩⟩) dX9_reward_82
          · refine pw_iconst hx hb dX9_reward_51 ?_
            exact pw_zret hx hb hr hlocks hS (by omega) (Or.inl ⟨(fun h => by have := hzi.mpr h.1; omega), rfl, ⟨bv, bd, bp, wn, wd, wq, kn, V, B, pk, ⟨hO, hM, hE, hCx, ⟨hLO, hLR⟩, hRW, hBP, hQ, hWS, hZ, hT, hF, hW1, hW2, hW3⟩, hINV⟩⟩) dX9_reward_52
set_option maxHeartbeats 4000000 in
set_option maxRecDepth 100000 in
/-- move(k, j, t, x) -/
theorem c_move (l : Launch) (D : va_G) (E : Nat → ClassId) (o0 : Nat) (σ : MS) (rn k j t x : Int) (k1 : -2147483648 ≤ k) (k2 : k ≤ 2147483647) (j1 : -2147483648 ≤ j) (j2 : j ≤ 2147483647) (t1 : -2147483648 ≤ t) (t2 : t ≤ 2147483647) (x1 : -2147483648 ≤ x) (x2 : x ≤ 2147483647) : pw_M rvI l D E yX9_move wsX9_move ({ frames := 2, cells := 0, slots := 0, locals := 43 } : Room) [.ref (o0), .int (iI (k)), .int (iI (j)), .int (iI (t)), .int (iI (x))] (fun H => PO D E o0 σ rn H) (fun z H => (¬ ((0 ≤ k ∧ k < (mN σ : Int) ∧ 0 ≤ j ∧ j < (mC σ k.toNat : Int)) ∧ (0 ≤ t ∧ t < (mN σ : Int)) ∧ 0 ≤ x ∧ x ≤ 20) ∧ z = 0 ∧ PO D E o0 σ rn H) ∨ ((0 ≤ k ∧ k < (mN σ : Int) ∧ 0 ≤ j ∧ j < (mC σ k.toNat : Int)) ∧ (0 ≤ t ∧ t < (mN σ : Int)) ∧ (0 ≤ x ∧ x ≤ 20) ∧ z = 1 ∧ PO D E o0 (sMv σ (4 * k.toNat + j.toNat) t.toNat x.toNat) 0 H)) (fun q => o0 ≤ q ∧ q ≤ o0 + 582) (0) (0) := by
  refine pw_of (cc := cX9_move) (maxL := 7) (ret := (some .boolean)) (by decide +kernel) rfl (Nat.le_of_ble_eq_true rfl) ?_
  intro p e s m args below meth c hx hb hr hml hts hown hlocks hini hK ⟨bv, bd, bp, wn, wd, wq, kn, V, B, pk, ⟨hO, hM, hE, hCx, hLD, hRW, hBP, hQ, hWS, hZ, hT, hF, hW1, hW2, hW3⟩, hINV⟩ ls hl
  have hown : s.vm.findClass RX9 = some m.cls := hown
  have hl : lv_has ls 7 [(0, .ref (o0)), (1, .int (iI (k))), (2, .int (iI (j))), (3, .int (iI (t))), (4, .int (iI (x)))] := hl
  have hS : va_S (fun q => o0 ≤ q ∧ q ≤ o0 + 582) s.heap s.heap [] := va_S.rf
  have lk_10 := hts (.fieldLink RX9 10 "PolicyWorks" "model" "LPolicyWorks$Model;") (by decide +kernel)
  have lk_114 := hts (.fieldLink RX9 114 "PolicyWorks$Action" "total" "I") (by decide +kernel)
  have lk_117 := hts (.fieldLink RX9 117 "PolicyWorks$Action" "weights" "[I") (by decide +kernel)
  have hin0 : ∀ w ∈ wsX00, w ∈ wsX9_move := by decide +kernel
  have hin9 : ∀ w ∈ wsX90, w ∈ wsX9_move := by decide +kernel
  have hMO := hM.1
  have hMC := hM.2.1
  have hMQ := hM.2.2.1
  have hAT : ATS D E (o0 + 1) σ s.heap := hM.2.2.2
  have hLO := hLD.1
  have hLR : LDR D E (o0 + 326) V B pk s.heap := hLD.2
  have hok := hINV.1
  have hrn := hINV.2.1
  have hN6 := hok.1
  have hC4 := hok.2.1
  refine lv_iload hx hb dX9_move_0 (lv_at hl 4 rfl) ?_
  refine pw_if_lt (tgt := 27) hx hb dX9_move_2 (by decide) (fun c_2 => ?_) (fun c_2 => ?_)
  · refine pw_iconst hx hb dX9_move_27 ?_
    refine lv_istore (lv' := [(5, .int (iI (0))), (0, .ref (o0)), (1, .int (iI (k))), (2, .int (iI (j))), (3, .int (iI (t))), (4, .int (iI (x)))]) hx hb dX9_move_28 hl (by decide) rfl (fun ls hl => ?_)
    refine lv_iload hx hb dX9_move_30 (lv_at hl 0 rfl) ?_
    refine pw_if_eq (tgt := 47) hx hb dX9_move_32 (by decide) (fun c_32 => ?_) (fun c_32 => absurd c_32 (by omega))
    refine pw_iconst hx hb dX9_move_47 ?_
    exact pw_zret hx hb hr hlocks hS (by omega) (Or.inl ⟨(fun h => by omega), rfl, ⟨bv, bd, bp, wn, wd, wq, kn, V, B, pk, ⟨hO, hM, hE, hCx, ⟨hLO, hLR⟩, hRW, hBP, hQ, hWS, hZ, hT, hF, hW1, hW2, hW3⟩, hINV⟩⟩) dX9_move_48
  · refine lv_iload hx hb dX9_move_5 (lv_at hl 4 rfl) ?_
    refine pw_bipush hx hb dX9_move_7 ?_
    refine pw_icmp_gt (tgt := 27) hx hb dX9_move_9 (by decide) (fun c_9 => ?_) (fun c_9 => ?_)
    · refine pw_iconst hx hb dX9_move_27 ?_
      refine lv_istore (lv' := [(5, .int (iI (0))), (0, .ref (o0)), (1, .int (iI (k))), (2, .int (iI (j))), (3, .int (iI (t))), (4, .int (iI (x)))]) hx hb dX9_move_28 hl (by decide) rfl (fun ls hl => ?_)
      refine lv_iload hx hb dX9_move_30 (lv_at hl 0 rfl) ?_
      refine pw_if_eq (tgt := 47) hx hb dX9_move_32 (by decide) (fun c_32 => ?_) (fun c_32 => absurd c_32 (by omega))
      refine pw_iconst hx hb dX9_move_47 ?_
      exact pw_zret hx hb hr hlocks hS (by omega) (Or.inl ⟨(fun h => by omega), rfl, ⟨bv, bd, bp, wn, wd, wq, kn, V, B, pk, ⟨hO, hM, hE, hCx, ⟨hLO, hLR⟩, hRW, hBP, hQ, hWS, hZ, hT, hF, hW1, hW2, hW3⟩, hINV⟩⟩) dX9_move_48
    · refine lv_aload_n hx hb dX9_move_12 rfl (lv_at hl 0 rfl) ?_
      refine pw_get (C := RX9) (T := TX9) (N := 14) hx hb hts hin9 hown hK hO rfl 0 (by decide) lk_10 rfl rfl dX9_move_13 ?_
      refine lv_iload_n hx hb dX9_move_16 rfl (lv_at hl 3 rfl) ?_
      refine pw_callVi (As := [.int (iI (t))]) (rest := []) ⟨hx, hb, hml, hown, hts⟩ (c_hasState l D E (o0 + 1) σ t hok (by omega) (by omega)) (cwV 1 hts gX9_move_X6_hasState rfl rfl rfl (by decide +kernel) ⟨Nat.le_of_ble_eq_true rfl, Nat.le_of_ble_eq_true rfl⟩) hK hMO rfl hM rfl hl.1 rfl (Nat.le_of_ble_eq_true rfl) dX9_move_17 ⟨Nat.zero_le _, Nat.zero_le _⟩ hS (fun q h => h.elim) (fun z H1 locs1 hz hz1 hk1 hS => ?_)
      have hO := hO.k (hk1 _ hO.lt (fun h => h))
      have hM := hM.k (fun q h1 h2 h3 => (hk1 _ h3 (fun h => h)))
      have hMO := hMO.k (hk1 _ hMO.lt (fun h => h))
      have hMC := hMC.k (hk1 _ hMC.lt (fun h => h))
      have hMQ := hMQ.k (hk1 _ hMQ.lt (fun h => h))
      have hAT := hAT.k (fun q h1 h2 h3 => (hk1 _ h3 (fun h => h)))
      have hE := hE.k (fun q h1 h2 h3 => (hk1 _ h3 (fun h => h)))
      have hCx := hCx.k (fun q h1 h2 h3 => (hk1 _ h3 (fun h => h)))
      have hLO := hLO.k (hk1 _ hLO.lt (fun h => h))
      have hLR := hLR.k (fun q h1 h2 h3 => (hk1 _ h3 (fun h => h)))
      have hRW := hRW.k (fun q h1 h2 h3 => (hk1 _ h3 (fun h => h)))
      have hBP := hBP.k (hk1 _ hBP.lt (fun h => h))
      have hQ := hQ.k (hk1 _ hQ.lt (fun h => h))
      have hWS := hWS.k (fun q h1 h2 h3 => (hk1 _ h3 (fun h => h)))
      have hZ := hZ.k (hk1 _ hZ.lt (fun h => h))
      have hT := hT.k (fun q h1 h2 h3 => (hk1 _ h3 (fun h => h)))
      have hF := hF.k (fun q h1 h2 h3 => (hk1 _ h3 (fun h => h)))
      have hW1 := hW1.k (fun q h1 h2 h3 => (hk1 _ h3 (fun h => h)))
      have hW2 := hW2.k (fun q h1 h2 h3 => (hk1 _ h3 (fun h => h)))
      have hW3 := hW3.k (fun q h1 h2 h3 => (hk1 _ h3 (fun h => h)))
      have hz01 : 0 ≤ z ∧ z ≤ 1 := by rw [hz]; split <;> omega
      refine pw_if_eq (tgt := 27) hx hb dX9_move_20 (by decide) (fun c_20 => ?_) (fun c_20 => ?_)
      · refine pw_iconst hx hb dX9_move_27 ?_
        refine lv_istore (lv' := [(5, .int (iI (0))), (0, .ref (o0)), (1, .int (iI (k))), (2, .int (iI (j))), (3, .int (iI (t))), (4, .int (iI (x)))]) hx hb dX9_move_28 hl (by decide) rfl (fun ls hl => ?_)
        refine lv_iload hx hb dX9_move_30 (lv_at hl 0 rfl) ?_
        refine pw_if_eq (tgt := 47) hx hb dX9_move_32 (by decide) (fun c_32 => ?_) (fun c_32 => absurd c_32 (by omega))
        refine pw_iconst hx hb dX9_move_47 ?_
        exact pw_zret hx hb hr hlocks hS (by omega) (Or.inl ⟨(fun h => by rw [if_pos h.2.1] at hz; omega), rfl, ⟨bv, bd, bp, wn, wd, wq, kn, V, B, pk, ⟨hO, hM, hE, hCx, ⟨hLO, hLR⟩, hRW, hBP, hQ, hWS, hZ, hT, hF, hW1, hW2, hW3⟩, hINV⟩⟩) dX9_move_48
      · have htin : 0 ≤ t ∧ t < (mN σ : Int) := by
          by_cases h : 0 ≤ t ∧ t < (mN σ : Int)
          · exact h
          · rw [if_neg h] at hz; omega
        refine pw_iconst hx hb dX9_move_23 ?_
        refine lv_goto (tgt := 28) hx hb dX9_move_24 (by decide) ?_
        refine lv_istore (lv' := [(5, .int (iI (1))), (0, .ref (o0)), (1, .int (iI (k))), (2, .int (iI (j))), (3, .int (iI (t))), (4, .int (iI (x)))]) hx hb dX9_move_28 hl (by decide) rfl (fun ls hl => ?_)
        refine lv_iload hx hb dX9_move_30 (lv_at hl 0 rfl) ?_
        refine pw_if_eq (tgt := 47) hx hb dX9_move_32 (by decide) (fun c_32 => absurd c_32 (by omega)) (fun c_32 => ?_)
        refine lv_aload_n hx hb dX9_move_35 rfl (lv_at hl 1 rfl) ?_
        refine pw_get (C := RX9) (T := TX9) (N := 14) hx hb hts hin9 hown hK hO rfl 0 (by decide) lk_10 rfl rfl dX9_move_36 ?_
        refine lv_iload_n hx hb dX9_move_39 rfl (lv_at hl 2 rfl) ?_
        refine lv_iload_n hx hb dX9_move_40 rfl (lv_at hl 3 rfl) ?_
        refine pw_callVi (As := [.int (iI (k)), .int (iI (j))]) (rest := []) ⟨hx, hb, hml, hown, hts⟩ (c_hasAction l D E (o0 + 1) σ k j hok k1 k2 j1 j2) (cwV 2 hts gX9_move_X6_hasAction rfl rfl rfl (by decide +kernel) ⟨Nat.le_of_ble_eq_true rfl, Nat.le_of_ble_eq_true rfl⟩) hK hMO rfl hM rfl hl.1 rfl (Nat.le_of_ble_eq_true rfl) dX9_move_41 ⟨Nat.zero_le _, Nat.zero_le _⟩ hS (fun q h => h.elim) (fun z H1 locs1 ⟨hz01, hzi⟩ hz1 hk1 hS => ?_)
        have hO := hO.k (hk1 _ hO.lt (fun h => h))
        have hM := hM.k (fun q h1 h2 h3 => (hk1 _ h3 (fun h => h)))
        have hMO := hMO.k (hk1 _ hMO.lt (fun h => h))
        have hMC := hMC.k (hk1 _ hMC.lt (fun h => h))
        have hMQ := hMQ.k (hk1 _ hMQ.lt (fun h => h))
        have hAT := hAT.k (fun q h1 h2 h3 => (hk1 _ h3 (fun h => h)))
        have hE := hE.k (fun q h1 h2 h3 => (hk1 _ h3 (fun h => h)))
        have hCx := hCx.k (fun q h1 h2 h3 => (hk1 _ h3 (fun h => h)))
        have hLO := hLO.k (hk1 _ hLO.lt (fun h => h))
        have hLR := hLR.k (fun q h1 h2 h3 => (hk1 _ h3 (fun h => h)))
        have hRW := hRW.k (fun q h1 h2 h3 => (hk1 _ h3 (fun h => h)))
        have hBP := hBP.k (hk1 _ hBP.lt (fun h => h))
        have hQ := hQ.k (hk1 _ hQ.lt (fun h => h))
        have hWS := hWS.k (fun q h1 h2 h3 => (hk1 _ h3 (fun h => h)))
        have hZ := hZ.k (hk1 _ hZ.lt (fun h => h))
        have hT := hT.k (fun q h1 h2 h3 => (hk1 _ h3 (fun h => h)))
        have hF := hF.k (fun q h1 h2 h3 => (hk1 _ h3 (fun h => h)))
        have hW1 := hW1.k (fun q h1 h2 h3 => (hk1 _ h3 (fun h => h)))
        have hW2 := hW2.k (fun q h1 h2 h3 => (hk1 _ h3 (fun h => h)))
        have hW3 := hW3.k (fun q h1 h2 h3 => (hk1 _ h3 (fun h => h)))
        refine pw_if_ne (tgt := 49) hx hb dX9_move_44 (by decide) (fun c_44 => ?_) (fun c_44 => ?_)
        · have hin := hzi.mp (by omega)
          have hk0 : k = (k.toNat : Int) := by omega
          have hj0 : j = (j.toNat : Int) := by omega
          have hc4k := hC4 k.toNat (by omega)
          refine lv_aload_n hx hb dX9_move_49 rfl (lv_at hl 1 rfl) ?_
          refine pw_callVv (As := []) (rest := []) ⟨hx, hb, hml, hown, hts⟩ (c_forget l D E o0 rn (kn : Int) wq) (cwV 0 hts gX9_move_X9_forget rfl rfl rfl (by decide +kernel) ⟨Nat.le_of_ble_eq_true rfl, Nat.le_of_ble_eq_true rfl⟩) hK hO rfl ⟨hO, hLO, hZ⟩ rfl hl.1 rfl (Nat.le_of_ble_eq_true rfl) dX9_move_50 ⟨Nat.zero_le _, Nat.zero_le _⟩ hS (fun q h => by (try dsimp only at h); (try dsimp only); omega) (fun H1 locs1 ⟨hO, hLO, hZ⟩ hz1 hk1 hS => ?_)
          have hM := hM.k (fun q h1 h2 h3 => (hk1 _ h3 (by (try dsimp only); omega)))
          have hMO := hMO.k (hk1 _ hMO.lt (by (try dsimp only); omega))
          have hMC := hMC.k (hk1 _ hMC.lt (by (try dsimp only); omega))
          have hMQ := hMQ.k (hk1 _ hMQ.lt (by (try dsimp only); omega))
          have hAT := hAT.k (fun q h1 h2 h3 => (hk1 _ h3 (by (try dsimp only); omega)))
          have hE := hE.k (fun q h1 h2 h3 => (hk1 _ h3 (by (try dsimp only); omega)))
          have hCx := hCx.k (fun q h1 h2 h3 => (hk1 _ h3 (by (try dsimp only); omega)))
          have hLR := hLR.k (fun q h1 h2 h3 => (hk1 _ h3 (by (try dsimp only); omega)))
          have hRW := hRW.k (fun q h1 h2 h3 => (hk1 _ h3 (by (try dsimp only); omega)))
          have hBP := hBP.k (hk1 _ hBP.lt (by (try dsimp only); omega))
          have hQ := hQ.k (hk1 _ hQ.lt (by (try dsimp only); omega))
          have hWS := hWS.k (fun q h1 h2 h3 => (hk1 _ h3 (by (try dsimp only); omega)))
          have hT := hT.k (fun q h1 h2 h3 => (hk1 _ h3 (by (try dsimp only); omega)))
          have hF := hF.k (fun q h1 h2 h3 => (hk1 _ h3 (by (try dsimp only); omega)))
          have hW1 := hW1.k (fun q h1 h2 h3 => (hk1 _ h3 (by (try dsimp only); omega)))
          have hW2 := hW2.k (fun q h1 h2 h3 => (hk1 _ h3 (by (try dsimp only); omega)))
          have hW3 := hW3.k (fun q h1 h2 h3 => (hk1 _ h3 (by (try dsimp only); omega)))
          have hAI := hAT (4 * k.toNat + j.toNat) (by omega)
          have hAO := hAI.1
          have hAW := hAI.2
          have hAX : ATX D E (o0 + 1) σ (4 * k.toNat + j.toNat) _ := fun q hq _ => hAT q hq
          refine lv_aload_n hx hb dX9_move_53 rfl (lv_at hl 1 rfl) ?_
          refine pw_get (C := RX9) (T := TX9) (N := 14) hx hb hts hin9 hown hK hO rfl 0 (by decide) lk_10 rfl rfl dX9_move_54 ?_
          refine lv_iload_n hx hb dX9_move_57 rfl (lv_at hl 2 rfl) ?_
          refine lv_iload_n hx hb dX9_move_58 rfl (lv_at hl 3 rfl) ?_
          have hMw : MO D E (o0 + 1) σ _ := ⟨hMO, hMC, hMQ, fun q hq => by
            by_cases e : q = (4 * k.toNat + j.toNat)
            · subst e; exact ⟨hAO, hAW⟩
            · exact hAX q hq e⟩
          refine pw_callVr (As := [.int (iI (k)), .int (iI (j))]) (rest := []) ⟨hx, hb, hml, hown, hts⟩ (show pw_M rvR l D E yX6_find wsX6_find _ [.ref (o0 + 1), .int (iI k), .int (iI j)] (fun H => MO D E (o0 + 1) σ H) (fun r H => r = o0 + 1 + 3 + 2 * (4 * k.toNat + j.toNat)) (fun _ => False) (0) (0) by rw [hk0, hj0]; exact c_find l D E (o0 + 1) σ k.toNat j.toNat (by omega) (by omega)) (cwV 2 hts gX9_move_X6_find rfl rfl rfl (by decide +kernel) ⟨Nat.le_of_ble_eq_true rfl, Nat.le_of_ble_eq_true rfl⟩) hK hMO rfl hMw rfl hl.1 rfl (Nat.le_of_ble_eq_true rfl) dX9_move_59 ⟨Nat.zero_le _, Nat.zero_le _⟩ hS (fun q h => h.elim) (fun z H1 locs1 hzf hz1 hk1 hS => ?_)
          have hO := hO.k (hk1 _ hO.lt (fun h => h))
          have hMO := hMO.k (hk1 _ hMO.lt (fun h => h))
          have hMC := hMC.k (hk1 _ hMC.lt (fun h => h))
          have hMQ := hMQ.k (hk1 _ hMQ.lt (fun h => h))
          have hE := hE.k (fun q h1 h2 h3 => (hk1 _ h3 (fun h => h)))
          have hCx := hCx.k (fun q h1 h2 h3 => (hk1 _ h3 (fun h => h)))
          have hLO := hLO.k (hk1 _ hLO.lt (fun h => h))
          have hLR := hLR.k (fun q h1 h2 h3 => (hk1 _ h3 (fun h => h)))
          have hRW := hRW.k (fun q h1 h2 h3 => (hk1 _ h3 (fun h => h)))
          have hBP := hBP.k (hk1 _ hBP.lt (fun h => h))
          have hQ := hQ.k (hk1 _ hQ.lt (fun h => h))
          have hWS := hWS.k (fun q h1 h2 h3 => (hk1 _ h3 (fun h => h)))
          have hZ := hZ.k (hk1 _ hZ.lt (fun h => h))
          have hT := hT.k (fun q h1 h2 h3 => (hk1 _ h3 (fun h => h)))
          have hF := hF.k (fun q h1 h2 h3 => (hk1 _ h3 (fun h => h)))
          have hW1 := hW1.k (fun q h1 h2 h3 => (hk1 _ h3 (fun h => h)))
          have hW2 := hW2.k (fun q h1 h2 h3 => (hk1 _ h3 (fun h => h)))
          have hW3 := hW3.k (fun q h1 h2 h3 => (hk1 _ h3 (fun h => h)))
          have hAX := hAX.k (fun q h1 h2 h3 => (hk1 _ h3 (fun h => h)))
          have hAO := hAO.k (hk1 _ hAO.lt (fun h => h))
          have hAW := hAW.k (hk1 _ hAW.lt (fun h => h))
          subst hzf
          refine lv_astore (lv' := [(6, .ref (o0 + 1 + 3 + 2 * (4 * k.toNat + j.toNat))), (5, .int (iI (1))), (0, .ref (o0)), (1, .int (iI (k))), (2, .int (iI (j))), (3, .int (iI (t))), (4, .int (iI (x)))]) hx hb dX9_move_62 hl (by decide) rfl (fun ls hl => ?_)
          refine lv_aload hx hb dX9_move_64 (lv_at hl 0 rfl) ?_
          refine lv_dup hx hb dX9_move_66 rfl ?_
          refine pw_get (C := RX0) (T := TX0) (N := 4) hx hb hts hin0 hown hK hAO rfl 3 (by decide) lk_114 rfl rfl dX9_move_67 ?_
          refine lv_iload hx hb dX9_move_70 (lv_at hl 6 rfl) ?_
          refine pw_asi ((x.toNat : Int)) (by omega) ?_
          refine lv_aload hx hb dX9_move_72 (lv_at hl 0 rfl) ?_
          refine pw_get (C := RX0) (T := TX0) (N := 4) hx hb hts hin0 hown hK hAO rfl 0 (by decide) lk_117 rfl rfl dX9_move_74 ?_
          refine lv_iload_n hx hb dX9_move_77 rfl (lv_at hl 5 rfl) ?_
          refine pw_iald hx hb hK hAW (t.toNat) (by omega) (by omega) (by omega) dX9_move_78 ?_
          refine pw_asi ((mW σ (4 * k.toNat + j.toNat) (t.toNat) : Int)) rfl ?_
          refine pw_isub hx hb dX9_move_79 ?_
          refine pw_iadd hx hb dX9_move_80 ?_
          refine pw_put (C := RX0) (T := TX0) (N := 4) hx hb hts hin0 tyX0 tyX0_ok nmX0 hown hK hAO hS (by (try dsimp only); omega) rfl 3 (by decide) lk_114 rfl rfl rfl rfl (by show _ < 4; decide) dX9_move_81 (fun H1 locs1 hnew hz1 oq hS => ?_)
          have hO := hO.k (oq _ (by omega))
          have hMO := hMO.k (oq _ (by omega))
          have hMC := hMC.k (oq _ (by omega))
          have hMQ := hMQ.k (oq _ (by omega))
          have hE := hE.k (fun q h1 h2 h3 => (oq _ (by omega)))
          have hCx := hCx.k (fun q h1 h2 h3 => (oq _ (by omega)))
          have hLO := hLO.k (oq _ (by omega))
          have hLR := hLR.k (fun q h1 h2 h3 => (oq _ (by omega)))
          have hRW := hRW.k (fun q h1 h2 h3 => (oq _ (by omega)))
          have hBP := hBP.k (oq _ (by omega))
          have hQ := hQ.k (oq _ (by omega))
          have hWS := hWS.k (fun q h1 h2 h3 => (oq _ (by omega)))
          have hZ := hZ.k (oq _ (by omega))
          have hT := hT.k (fun q h1 h2 h3 => (oq _ (by omega)))
          have hF := hF.k (fun q h1 h2 h3 => (oq _ (by omega)))
          have hW1 := hW1.k (fun q h1 h2 h3 => (oq _ (by omega)))
          have hW2 := hW2.k (fun q h1 h2 h3 => (oq _ (by omega)))
          have hW3 := hW3.k (fun q h1 h2 h3 => (oq _ (by omega)))
          have hAX := hAX.k (fun q h1 h2 h3 => (oq _ (by omega)))
          have hAW := hAW.k (oq _ (by omega))
          have hAO : OA D (o0 + 1 + 3 + 2 * (4 * k.toNat + j.toNat)) 0 [.ref (o0 + 1 + 3 + 2 * (4 * k.toNat + j.toNat) + 1), .int (iI (mU σ (4 * k.toNat + j.toNat))), .int (iI ((mD σ (4 * k.toNat + j.toNat) : Int))), .int (iI (((mT σ (4 * k.toNat + j.toNat) : Int)) + (((x.toNat : Int)) - ((mW σ (4 * k.toNat + j.toNat) (t.toNat) : Int)))))] H1 := hnew
          clear hnew oq hz1
          refine lv_aload hx hb dX9_move_84 (lv_at hl 0 rfl) ?_
          refine pw_get (C := RX0) (T := TX0) (N := 4) hx hb hts hin0 hown hK hAO rfl 0 (by decide) lk_117 rfl rfl dX9_move_86 ?_
          refine lv_iload_n hx hb dX9_move_89 rfl (lv_at hl 5 rfl) ?_
          refine lv_iload hx hb dX9_move_90 (lv_at hl 6 rfl) ?_
          refine pw_asi ((x.toNat : Int)) (by omega) ?_
          refine pw_iast hx hb hK hAW hS (by (try dsimp only); omega) (t.toNat) (by omega) (by omega) (by omega) dX9_move_92 (fun H1 locs1 hnew hz1 oq hS => ?_)
          have hO := hO.k (oq _ (by omega))
          have hMO := hMO.k (oq _ (by omega))
          have hMC := hMC.k (oq _ (by omega))
          have hMQ := hMQ.k (oq _ (by omega))
          have hE := hE.k (fun q h1 h2 h3 => (oq _ (by omega)))
          have hCx := hCx.k (fun q h1 h2 h3 => (oq _ (by omega)))
          have hLO := hLO.k (oq _ (by omega))
          have hLR := hLR.k (fun q h1 h2 h3 => (oq _ (by omega)))
          have hRW := hRW.k (fun q h1 h2 h3 => (oq _ (by omega)))
          have hBP := hBP.k (oq _ (by omega))
          have hQ := hQ.k (oq _ (by omega))
          have hWS := hWS.k (fun q h1 h2 h3 => (oq _ (by omega)))
          have hZ := hZ.k (oq _ (by omega))
          have hT := hT.k (fun q h1 h2 h3 => (oq _ (by omega)))
          have hF := hF.k (fun q h1 h2 h3 => (oq _ (by omega)))
          have hW1 := hW1.k (fun q h1 h2 h3 => (oq _ (by omega)))
          have hW2 := hW2.k (fun q h1 h2 h3 => (oq _ (by omega)))
          have hW3 := hW3.k (fun q h1 h2 h3 => (oq _ (by omega)))
          have hAX := hAX.k (fun q h1 h2 h3 => (oq _ (by omega)))
          have hAO := hAO.k (oq _ (by omega))
          have hAW := hnew
          clear hnew oq hz1
          refine pw_iconst hx hb dX9_move_93 ?_
          exact pw_zret hx hb hr hlocks hS (by omega) (Or.inr ⟨hin, htin, by omega, rfl, ⟨bv, bd, bp, wn, wd, fun _ => 0, 0, V, B, pk, ⟨hO, ⟨hMO, hMC, hMQ, ATS.mv1 (by omega) hAX hAO rfl hAW⟩, hE, hCx, ⟨hLO, hLR⟩, hRW, hBP, hQ, hWS, hZ, hT, hF, hW1, hW2, hW3⟩, INV0 (sMv_ok hok (by omega) (by omega) (by omega) (by omega))⟩⟩) dX9_move_94
        · refine pw_iconst hx hb dX9_move_47 ?_
          exact pw_zret hx hb hr hlocks hS (by omega) (Or.inl ⟨(fun h => by have := hzi.mpr h.1; omega), rfl, ⟨bv, bd, bp, wn, wd, wq, kn, V, B, pk, ⟨hO, hM, hE, hCx, ⟨hLO, hLR⟩, hRW, hBP, hQ, hWS, hZ, hT, hF, hW1, hW2, hW3⟩, hINV⟩⟩) dX9_move_48
