/-! the common lower part of all rewards -/
theorem lcm_step {c b : Nat} (hb : 0 < b) : c * (b / Nat.gcd c b) = Nat.lcm c b := by
  unfold Nat.lcm
  rw [Nat.mul_div_assoc _ (Nat.gcd_dvd_right c b)]
theorem dvd_lcm_all {c b : Nat} (hc : c ∣ 232792560) (hb : b ∣ 232792560) : Nat.lcm c b ∣ 232792560 := Nat.lcm_dvd hc hb
set_option maxHeartbeats 4000000 in
set_option maxRecDepth 100000 in
/-- commonRewardBelow() -/
theorem c_commonBelow (l : Launch) (D : va_G) (E : Nat → ClassId) (a : Nat) (σ : MS) (hok : mOK σ) : pw_M rvI l D E yX6_commonRewardBelow wsX6_commonRewardBelow ({ frames := 2, cells := 0, slots := 0, locals := 62 } : Room) [.ref (a)] (fun H => MO D E a σ H) (fun z H => ∃ cm : Nat, z = (cm : Int) ∧ 0 < cm ∧ cm ∣ 232792560 ∧ ∀ s k, s < mN σ → k < mC σ s → mD σ (4 * s + k) ∣ cm) (fun _ => False) (0) (0) := by
  refine pw_of (cc := cX6_commonRewardBelow) (maxL := 5) (ret := (some .int)) (by decide +kernel) rfl (Nat.le_of_ble_eq_true rfl) ?_
  intro p e s m args below meth c hx hb hr hml hts hown hlocks hini hK hM ls hl
  have hown : s.vm.findClass RX6 = some m.cls := hown
  have hl : lv_has ls 5 [(0, .ref (a))] := hl
  have hS : va_S (fun _ => False) s.heap s.heap [] := va_S.rf
  have lk_9 := hts (.fieldLink RX6 9 "PolicyWorks$Model" "actionCounts" "[I") (by decide +kernel)
  have lk_22 := hts (.fieldLink RX6 22 "PolicyWorks$Model" "states" "I") (by decide +kernel)
  have lk_47 := hts (.fieldLink RX6 47 "PolicyWorks$Action" "below" "I") (by decide +kernel)
  have hin0 : ∀ w ∈ wsX00, w ∈ wsX6_commonRewardBelow := by decide +kernel
  have hin6 : ∀ w ∈ wsX60, w ∈ wsX6_commonRewardBelow := by decide +kernel
  have hO := hM.1
  have hC := hM.2.1
  have hQ := hM.2.2.1
  have hN6 := hok.1
  have hC4 := hok.2.1
  have inner : ∀ (i : Nat), i < mN σ → (∀ (cm : Nat) (H : Heap) (locs : List Loc) (ls : Array Slot), 0 < cm → cm ∣ 232792560 → (∀ s k, s < i + 1 → k < mC σ s → mD σ (4 * s + k) ∣ cm) → MO D E a σ H → va_S (fun _ => False) s.heap H locs → lv_has ls 5 [(0, .ref (a)), (1, .int (iI ((cm : Int)))), (2, .int (iI (((i + 1 : Nat) : Int))))] → W p l e ({ frames := 2, cells := 0, slots := 0, locals := 62 } : Room) s m args below meth c H locs (0) (0) (MQ below (pw_Q rvI (fun z H => ∃ cm : Nat, z = (cm : Int) ∧ 0 < cm ∧ cm ∣ 232792560 ∧ ∀ s k, s < mN σ → k < mC σ s → mD σ (4 * s + k) ∣ cm) (fun _ => False)) args s (0) (0) (fun _ => False)) (F0 m 4 ls [])) → ∀ (k j cm : Nat) (H : Heap) (locs : List Loc) (ls : Array Slot), j + k = mC σ i → 0 < cm → cm ∣ 232792560 → (∀ s k, s < i → k < mC σ s → mD σ (4 * s + k) ∣ cm) → (∀ k, k < j → mD σ (4 * i + k) ∣ cm) → MO D E a σ H → va_S (fun _ => False) s.heap H locs → lv_has ls 5 [(0, .ref (a)), (1, .int (iI ((cm : Int)))), (2, .int (iI ((i : Int)))), (3, .int (iI ((j : Int))))] → W p l e ({ frames := 2, cells := 0, slots := 0, locals := 62 } : Room) s m args below meth c H locs (0) (0) (MQ below (pw_Q rvI (fun z H => ∃ cm : Nat, z = (cm : Int) ∧ 0 < cm ∧ cm ∣ 232792560 ∧ ∀ s k, s < mN σ → k < mC σ s → mD σ (4 * s + k) ∣ cm) (fun _ => False)) args s (0) (0) (fun _ => False)) (F0 m 14 ls []) := by
    intro i hi next k
    have hc := hC4 i (by omega)
    induction k with
    | zero =>
      intro j cm H locs ls hj hc0 hcL h1 h2 hM hS hl
      have hO := hM.1
      have hC := hM.2.1
      have hQ := hM.2.2.1
      refine lv_iload_n hx hb dX6_commonRewardBelow_14 rfl (lv_at hl 3 rfl) ?_
      refine lv_aload_n hx hb dX6_commonRewardBelow_15 rfl (lv_at hl 0 rfl) ?_
      refine pw_get (C := RX6) (T := TX6) (N := 5) hx hb hts hin6 hown hK hO rfl 0 (by decide) lk_9 rfl rfl dX6_commonRewardBelow_16 ?_
      refine lv_iload_n hx hb dX6_commonRewardBelow_19 rfl (lv_at hl 2 rfl) ?_
      refine pw_iald hx hb hK hC (i) rfl (by omega) (by omega) dX6_commonRewardBelow_20 ?_
      refine pw_asi ((mC σ (i) : Int)) rfl ?_
      refine pw_icmp_ge (tgt := 53) hx hb dX6_commonRewardBelow_21 (by decide) (fun c_21 => ?_) (fun c_21 => absurd c_21 (by omega))
      refine lv_iinc (v := iI (((i + 1 : Nat) : Int))) (lv' := [(2, .int (iI (((i + 1 : Nat) : Int)))), (0, .ref (a)), (1, .int (iI ((cm : Int)))), (3, .int (iI ((j : Int))))]) hx hb dX6_commonRewardBelow_53 hl (k := 2) rfl (by show iI _ + iI _ = _; exact (iI_add _ _).trans (by first | rfl | (congr 1; omega))) (by decide) rfl (fun ls hl => ?_)
      refine lv_goto (tgt := 4) hx hb dX6_commonRewardBelow_56 (by decide) ?_
      exact next cm _ _ _ hc0 hcL (fun s k a1 a2 => by
        by_cases e : s = i
        · subst e; exact h2 k (by omega)
        · exact h1 s k (by omega) a2) hM hS (lv_sub hl [1, 2, 0] rfl)
    | succ k ih =>
      intro j cm H locs ls hj hc0 hcL h1 h2 hM hS hl
      have hO := hM.1
      have hC := hM.2.1
      have hQ := hM.2.2.1
      have hok1 := hok.2.2.1 (4 * i + j) (by omega)
      have hcle := Nat.le_of_dvd (by omega) hcL
      have hgp := Nat.gcd_pos_of_pos_left (mD σ (4 * i + j)) hc0
      have hgd := Nat.gcd_dvd_right cm (mD σ (4 * i + j))
      have hgle := Nat.le_of_dvd (by omega) hgd
      have hlc := lcm_step (c := cm) (b := mD σ (4 * i + j)) (by omega)
      have hlL := dvd_lcm_all hcL (dvd_L (mD σ (4 * i + j)) (by omega) (by omega))
      have hlle := Nat.le_of_dvd (by omega) hlL
      have hlp : 0 < Nat.lcm cm (mD σ (4 * i + j)) := Nat.lcm_pos hc0 (by omega)
      refine lv_iload_n hx hb dX6_commonRewardBelow_14 rfl (lv_at hl 3 rfl) ?_
      refine lv_aload_n hx hb dX6_commonRewardBelow_15 rfl (lv_at hl 0 rfl) ?_
      refine pw_get (C := RX6) (T := TX6) (N := 5) hx hb hts hin6 hown hK hO rfl 0 (by decide) lk_9 rfl rfl dX6_commonRewardBelow_16 ?_
      refine lv_iload_n hx hb dX6_commonRewardBelow_19 rfl (lv_at hl 2 rfl) ?_
      refine pw_iald hx hb hK hC (i) rfl (by omega) (by omega) dX6_commonRewardBelow_20 ?_
      refine pw_asi ((mC σ (i) : Int)) rfl ?_
      refine pw_icmp_ge (tgt := 53) hx hb dX6_commonRewardBelow_21 (by decide) (fun c_21 => absurd c_21 (by omega)) (fun c_21 => ?_)
      refine lv_aload_n hx hb dX6_commonRewardBelow_24 rfl (lv_at hl 0 rfl) ?_
      refine lv_iload_n hx hb dX6_commonRewardBelow_25 rfl (lv_at hl 2 rfl) ?_
      refine lv_iload_n hx hb dX6_commonRewardBelow_26 rfl (lv_at hl 3 rfl) ?_
      refine pw_callVr (As := [.int (iI ((i : Int))), .int (iI ((j : Int)))]) (rest := []) ⟨hx, hb, hml, hown, hts⟩ (c_find l D E a σ i j (by omega) (by omega)) (cwV 2 hts gX6_commonRewardBelow_X6_find rfl rfl rfl (by decide +kernel) ⟨Nat.le_of_ble_eq_true rfl, Nat.le_of_ble_eq_true rfl⟩) hK hO rfl hM rfl hl.1 rfl (Nat.le_of_ble_eq_true rfl) dX6_commonRewardBelow_27 ⟨Nat.zero_le _, Nat.zero_le _⟩ hS (fun q h => h.elim) (fun z H1 locs1 hz hz1 hk1 hS => ?_)
      have hO := hO.k (hk1 _ hO.lt (fun h => h))
      have hC := hC.k (hk1 _ hC.lt (fun h => h))
      have hQ := hQ.k (hk1 _ hQ.lt (fun h => h))
      have hM := hM.k (fun q _ _ hlt => hk1 q hlt (fun h => h))
      subst hz
      have hAO := (hM.2.2.2 (4 * i + j) (by omega)).1
      refine pw_get (C := RX0) (T := TX0) (N := 4) hx hb hts hin0 hown hK hAO rfl 2 (by decide) lk_47 rfl rfl dX6_commonRewardBelow_30 ?_
      refine lv_istore (lv' := [(4, .int (iI ((mD σ (4 * i + j) : Int)))), (0, .ref (a)), (1, .int (iI ((cm : Int)))), (2, .int (iI ((i : Int)))), (3, .int (iI ((j : Int))))]) hx hb dX6_commonRewardBelow_33 hl (by decide) rfl (fun ls hl => ?_)
      refine lv_iload_n hx hb dX6_commonRewardBelow_35 rfl (lv_at hl 2 rfl) ?_
      refine lv_iload hx hb dX6_commonRewardBelow_36 (lv_at hl 0 rfl) ?_
      refine lv_iload_n hx hb dX6_commonRewardBelow_38 rfl (lv_at hl 2 rfl) ?_
      refine lv_iload hx hb dX6_commonRewardBelow_39 (lv_at hl 0 rfl) ?_
      refine pw_callSi (As := [.int (iI ((cm : Int))), .int (iI ((mD σ (4 * i + j) : Int)))]) (rest := [.int (iI ((mD σ (4 * i + j) : Int))), .int (iI ((cm : Int)))]) ⟨hx, hb, hml, hown, hts⟩ (c_cdSmall l D E cm (mD σ (4 * i + j)) (by omega) (by omega) (by omega) (by omega)) (va_cwS 2 hts gX6_commonRewardBelow_X6_commonDivisor rfl rfl rfl (by decide +kernel) ⟨Nat.le_of_ble_eq_true rfl, Nat.le_of_ble_eq_true rfl⟩) hK trivial rfl hl.1 rfl (Nat.le_of_ble_eq_true rfl) dX6_commonRewardBelow_41 ⟨Nat.zero_le _, Nat.zero_le _⟩ hS (fun q h => h.elim) (fun z H1 locs1 hz hz1 hk1 hS => ?_)
      have hO := hO.k (hk1 _ hO.lt (fun h => h))
      have hC := hC.k (hk1 _ hC.lt (fun h => h))
      have hQ := hQ.k (hk1 _ hQ.lt (fun h => h))
      have hM := hM.k (fun q _ _ hlt => hk1 q hlt (fun h => h))
      have hAO := hAO.k (hk1 _ hAO.lt (fun h => h))
      subst hz
      refine pw_idiv hx hb dX6_commonRewardBelow_44 (by omega) ?_
      refine pw_asi (((mD σ (4 * i + j) / Nat.gcd cm (mD σ (4 * i + j)) : Nat) : Int)) (nat_td _ _) ?_
      refine pw_imul hx hb dX6_commonRewardBelow_45 ?_
      refine pw_asi (((Nat.lcm cm (mD σ (4 * i + j)) : Nat) : Int)) (by rw [← Int.natCast_mul, hlc]) ?_
      refine lv_istore_n (lv' := [(1, .int (iI (((Nat.lcm cm (mD σ (4 * i + j)) : Nat) : Int)))), (4, .int (iI ((mD σ (4 * i + j) : Int)))), (0, .ref (a)), (2, .int (iI ((i : Int)))), (3, .int (iI ((j : Int))))]) hx hb dX6_commonRewardBelow_46 rfl hl (by decide) rfl (fun ls hl => ?_)
      refine lv_iinc (v := iI (((j + 1 : Nat) : Int))) (lv' := [(3, .int (iI (((j + 1 : Nat) : Int)))), (1, .int (iI (((Nat.lcm cm (mD σ (4 * i + j)) : Nat) : Int)))), (4, .int (iI ((mD σ (4 * i + j) : Int)))), (0, .ref (a)), (2, .int (iI ((i : Int))))]) hx hb dX6_commonRewardBelow_47 hl (k := 4) rfl (by show iI _ + iI _ = _; exact (iI_add _ _).trans (by first | rfl | (congr 1; omega))) (by decide) rfl (fun ls hl => ?_)
      refine lv_goto (tgt := 14) hx hb dX6_commonRewardBelow_50 (by decide) ?_
      exact ih (j + 1) _ _ _ _ (by omega) hlp hlL (fun s k a1 a2 => Nat.dvd_trans (h1 s k a1 a2) (Nat.dvd_lcm_left _ _)) (fun k a1 => by
        by_cases e : k = j
        · subst e; exact Nat.dvd_lcm_right _ _
        · exact Nat.dvd_trans (h2 k (by omega)) (Nat.dvd_lcm_left _ _)) hM hS (lv_sub hl [3, 1, 4, 0] rfl)
  have outer : ∀ (k i cm : Nat) (H : Heap) (locs : List Loc) (ls : Array Slot), i + k = mN σ → 0 < cm → cm ∣ 232792560 → (∀ s k, s < i → k < mC σ s → mD σ (4 * s + k) ∣ cm) → MO D E a σ H → va_S (fun _ => False) s.heap H locs → lv_has ls 5 [(0, .ref (a)), (1, .int (iI ((cm : Int)))), (2, .int (iI ((i : Int))))] → W p l e ({ frames := 2, cells := 0, slots := 0, locals := 62 } : Room) s m args below meth c H locs (0) (0) (MQ below (pw_Q rvI (fun z H => ∃ cm : Nat, z = (cm : Int) ∧ 0 < cm ∧ cm ∣ 232792560 ∧ ∀ s k, s < mN σ → k < mC σ s → mD σ (4 * s + k) ∣ cm) (fun _ => False)) args s (0) (0) (fun _ => False)) (F0 m 4 ls []) := by
    intro k
    induction k with
    | zero =>
      intro i cm H locs ls hi hc0 hcL h1 hM hS hl
      have hO := hM.1
      have hC := hM.2.1
      have hQ := hM.2.2.1
      refine lv_iload_n hx hb dX6_commonRewardBelow_4 rfl (lv_at hl 2 rfl) ?_
      refine lv_aload_n hx hb dX6_commonRewardBelow_5 rfl (lv_at hl 0 rfl) ?_
      refine pw_get (C := RX6) (T := TX6) (N := 5) hx hb hts hin6 hown hK hO rfl 2 (by decide) lk_22 rfl rfl dX6_commonRewardBelow_6 ?_
      refine pw_icmp_ge (tgt := 59) hx hb dX6_commonRewardBelow_9 (by decide) (fun c_9 => ?_) (fun c_9 => absurd c_9 (by omega))
      refine lv_iload_n hx hb dX6_commonRewardBelow_59 rfl (lv_at hl 1 rfl) ?_
      exact pw_iret hx hb hr hlocks hS ⟨cm, rfl, hc0, hcL, fun s k a1 a2 => h1 s k (by omega) a2⟩ dX6_commonRewardBelow_60
    | succ k ih =>
      intro i cm H locs ls hi hc0 hcL h1 hM hS hl
      have hO := hM.1
      have hC := hM.2.1
      have hQ := hM.2.2.1
      refine lv_iload_n hx hb dX6_commonRewardBelow_4 rfl (lv_at hl 2 rfl) ?_
      refine lv_aload_n hx hb dX6_commonRewardBelow_5 rfl (lv_at hl 0 rfl) ?_
      refine pw_get (C := RX6) (T := TX6) (N := 5) hx hb hts hin6 hown hK hO rfl 2 (by decide) lk_22 rfl rfl dX6_commonRewardBelow_6 ?_
      refine pw_icmp_ge (tgt := 59) hx hb dX6_commonRewardBelow_9 (by decide) (fun c_9 => absurd c_9 (by omega)) (fun c_9 => ?_)
      refine pw_iconst hx hb dX6_commonRewardBelow_12 ?_
      refine lv_istore_n (lv' := [(3, .int (iI (0))), (0, .ref (a)), (1, .int (iI ((cm : Int)))), (2, .int (iI ((i : Int))))]) hx hb dX6_commonRewardBelow_13 rfl hl (by decide) rfl (fun ls hl => ?_)
      exact inner i (by omega) (fun cm H locs ls a1 a2 a3 hM hS hl => ih (i + 1) cm H locs ls (by omega) a1 a2 a3 hM hS hl) (mC σ i) 0 cm _ _ _ (by omega) hc0 hcL h1 (fun k h => by omega) hM hS (lv_sub hl [1, 2, 3, 0] rfl)
  refine pw_iconst hx hb dX6_commonRewardBelow_0 ?_
  refine lv_istore_n (lv' := [(1, .int (iI (1))), (0, .ref (a))]) hx hb dX6_commonRewardBelow_1 rfl hl (by decide) rfl (fun ls hl => ?_)
  refine pw_iconst hx hb dX6_commonRewardBelow_2 ?_
  refine lv_istore_n (lv' := [(2, .int (iI (0))), (1, .int (iI (1))), (0, .ref (a))]) hx hb dX6_commonRewardBelow_3 rfl hl (by decide) rfl (fun ls hl => ?_)
  exact outer (mN σ) 0 1 _ _ _ (by omega) (by omega) (Nat.one_dvd _) (fun s k h => by omega) hM hS (lv_sub hl [2, 1, 0] rfl)
