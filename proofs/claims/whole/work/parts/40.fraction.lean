/-! fractions: told by parts -/
theorem WH.o {D : va_G} {E : Nat → ClassId} {a n : Nat} {v : Int} {H : Heap} (h : WH D E a n v H) : ∃ fs, OA D a 8 fs H := by
  obtain ⟨k, h2, _⟩ := h
  exact ⟨_, h2.1⟩
theorem WH.r {D : va_G} {E : Nat → ClassId} {a n : Nat} {v : Int} {H : Heap} (h : WH D E a n v H) : ∃ k : Nat, WR D E a n (wdig v) k v.sign H := by
  obtain ⟨k, h2, _⟩ := h
  exact ⟨k, h2⟩
theorem WH.b {D : va_G} {E : Nat → ClassId} {a n : Nat} {v : Int} {H : Heap} (h : WH D E a n v H) : v.natAbs < 1000000 ^ n := by
  obtain ⟨k, _, h3⟩ := h
  exact wh_bound h3
theorem WH.bi {D : va_G} {E : Nat → ClassId} {a n : Nat} {v : Int} {H : Heap} (h : WH D E a n v H) : -(1000000 ^ n) < v ∧ v < 1000000 ^ n := int_lt h.b
/-- a fraction's cells -/
def FR (D : va_G) (E : Nat → ClassId) (a : Nat) (u w o1 o2 o3 : Int) (H : Heap) : Prop := OA D a 3 [.ref (a + 1), .ref (a + 3), .ref (a + 5), .ref (a + 7), .ref (a + 9)] H ∧ WH D E (a + 1) 24 u H ∧ WH D E (a + 3) 24 w H ∧ WH D E (a + 5) 24 o1 H ∧ WH D E (a + 7) 24 o2 H ∧ WH D E (a + 9) 24 o3 H
theorem FR.k {D : va_G} {E : Nat → ClassId} {a : Nat} {u w o1 o2 o3 : Int} {H H1 : Heap} (h : FR D E a u w o1 o2 o3 H) (hq : ∀ q, a ≤ q → q ≤ a + 10 → q < H.size → H1[q]? = H[q]?) : FR D E a u w o1 o2 o3 H1 := by
  obtain ⟨h0, h1, h2, h3, h4, h5⟩ := h
  have l5 := h5.lt
  exact ⟨h0.k (hq _ (by omega) (by omega) (by omega)), h1.k (hq _ (by omega) (by omega) (by omega)) (hq _ (by omega) (by omega) (by omega)), h2.k (hq _ (by omega) (by omega) (by omega)) (hq _ (by omega) (by omega) (by omega)), h3.k (hq _ (by omega) (by omega) (by omega)) (hq _ (by omega) (by omega) (by omega)), h4.k (hq _ (by omega) (by omega) (by omega)) (hq _ (by omega) (by omega) (by omega)), h5.k (hq _ (by omega) (by omega) (by omega)) (hq _ (by omega) (by omega) (by omega))⟩
def gg (u w : Int) : Nat := Nat.gcd u.natAbs w.natAbs
theorem gg_step {x y : Int} (hx : 0 ≤ x) (hy : 0 < y) : gg y (x % y) = gg x y := by
  unfold gg
  obtain ⟨xn, rfl⟩ : ∃ xn : Nat, x = (xn : Int) := ⟨x.natAbs, by omega⟩
  obtain ⟨yn, rfl⟩ : ∃ yn : Nat, y = (yn : Int) := ⟨y.natAbs, by omega⟩
  rw [← Int.natCast_emod, Int.natAbs_natCast, Int.natAbs_natCast, Int.natAbs_natCast, Nat.gcd_comm yn, ← Nat.gcd_rec yn xn, Nat.gcd_comm]
theorem gg_abs (u w : Int) : gg (u.natAbs : Int) w = gg u w := by unfold gg; rw [Int.natAbs_natCast]
theorem gg_pos {u w : Int} (hw : 0 < w) : 0 < gg u w := Nat.gcd_pos_of_pos_right _ (by omega)
/-- Euclid's turns: how far the lesser one has come down -/
def eu (w x y : Int) (T : Nat) : Prop := 0 ≤ x ∧ 0 ≤ y ∧ y * 2 ^ (T / 2) ≤ w ∧ (T = 0 ∨ (y < x ∧ x * 2 ^ ((T - 1) / 2) ≤ w))
theorem eu_step {w x y : Int} {T : Nat} (h : eu w x y T) (hy : 0 < y) (hx : T = 0 → y = w) : eu w y (x % y) (T + 1) := by
  obtain ⟨h0, h1, h2, h3⟩ := h
  have m1 := Int.emod_nonneg x (show y ≠ 0 by omega)
  have m2 := Int.emod_lt_of_pos x hy
  refine ⟨by omega, m1, ?_, Or.inr ⟨m2, by rw [Nat.add_sub_cancel]; exact h2⟩⟩
  rcases h3 with h3 | ⟨h3, h4⟩
  · have := hx h3
    subst h3
    simp
    omega
  · by_cases hT : T = 0
    · have := hx hT
      subst hT
      simp
      omega
    · have e : (T + 1) / 2 = (T - 1) / 2 + 1 := by omega
      rw [e, Int.pow_succ]
      have hp : (0 : Int) < 2 ^ ((T - 1) / 2) := Int.pow_pos (by omega)
      have hh : x % y * 2 ≤ x := by
        have a1 := Int.emod_add_mul_ediv x y
        have a2 : 1 ≤ x / y := by
          have := Int.ediv_le_ediv hy (show y ≤ x by omega)
          rw [Int.ediv_self (by omega)] at this
          exact this
        have a3 : y * 1 ≤ y * (x / y) := Int.mul_le_mul_of_nonneg_left a2 (by omega)
        omega
      have a4 : x % y * 2 * 2 ^ ((T - 1) / 2) ≤ x * 2 ^ ((T - 1) / 2) := Int.mul_le_mul_of_nonneg_right hh (by omega)
      rw [Int.mul_comm (2 ^ ((T - 1) / 2)) 2, ← Int.mul_assoc]
      omega
theorem eu_end {w x y : Int} {T : Nat} (h : eu w x y T) (hw : w < 1000000 ^ 24) (hy : 0 < y) : T < 960 := by
  obtain ⟨h0, h1, h2, h3⟩ := h
  rcases Nat.lt_or_ge T 960 with h | h
  · exact h
  · exfalso
    have a1 : (2 : Int) ^ 480 ≤ 2 ^ (T / 2) := by
      have h1 : ((2 ^ 480 : Nat) : Int) ≤ ((2 ^ (T / 2) : Nat) : Int) := Int.ofNat_le.mpr (Nat.pow_le_pow_right (by omega) (by omega))
      rw [Int.natCast_pow, Int.natCast_pow] at h1
      exact h1
    have a2 : 1 * (2 : Int) ^ (T / 2) ≤ y * 2 ^ (T / 2) := Int.mul_le_mul_of_nonneg_right (by omega) (by have : (0 : Int) < 2 ^ (T / 2) := Int.pow_pos (by omega); omega)
    have a3 : (1000000 : Int) ^ 24 < 2 ^ 480 := by decide +kernel
    omega
/-- what a fraction tells by a part -/
def tellZ (u w part : Int) : Int := if part = -1 then u.sign else if part % 2 = 0 then ((e18 (u.natAbs / gg u w) (part / 2).toNat : Nat) : Int) else ((e18 (w.natAbs / gg u w) (part / 2).toNat : Nat) : Int)
set_option maxHeartbeats 4000000 in
set_option maxRecDepth 100000 in
/-- commonDivisor() -/
theorem c_comDiv (l : Launch) (D : va_G) (E : Nat → ClassId) (a : Nat) (u w o1 o2 o3 : Int) (hu0 : 0 ≤ u) (hw0 : 0 < w) : pw_M rvR l D E yX3_commonDivisor wsX3_commonDivisor ({ frames := 3, cells := 0, slots := 0, locals := 80 } : Room) [.ref (a)] (fun H => FR D E a u w o1 o2 o3 H) (fun r H => ((r = a + 5 ∧ WH D E (a + 5) 24 (gg u w : Int) H ∧ ∃ o2, WH D E (a + 7) 24 o2 H) ∨ (r = a + 7 ∧ WH D E (a + 7) 24 (gg u w : Int) H ∧ ∃ o1, WH D E (a + 5) 24 o1 H)) ∧ ∃ o3, WH D E (a + 9) 24 o3 H) (fun q => a + 5 ≤ q ∧ q ≤ a + 10) (0) (0) := by
  refine pw_of (cc := cX3_commonDivisor) (maxL := 5) (ret := (some (.object "PolicyWorks$Whole"))) (by decide +kernel) rfl (Nat.le_of_ble_eq_true rfl) ?_
  intro p e s m args below meth c hx hb hr hml hts hown hlocks hini hK ⟨hF, hU, hV, h5, h7, h9⟩ ls hl
  have hown : s.vm.findClass RX3 = some m.cls := hown
  have hl : lv_has ls 5 [(0, .ref (a))] := hl
  have hS : va_S (fun q => a + 5 ≤ q ∧ q ≤ a + 10) s.heap s.heap [] := va_S.rf
  have lk_14 := hts (.fieldLink RX3 14 "PolicyWorks$Fraction" "above" "LPolicyWorks$Whole;") (by decide +kernel)
  have lk_20 := hts (.fieldLink RX3 20 "PolicyWorks$Fraction" "below" "LPolicyWorks$Whole;") (by decide +kernel)
  have lk_23 := hts (.fieldLink RX3 23 "PolicyWorks$Fraction" "one" "LPolicyWorks$Whole;") (by decide +kernel)
  have lk_26 := hts (.fieldLink RX3 26 "PolicyWorks$Fraction" "other" "LPolicyWorks$Whole;") (by decide +kernel)
  have lk_29 := hts (.fieldLink RX3 29 "PolicyWorks$Fraction" "quotient" "LPolicyWorks$Whole;") (by decide +kernel)
  have lk_58 := hts (.fieldLink RX3 58 "PolicyWorks$Whole" "size" "I") (by decide +kernel)
  have hin3 : ∀ w ∈ wsX30, w ∈ wsX3_commonDivisor := by decide +kernel
  have hin8 : ∀ w ∈ wsX80, w ∈ wsX3_commonDivisor := by decide +kernel
  have hub := hU.bi
  have hwb := hV.bi
  have loop : ∀ (k T G L : Nat) (x y q : Int) (H : Heap) (locs : List Loc) (ls : Array Slot), T + k = 960 → (G = a + 5 ∧ L = a + 7 ∨ G = a + 7 ∧ L = a + 5) → eu w x y T → (T = 0 → y = w) → gg x y = gg u w → OA D (a) 3 [.ref (a + 1), .ref (a + 3), .ref (a + 5), .ref (a + 7), .ref (a + 9)] H → WH D E G 24 x H → WH D E L 24 y H → WH D E (a + 9) 24 q H → va_S (fun q => a + 5 ≤ q ∧ q ≤ a + 10) s.heap H locs → lv_has ls 5 [(0, .ref (a)), (1, .ref (G)), (2, .ref (L)), (3, .int (iI ((T : Int))))] → W p l e ({ frames := 3, cells := 0, slots := 0, locals := 80 } : Room) s m args below meth c H locs (0) (0) (MQ below (pw_Q rvR (fun r H => ((r = a + 5 ∧ WH D E (a + 5) 24 (gg u w : Int) H ∧ ∃ o2, WH D E (a + 7) 24 o2 H) ∨ (r = a + 7 ∧ WH D E (a + 7) 24 (gg u w : Int) H ∧ ∃ o1, WH D E (a + 5) 24 o1 H)) ∧ ∃ o3, WH D E (a + 9) 24 o3 H) (fun q => a + 5 ≤ q ∧ q ≤ a + 10)) args s (0) (0) (fun q => a + 5 ≤ q ∧ q ≤ a + 10)) (F0 m 28 ls []) := by
    intro k
    induction k with
    | zero =>
      intro T G L x y q H locs ls hT hGL heu hTy hg hF hG hLL h9 hS hl
      obtain ⟨kL, ⟨hOL, hLL0⟩, hkL⟩ := hLL
      have hkz := wk_z hkL
      have hkL1 := hkL.1
      have hy0 : y = 0 := by
        rcases Int.lt_or_le 0 y with h | h
        · have := eu_end heu hwb.2 h; omega
        · have := heu.2.1; omega
      have hk0 := hkz.mpr hy0
      refine lv_iload_n hx hb dX3_commonDivisor_28 rfl (lv_at hl 3 rfl) ?_
      refine pw_sipush hx hb dX3_commonDivisor_29 ?_
      refine pw_icmp_ge (tgt := 65) hx hb dX3_commonDivisor_32 (by decide) (fun c_32 => absurd c_32 (by omega)) (fun c_32 => ?_)
      refine lv_aload_n hx hb dX3_commonDivisor_35 rfl (lv_at hl 2 rfl) ?_
      refine pw_get (C := RX8) (T := TX8) (N := 3) hx hb hts hin8 hown hK hOL rfl 1 (by decide) lk_58 rfl rfl dX3_commonDivisor_36 ?_
      refine pw_if_le (tgt := 65) hx hb dX3_commonDivisor_39 (by decide) (fun c_39 => ?_) (fun c_39 => absurd c_39 (by omega))
      refine lv_aload_n hx hb dX3_commonDivisor_65 rfl (lv_at hl 1 rfl) ?_
      have hy0 : y = 0 := hkz.mp (by omega)
      have hLL : WH D E L 24 y H := ⟨kL, ⟨hOL, hLL0⟩, hkL⟩
      have hgy : (x : Int) = (gg u w : Int) := by
        rw [← hg, hy0]
        unfold gg
        simp
        have := heu.1
        omega
      have hpp : ((G = a + 5 ∧ WH D E (a + 5) 24 (gg u w : Int) H ∧ ∃ o2, WH D E (a + 7) 24 o2 H) ∨ (G = a + 7 ∧ WH D E (a + 7) 24 (gg u w : Int) H ∧ ∃ o1, WH D E (a + 5) 24 o1 H)) ∧ ∃ o3, WH D E (a + 9) 24 o3 H := by
        rcases hGL with ⟨rfl, rfl⟩ | ⟨rfl, rfl⟩
        · exact ⟨Or.inl ⟨rfl, by rw [← hgy]; exact hG, _, hLL⟩, _, h9⟩
        · exact ⟨Or.inr ⟨rfl, by rw [← hgy]; exact hG, _, hLL⟩, _, h9⟩
      exact pw_aret (cn := "PolicyWorks$Whole") hx hb hr hlocks hS hpp dX3_commonDivisor_66
    | succ k ih =>
      intro T G L x y q H locs ls hT hGL heu hTy hg hF hG hLL h9 hS hl
      obtain ⟨kL, ⟨hOL, hLL0⟩, hkL⟩ := hLL
      have hkz := wk_z hkL
      have hkL1 := hkL.1
      refine lv_iload_n hx hb dX3_commonDivisor_28 rfl (lv_at hl 3 rfl) ?_
      refine pw_sipush hx hb dX3_commonDivisor_29 ?_
      refine pw_icmp_ge (tgt := 65) hx hb dX3_commonDivisor_32 (by decide) (fun c_32 => absurd c_32 (by omega)) (fun c_32 => ?_)
      refine lv_aload_n hx hb dX3_commonDivisor_35 rfl (lv_at hl 2 rfl) ?_
      refine pw_get (C := RX8) (T := TX8) (N := 3) hx hb hts hin8 hown hK hOL rfl 1 (by decide) lk_58 rfl rfl dX3_commonDivisor_36 ?_
      refine pw_if_le (tgt := 65) hx hb dX3_commonDivisor_39 (by decide) (fun c_39 => ?_) (fun c_39 => ?_)
      · refine lv_aload_n hx hb dX3_commonDivisor_65 rfl (lv_at hl 1 rfl) ?_
        have hy0 : y = 0 := hkz.mp (by omega)
        have hLL : WH D E L 24 y H := ⟨kL, ⟨hOL, hLL0⟩, hkL⟩
        have hgy : (x : Int) = (gg u w : Int) := by
          rw [← hg, hy0]
          unfold gg
          simp
          have := heu.1
          omega
        have hpp : ((G = a + 5 ∧ WH D E (a + 5) 24 (gg u w : Int) H ∧ ∃ o2, WH D E (a + 7) 24 o2 H) ∨ (G = a + 7 ∧ WH D E (a + 7) 24 (gg u w : Int) H ∧ ∃ o1, WH D E (a + 5) 24 o1 H)) ∧ ∃ o3, WH D E (a + 9) 24 o3 H := by
          rcases hGL with ⟨rfl, rfl⟩ | ⟨rfl, rfl⟩
          · exact ⟨Or.inl ⟨rfl, by rw [← hgy]; exact hG, _, hLL⟩, _, h9⟩
          · exact ⟨Or.inr ⟨rfl, by rw [← hgy]; exact hG, _, hLL⟩, _, h9⟩
        exact pw_aret (cn := "PolicyWorks$Whole") hx hb hr hlocks hS hpp dX3_commonDivisor_66
      · refine lv_aload_n hx hb dX3_commonDivisor_42 rfl (lv_at hl 1 rfl) ?_
        refine lv_aload_n hx hb dX3_commonDivisor_43 rfl (lv_at hl 2 rfl) ?_
        refine lv_aload_n hx hb dX3_commonDivisor_44 rfl (lv_at hl 0 rfl) ?_
        refine pw_get (C := RX3) (T := TX3) (N := 5) hx hb hts hin3 hown hK hF rfl 4 (by decide) lk_29 rfl rfl dX3_commonDivisor_45 ?_
        have hy0 : 0 < y := by have h := heu.2.1; rcases Int.lt_or_le 0 y with h2 | h2; exact h2; exact absurd (hkz.mpr (by omega)) (by omega)
        have hLL : WH D E L 24 y H := ⟨kL, ⟨hOL, hLL0⟩, hkL⟩
        obtain ⟨kq, h9r⟩ := h9.r
        refine pw_callVv (As := [.ref (L), .ref (a + 9)]) (rest := []) ⟨hx, hb, hml, hown, hts⟩ (c_divide l D E G 24 L 24 (a + 9) 24 (wdig q) kq q.sign x y (by omega) (by omega) (by omega) (by omega) heu.1 hy0 (by omega) (by omega) (by omega)) (cwV 2 hts gX3_commonDivisor_X8_divide rfl rfl rfl (by decide +kernel) ⟨Nat.le_of_ble_eq_true rfl, Nat.le_of_ble_eq_true rfl⟩) hK hG.o.choose_spec rfl ⟨hG, hLL, h9r⟩ rfl hl.1 rfl (Nat.le_of_ble_eq_true rfl) dX3_commonDivisor_48 ⟨Nat.zero_le _, Nat.zero_le _⟩ hS (fun q h => by (try dsimp only at h); (try dsimp only); omega) (fun H1 locs1 ⟨hG, h9⟩ hz1 hk1 hS => ?_)
        have hF := hF.k (hk1 _ hF.lt (by (try dsimp only); omega))
        have hOL := hOL.k (hk1 _ hOL.lt (by (try dsimp only); omega))
        have hLL0 := hLL0.k (hk1 _ hLL0.lt (by (try dsimp only); omega))
        refine lv_aload_n hx hb dX3_commonDivisor_51 rfl (lv_at hl 1 rfl) ?_
        refine lv_astore (lv' := [(4, .ref (G)), (0, .ref (a)), (1, .ref (G)), (2, .ref (L)), (3, .int (iI ((T : Int))))]) hx hb dX3_commonDivisor_52 hl (by decide) rfl (fun ls hl => ?_)
        refine lv_aload_n hx hb dX3_commonDivisor_54 rfl (lv_at hl 3 rfl) ?_
        refine lv_astore_n (lv' := [(1, .ref (L)), (4, .ref (G)), (0, .ref (a)), (2, .ref (L)), (3, .int (iI ((T : Int))))]) hx hb dX3_commonDivisor_55 rfl hl (by decide) rfl (fun ls hl => ?_)
        refine lv_aload hx hb dX3_commonDivisor_56 (lv_at hl 1 rfl) ?_
        refine lv_astore_n (lv' := [(2, .ref (G)), (1, .ref (L)), (4, .ref (G)), (0, .ref (a)), (3, .int (iI ((T : Int))))]) hx hb dX3_commonDivisor_58 rfl hl (by decide) rfl (fun ls hl => ?_)
        refine lv_iinc (v := iI (((T + 1 : Nat) : Int))) (lv' := [(3, .int (iI (((T + 1 : Nat) : Int)))), (2, .ref (G)), (1, .ref (L)), (4, .ref (G)), (0, .ref (a))]) hx hb dX3_commonDivisor_59 hl (k := 4) rfl (by show iI _ + iI _ = _; rw [iI_add]; first | rfl | (congr 1; omega)) (by decide) rfl (fun ls hl => ?_)
        refine lv_goto (tgt := 28) hx hb dX3_commonDivisor_62 (by decide) ?_
        have hLL : WH D E L 24 y H1 := ⟨kL, ⟨hOL, hLL0⟩, hkL⟩
        exact ih (T + 1) L G y (x % y) _ _ _ _ (by omega) (by omega) (eu_step heu hy0 hTy) (fun h => by omega) (by rw [gg_step heu.1 hy0]; exact hg) hF hLL hG h9 hS (lv_sub hl [4, 2, 1, 0] rfl)
  refine lv_aload_n hx hb dX3_commonDivisor_0 rfl (lv_at hl 0 rfl) ?_
  refine pw_get (C := RX3) (T := TX3) (N := 5) hx hb hts hin3 hown hK hF rfl 2 (by decide) lk_23 rfl rfl dX3_commonDivisor_1 ?_
  refine lv_astore_n (lv' := [(1, .ref (a + 5)), (0, .ref (a))]) hx hb dX3_commonDivisor_4 rfl hl (by decide) rfl (fun ls hl => ?_)
  refine lv_aload_n hx hb dX3_commonDivisor_5 rfl (lv_at hl 1 rfl) ?_
  refine pw_get (C := RX3) (T := TX3) (N := 5) hx hb hts hin3 hown hK hF rfl 3 (by decide) lk_26 rfl rfl dX3_commonDivisor_6 ?_
  refine lv_astore_n (lv' := [(2, .ref (a + 7)), (1, .ref (a + 5)), (0, .ref (a))]) hx hb dX3_commonDivisor_9 rfl hl (by decide) rfl (fun ls hl => ?_)
  refine lv_aload_n hx hb dX3_commonDivisor_10 rfl (lv_at hl 1 rfl) ?_
  refine lv_aload_n hx hb dX3_commonDivisor_11 rfl (lv_at hl 2 rfl) ?_
  refine pw_get (C := RX3) (T := TX3) (N := 5) hx hb hts hin3 hown hK hF rfl 0 (by decide) lk_14 rfl rfl dX3_commonDivisor_12 ?_
  obtain ⟨kh5, h5r⟩ := h5.r
  refine pw_callVv (As := [.ref (a + 1)]) (rest := []) ⟨hx, hb, hml, hown, hts⟩ (c_copy l D E (a + 5) 24 (a + 1) 24 (wdig o1) kh5 o1.sign u (by omega) (by omega) (by omega) hub.1 hub.2) (cwV 1 hts gX3_commonDivisor_X8_copy rfl rfl rfl (by decide +kernel) ⟨Nat.le_of_ble_eq_true rfl, Nat.le_of_ble_eq_true rfl⟩) hK h5.o.choose_spec rfl ⟨h5r, hU⟩ rfl hl.1 rfl (Nat.le_of_ble_eq_true rfl) dX3_commonDivisor_15 ⟨Nat.zero_le _, Nat.zero_le _⟩ hS (fun q h => by (try dsimp only at h); (try dsimp only); omega) (fun H1 locs1 h5 hz1 hk1 hS => ?_)
  have hF := hF.k (hk1 _ hF.lt (by (try dsimp only); omega))
  have hU := hU.k (hk1 _ (by have := hU.lt; omega) (by (try dsimp only); omega)) (hk1 _ hU.lt (by (try dsimp only); omega))
  have hV := hV.k (hk1 _ (by have := hV.lt; omega) (by (try dsimp only); omega)) (hk1 _ hV.lt (by (try dsimp only); omega))
  have h7 := h7.k (hk1 _ (by have := h7.lt; omega) (by (try dsimp only); omega)) (hk1 _ h7.lt (by (try dsimp only); omega))
  have h9 := h9.k (hk1 _ (by have := h9.lt; omega) (by (try dsimp only); omega)) (hk1 _ h9.lt (by (try dsimp only); omega))
  refine lv_aload_n hx hb dX3_commonDivisor_18 rfl (lv_at hl 0 rfl) ?_
  refine lv_aload_n hx hb dX3_commonDivisor_19 rfl (lv_at hl 2 rfl) ?_
  refine pw_get (C := RX3) (T := TX3) (N := 5) hx hb hts hin3 hown hK hF rfl 1 (by decide) lk_20 rfl rfl dX3_commonDivisor_20 ?_
  obtain ⟨kh7, h7r⟩ := h7.r
  refine pw_callVv (As := [.ref (a + 3)]) (rest := []) ⟨hx, hb, hml, hown, hts⟩ (c_copy l D E (a + 7) 24 (a + 3) 24 (wdig o2) kh7 o2.sign w (by omega) (by omega) (by omega) hwb.1 hwb.2) (cwV 1 hts gX3_commonDivisor_X8_copy rfl rfl rfl (by decide +kernel) ⟨Nat.le_of_ble_eq_true rfl, Nat.le_of_ble_eq_true rfl⟩) hK h7.o.choose_spec rfl ⟨h7r, hV⟩ rfl hl.1 rfl (Nat.le_of_ble_eq_true rfl) dX3_commonDivisor_23 ⟨Nat.zero_le _, Nat.zero_le _⟩ hS (fun q h => by (try dsimp only at h); (try dsimp only); omega) (fun H1 locs1 h7 hz1 hk1 hS => ?_)
  have hF := hF.k (hk1 _ hF.lt (by (try dsimp only); omega))
  have hU := hU.k (hk1 _ (by have := hU.lt; omega) (by (try dsimp only); omega)) (hk1 _ hU.lt (by (try dsimp only); omega))
  have hV := hV.k (hk1 _ (by have := hV.lt; omega) (by (try dsimp only); omega)) (hk1 _ hV.lt (by (try dsimp only); omega))
  have h5 := h5.k (hk1 _ (by have := h5.lt; omega) (by (try dsimp only); omega)) (hk1 _ h5.lt (by (try dsimp only); omega))
  have h9 := h9.k (hk1 _ (by have := h9.lt; omega) (by (try dsimp only); omega)) (hk1 _ h9.lt (by (try dsimp only); omega))
  refine pw_iconst hx hb dX3_commonDivisor_26 ?_
  refine lv_istore_n (lv' := [(3, .int (iI (0))), (2, .ref (a + 7)), (1, .ref (a + 5)), (0, .ref (a))]) hx hb dX3_commonDivisor_27 rfl hl (by decide) rfl (fun ls hl => ?_)
  exact loop 960 0 (a + 5) (a + 7) u w _ _ _ _ (by omega) (by omega) ⟨hu0, by omega, by simp, Or.inl rfl⟩ (fun _ => rfl) rfl hF h5 h7 h9 hS (lv_sub hl [3, 2, 1, 0] rfl)
set_option maxHeartbeats 4000000 in
set_option maxRecDepth 100000 in
/-- reduce() -/
theorem c_reduce (l : Launch) (D : va_G) (E : Nat → ClassId) (a : Nat) (u w o1 o2 o3 : Int) (hw0 : 0 < w) : pw_M rvV l D E yX3_reduce wsX3_reduce ({ frames := 4, cells := 0, slots := 0, locals := 104 } : Room) [.ref (a)] (fun H => FR D E a u w o1 o2 o3 H) (fun _ H => ∃ o1 o2 o3, FR D E a ((u.natAbs / gg u w : Nat) : Int) ((w.natAbs / gg u w : Nat) : Int) o1 o2 o3 H) (fun q => a + 1 ≤ q ∧ q ≤ a + 10) (0) (0) := by
  refine pw_of (cc := cX3_reduce) (maxL := 2) (ret := none) (by decide +kernel) rfl (Nat.le_of_ble_eq_true rfl) ?_
  intro p e s m args below meth c hx hb hr hml hts hown hlocks hini hK ⟨hF, hU, hV, h5, h7, h9⟩ ls hl
  have hown : s.vm.findClass RX3 = some m.cls := hown
  have hl : lv_has ls 2 [(0, .ref (a))] := hl
  have hS : va_S (fun q => a + 1 ≤ q ∧ q ≤ a + 10) s.heap s.heap [] := va_S.rf
  have lk_14 := hts (.fieldLink RX3 14 "PolicyWorks$Fraction" "above" "LPolicyWorks$Whole;") (by decide +kernel)
  have lk_20 := hts (.fieldLink RX3 20 "PolicyWorks$Fraction" "below" "LPolicyWorks$Whole;") (by decide +kernel)
  have lk_29 := hts (.fieldLink RX3 29 "PolicyWorks$Fraction" "quotient" "LPolicyWorks$Whole;") (by decide +kernel)
  have hin3 : ∀ w ∈ wsX30, w ∈ wsX3_reduce := by decide +kernel
  have hgp := gg_pos (u := u) hw0
  have hwb := hV.bi
  have hub := hU.b
  have hq1 : ((u.natAbs : Int)) / (gg u w : Int) = ((u.natAbs / gg u w : Nat) : Int) := rfl
  have hq2 : w / (gg u w : Int) = ((w.natAbs / gg u w : Nat) : Int) := by rw [Int.natCast_ediv, abs_pos (by omega)]
  have hl1 := int_lt (v := ((u.natAbs / gg u w : Nat) : Int)) (n := 24) (by rw [Int.natAbs_natCast]; exact Nat.lt_of_le_of_lt (Nat.div_le_self _ _) hub)
  have hl2 := int_lt (v := ((w.natAbs / gg u w : Nat) : Int)) (n := 24) (by rw [Int.natAbs_natCast]; exact Nat.lt_of_le_of_lt (Nat.div_le_self _ _) (nat_lt hwb.1 hwb.2))
  refine lv_aload_n hx hb dX3_reduce_0 rfl (lv_at hl 0 rfl) ?_
  refine pw_get (C := RX3) (T := TX3) (N := 5) hx hb hts hin3 hown hK hF rfl 0 (by decide) lk_14 rfl rfl dX3_reduce_1 ?_
  refine pw_callVv (As := []) (rest := []) ⟨hx, hb, hml, hown, hts⟩ (c_dropSign l D E (a + 1) 24 u (by omega)) (cwV 0 hts gX3_reduce_X8_dropSign rfl rfl rfl (by decide +kernel) ⟨Nat.le_of_ble_eq_true rfl, Nat.le_of_ble_eq_true rfl⟩) hK hU.o.choose_spec rfl hU rfl hl.1 rfl (Nat.le_of_ble_eq_true rfl) dX3_reduce_4 ⟨Nat.zero_le _, Nat.zero_le _⟩ hS (fun q h => by (try dsimp only at h); (try dsimp only); omega) (fun H1 locs1 hU hz1 hk1 hS => ?_)
  have hF := hF.k (hk1 _ hF.lt (by (try dsimp only); omega))
  have hV := hV.k (hk1 _ (by have := hV.lt; omega) (by (try dsimp only); omega)) (hk1 _ hV.lt (by (try dsimp only); omega))
  have h5 := h5.k (hk1 _ (by have := h5.lt; omega) (by (try dsimp only); omega)) (hk1 _ h5.lt (by (try dsimp only); omega))
  have h7 := h7.k (hk1 _ (by have := h7.lt; omega) (by (try dsimp only); omega)) (hk1 _ h7.lt (by (try dsimp only); omega))
  have h9 := h9.k (hk1 _ (by have := h9.lt; omega) (by (try dsimp only); omega)) (hk1 _ h9.lt (by (try dsimp only); omega))
  refine lv_aload_n hx hb dX3_reduce_7 rfl (lv_at hl 0 rfl) ?_
  refine pw_callVr (As := []) (rest := []) ⟨hx, hb, hml, hown, hts⟩ (c_comDiv l D E a (u.natAbs : Int) w o1 o2 o3 (by omega) hw0) (cwV 0 hts gX3_reduce_X3_commonDivisor rfl rfl rfl (by decide +kernel) ⟨Nat.le_of_ble_eq_true rfl, Nat.le_of_ble_eq_true rfl⟩) hK hF rfl ⟨hF, hU, hV, h5, h7, h9⟩ rfl hl.1 rfl (Nat.le_of_ble_eq_true rfl) dX3_reduce_8 ⟨Nat.zero_le _, Nat.zero_le _⟩ hS (fun q h => by (try dsimp only at h); (try dsimp only); omega) (fun G H1 locs1 ⟨hor, q3, h9⟩ hz1 hk1 hS => ?_)
  have hF := hF.k (hk1 _ hF.lt (by (try dsimp only); omega))
  have hU := hU.k (hk1 _ (by have := hU.lt; omega) (by (try dsimp only); omega)) (hk1 _ hU.lt (by (try dsimp only); omega))
  have hV := hV.k (hk1 _ (by have := hV.lt; omega) (by (try dsimp only); omega)) (hk1 _ hV.lt (by (try dsimp only); omega))
  rw [gg_abs] at hor
  have hGG : ∃ L : Nat, (G = a + 5 ∧ L = a + 7 ∨ G = a + 7 ∧ L = a + 5) ∧ WH D E G 24 (gg u w : Int) H1 ∧ ∃ o, WH D E L 24 o H1 := by
    rcases hor with ⟨rfl, h1, h2⟩ | ⟨rfl, h1, h2⟩
    · exact ⟨a + 7, Or.inl ⟨rfl, rfl⟩, h1, h2⟩
    · exact ⟨a + 5, Or.inr ⟨rfl, rfl⟩, h1, h2⟩
  obtain ⟨L, hGL, hG, oL, hLL⟩ := hGG
  clear hor
  refine lv_astore_n (lv' := [(1, .ref (G)), (0, .ref (a))]) hx hb dX3_reduce_11 rfl hl (by decide) rfl (fun ls hl => ?_)
  refine lv_aload_n hx hb dX3_reduce_12 rfl (lv_at hl 1 rfl) ?_
  refine pw_get (C := RX3) (T := TX3) (N := 5) hx hb hts hin3 hown hK hF rfl 0 (by decide) lk_14 rfl rfl dX3_reduce_13 ?_
  refine lv_aload_n hx hb dX3_reduce_16 rfl (lv_at hl 0 rfl) ?_
  refine lv_aload_n hx hb dX3_reduce_17 rfl (lv_at hl 1 rfl) ?_
  refine pw_get (C := RX3) (T := TX3) (N := 5) hx hb hts hin3 hown hK hF rfl 4 (by decide) lk_29 rfl rfl dX3_reduce_18 ?_
  obtain ⟨kq, h9r⟩ := h9.r
  refine pw_callVv (As := [.ref (G), .ref (a + 9)]) (rest := []) ⟨hx, hb, hml, hown, hts⟩ (c_divide l D E (a + 1) 24 G 24 (a + 9) 24 (wdig q3) kq (q3).sign (u.natAbs : Int) (gg u w : Int) (by omega) (by omega) (by omega) (by omega) (by omega) (by omega) (by omega) (by omega) (by omega)) (cwV 2 hts gX3_reduce_X8_divide rfl rfl rfl (by decide +kernel) ⟨Nat.le_of_ble_eq_true rfl, Nat.le_of_ble_eq_true rfl⟩) hK hU.o.choose_spec rfl ⟨hU, hG, h9r⟩ rfl hl.1 rfl (Nat.le_of_ble_eq_true rfl) dX3_reduce_21 ⟨Nat.zero_le _, Nat.zero_le _⟩ hS (fun q h => by (try dsimp only at h); (try dsimp only); omega) (fun H1 locs1 ⟨hU, h9⟩ hz1 hk1 hS => ?_)
  have hF := hF.k (hk1 _ hF.lt (by (try dsimp only); omega))
  have hV := hV.k (hk1 _ (by have := hV.lt; omega) (by (try dsimp only); omega)) (hk1 _ hV.lt (by (try dsimp only); omega))
  have hG := hG.k (hk1 _ (by have := hG.lt; omega) (by (try dsimp only); omega)) (hk1 _ hG.lt (by (try dsimp only); omega))
  have hLL := hLL.k (hk1 _ (by have := hLL.lt; omega) (by (try dsimp only); omega)) (hk1 _ hLL.lt (by (try dsimp only); omega))
  rw [hq1] at h9
  refine lv_aload_n hx hb dX3_reduce_24 rfl (lv_at hl 1 rfl) ?_
  refine pw_get (C := RX3) (T := TX3) (N := 5) hx hb hts hin3 hown hK hF rfl 0 (by decide) lk_14 rfl rfl dX3_reduce_25 ?_
  refine lv_aload_n hx hb dX3_reduce_28 rfl (lv_at hl 1 rfl) ?_
  refine pw_get (C := RX3) (T := TX3) (N := 5) hx hb hts hin3 hown hK hF rfl 4 (by decide) lk_29 rfl rfl dX3_reduce_29 ?_
  obtain ⟨kd, hdr⟩ := hU.r
  refine pw_callVv (As := [.ref (a + 9)]) (rest := []) ⟨hx, hb, hml, hown, hts⟩ (c_copy l D E (a + 1) 24 (a + 9) 24 (wdig ((u.natAbs : Int) % (gg u w : Int))) kd ((u.natAbs : Int) % (gg u w : Int)).sign (((u.natAbs / gg u w : Nat) : Int)) (by omega) (by omega) (by omega) hl1.1 hl1.2) (cwV 1 hts gX3_reduce_X8_copy rfl rfl rfl (by decide +kernel) ⟨Nat.le_of_ble_eq_true rfl, Nat.le_of_ble_eq_true rfl⟩) hK hU.o.choose_spec rfl ⟨hdr, h9⟩ rfl hl.1 rfl (Nat.le_of_ble_eq_true rfl) dX3_reduce_32 ⟨Nat.zero_le _, Nat.zero_le _⟩ hS (fun q h => by (try dsimp only at h); (try dsimp only); omega) (fun H1 locs1 hU hz1 hk1 hS => ?_)
  have hF := hF.k (hk1 _ hF.lt (by (try dsimp only); omega))
  have hV := hV.k (hk1 _ (by have := hV.lt; omega) (by (try dsimp only); omega)) (hk1 _ hV.lt (by (try dsimp only); omega))
  have h9 := h9.k (hk1 _ (by have := h9.lt; omega) (by (try dsimp only); omega)) (hk1 _ h9.lt (by (try dsimp only); omega))
  have hG := hG.k (hk1 _ (by have := hG.lt; omega) (by (try dsimp only); omega)) (hk1 _ hG.lt (by (try dsimp only); omega))
  have hLL := hLL.k (hk1 _ (by have := hLL.lt; omega) (by (try dsimp only); omega)) (hk1 _ hLL.lt (by (try dsimp only); omega))
  refine lv_aload_n hx hb dX3_reduce_35 rfl (lv_at hl 1 rfl) ?_
  refine pw_get (C := RX3) (T := TX3) (N := 5) hx hb hts hin3 hown hK hF rfl 1 (by decide) lk_20 rfl rfl dX3_reduce_36 ?_
  refine lv_aload_n hx hb dX3_reduce_39 rfl (lv_at hl 0 rfl) ?_
  refine lv_aload_n hx hb dX3_reduce_40 rfl (lv_at hl 1 rfl) ?_
  refine pw_get (C := RX3) (T := TX3) (N := 5) hx hb hts hin3 hown hK hF rfl 4 (by decide) lk_29 rfl rfl dX3_reduce_41 ?_
  obtain ⟨kq, h9r⟩ := h9.r
  refine pw_callVv (As := [.ref (G), .ref (a + 9)]) (rest := []) ⟨hx, hb, hml, hown, hts⟩ (c_divide l D E (a + 3) 24 G 24 (a + 9) 24 (wdig ((u.natAbs / gg u w : Nat) : Int)) kq (((u.natAbs / gg u w : Nat) : Int)).sign w (gg u w : Int) (by omega) (by omega) (by omega) (by omega) (by omega) (by omega) (by omega) (by omega) (by omega)) (cwV 2 hts gX3_reduce_X8_divide rfl rfl rfl (by decide +kernel) ⟨Nat.le_of_ble_eq_true rfl, Nat.le_of_ble_eq_true rfl⟩) hK hV.o.choose_spec rfl ⟨hV, hG, h9r⟩ rfl hl.1 rfl (Nat.le_of_ble_eq_true rfl) dX3_reduce_44 ⟨Nat.zero_le _, Nat.zero_le _⟩ hS (fun q h => by (try dsimp only at h); (try dsimp only); omega) (fun H1 locs1 ⟨hV, h9⟩ hz1 hk1 hS => ?_)
  have hF := hF.k (hk1 _ hF.lt (by (try dsimp only); omega))
  have hU := hU.k (hk1 _ (by have := hU.lt; omega) (by (try dsimp only); omega)) (hk1 _ hU.lt (by (try dsimp only); omega))
  have hG := hG.k (hk1 _ (by have := hG.lt; omega) (by (try dsimp only); omega)) (hk1 _ hG.lt (by (try dsimp only); omega))
  have hLL := hLL.k (hk1 _ (by have := hLL.lt; omega) (by (try dsimp only); omega)) (hk1 _ hLL.lt (by (try dsimp only); omega))
  rw [hq2] at h9
  refine lv_aload_n hx hb dX3_reduce_47 rfl (lv_at hl 1 rfl) ?_
  refine pw_get (C := RX3) (T := TX3) (N := 5) hx hb hts hin3 hown hK hF rfl 1 (by decide) lk_20 rfl rfl dX3_reduce_48 ?_
  refine lv_aload_n hx hb dX3_reduce_51 rfl (lv_at hl 1 rfl) ?_
  refine pw_get (C := RX3) (T := TX3) (N := 5) hx hb hts hin3 hown hK hF rfl 4 (by decide) lk_29 rfl rfl dX3_reduce_52 ?_
  obtain ⟨kd, hdr⟩ := hV.r
  refine pw_callVv (As := [.ref (a + 9)]) (rest := []) ⟨hx, hb, hml, hown, hts⟩ (c_copy l D E (a + 3) 24 (a + 9) 24 (wdig (w % (gg u w : Int))) kd (w % (gg u w : Int)).sign (((w.natAbs / gg u w : Nat) : Int)) (by omega) (by omega) (by omega) hl2.1 hl2.2) (cwV 1 hts gX3_reduce_X8_copy rfl rfl rfl (by decide +kernel) ⟨Nat.le_of_ble_eq_true rfl, Nat.le_of_ble_eq_true rfl⟩) hK hV.o.choose_spec rfl ⟨hdr, h9⟩ rfl hl.1 rfl (Nat.le_of_ble_eq_true rfl) dX3_reduce_55 ⟨Nat.zero_le _, Nat.zero_le _⟩ hS (fun q h => by (try dsimp only at h); (try dsimp only); omega) (fun H1 locs1 hV hz1 hk1 hS => ?_)
  have hF := hF.k (hk1 _ hF.lt (by (try dsimp only); omega))
  have hU := hU.k (hk1 _ (by have := hU.lt; omega) (by (try dsimp only); omega)) (hk1 _ hU.lt (by (try dsimp only); omega))
  have h9 := h9.k (hk1 _ (by have := h9.lt; omega) (by (try dsimp only); omega)) (hk1 _ h9.lt (by (try dsimp only); omega))
  have hG := hG.k (hk1 _ (by have := hG.lt; omega) (by (try dsimp only); omega)) (hk1 _ hG.lt (by (try dsimp only); omega))
  have hLL := hLL.k (hk1 _ (by have := hLL.lt; omega) (by (try dsimp only); omega)) (hk1 _ hLL.lt (by (try dsimp only); omega))
  have hpp : ∃ o1 o2 o3, FR D E a ((u.natAbs / gg u w : Nat) : Int) ((w.natAbs / gg u w : Nat) : Int) o1 o2 o3 H1 := by
    rcases hGL with ⟨rfl, rfl⟩ | ⟨rfl, rfl⟩
    · exact ⟨_, _, _, hF, hU, hV, hG, hLL, h9⟩
    · exact ⟨_, _, _, hF, hU, hV, hLL, hG, h9⟩
  exact pw_vret hx hb hr hlocks hS hpp dX3_reduce_58
set_option maxHeartbeats 4000000 in
set_option maxRecDepth 100000 in
/-- tell(part) -/
theorem c_tell (l : Launch) (D : va_G) (E : Nat → ClassId) (a : Nat) (u w o1 o2 o3 part : Int) (hw0 : 0 < w) (hp1 : -1 ≤ part) (hp2 : part ≤ 2147483647) : pw_M rvL l D E yX3_tell wsX3_tell ({ frames := 5, cells := 0, slots := 0, locals := 125 } : Room) [.ref (a), .int (iI (part))] (fun H => FR D E a u w o1 o2 o3 H) (fun z H => z = tellZ u w part ∧ ∃ u w o1 o2 o3, FR D E a u w o1 o2 o3 H) (fun q => a + 1 ≤ q ∧ q ≤ a + 10) (0) (0) := by
  refine pw_of (cc := cX3_tell) (maxL := 2) (ret := (some .long)) (by decide +kernel) rfl (Nat.le_of_ble_eq_true rfl) ?_
  intro p e s m args below meth c hx hb hr hml hts hown hlocks hini hK ⟨hF, hU, hV, h5, h7, h9⟩ ls hl
  have hown : s.vm.findClass RX3 = some m.cls := hown
  have hl : lv_has ls 2 [(0, .ref (a)), (1, .int (iI (part)))] := hl
  have hS : va_S (fun q => a + 1 ≤ q ∧ q ≤ a + 10) s.heap s.heap [] := va_S.rf
  have lk_14 := hts (.fieldLink RX3 14 "PolicyWorks$Fraction" "above" "LPolicyWorks$Whole;") (by decide +kernel)
  have lk_20 := hts (.fieldLink RX3 20 "PolicyWorks$Fraction" "below" "LPolicyWorks$Whole;") (by decide +kernel)
  have lk_32 := hts (.fieldLink RX3 32 "PolicyWorks$Whole" "sign" "I") (by decide +kernel)
  have hin3 : ∀ w ∈ wsX30, w ∈ wsX3_tell := by decide +kernel
  have hin8 : ∀ w ∈ wsX80, w ∈ wsX3_tell := by decide +kernel
  have hsr : -1 ≤ u.sign ∧ u.sign ≤ 1 := by rw [sgn_i]; split <;> (try split) <;> omega
  refine lv_iload_n hx hb dX3_tell_0 rfl (lv_at hl 1 rfl) ?_
  refine pw_iconst hx hb dX3_tell_1 ?_
  refine pw_icmp_ne (tgt := 14) hx hb dX3_tell_2 (by decide) (fun c_2 => ?_) (fun c_2 => ?_)
  · refine lv_aload_n hx hb dX3_tell_14 rfl (lv_at hl 0 rfl) ?_
    have hpn : 0 ≤ part := by omega
    have e2 : part.tmod 2 = part % 2 := Int.tmod_eq_emod_of_nonneg hpn
    have e3 : part.tdiv 2 = ((part / 2).toNat : Int) := by rw [Int.tdiv_eq_ediv_of_nonneg hpn]; omega
    refine pw_callVv (As := []) (rest := []) ⟨hx, hb, hml, hown, hts⟩ (c_reduce l D E a u w o1 o2 o3 hw0) (cwV 0 hts gX3_tell_X3_reduce rfl rfl rfl (by decide +kernel) ⟨Nat.le_of_ble_eq_true rfl, Nat.le_of_ble_eq_true rfl⟩) hK hF rfl ⟨hF, hU, hV, h5, h7, h9⟩ rfl hl.1 rfl (Nat.le_of_ble_eq_true rfl) dX3_tell_15 ⟨Nat.zero_le _, Nat.zero_le _⟩ hS (fun q h => h) (fun H1 locs1 ⟨p1, p2, p3, hF, hU, hV, h5, h7, h9⟩ hz1 hk1 hS => ?_)
    refine lv_iload_n hx hb dX3_tell_18 rfl (lv_at hl 1 rfl) ?_
    refine pw_iconst hx hb dX3_tell_19 ?_
    refine pw_irem hx hb dX3_tell_20 (by omega) ?_
    refine pw_asi (part % 2) e2 ?_
    refine pw_if_ne (tgt := 37) hx hb dX3_tell_21 (by decide) (fun c_21 => ?_) (fun c_21 => ?_)
    · refine lv_aload_n hx hb dX3_tell_37 rfl (lv_at hl 0 rfl) ?_
      refine pw_get (C := RX3) (T := TX3) (N := 5) hx hb hts hin3 hown hK hF rfl 1 (by decide) lk_20 rfl rfl dX3_tell_38 ?_
      refine lv_iload_n hx hb dX3_tell_41 rfl (lv_at hl 1 rfl) ?_
      refine pw_iconst hx hb dX3_tell_42 ?_
      refine pw_idiv hx hb dX3_tell_43 (by omega) ?_
      refine pw_asi (((part / 2).toNat : Int)) e3 ?_
      refine pw_callVl (As := [.int (iI (((part / 2).toNat : Int)))]) (rest := []) ⟨hx, hb, hml, hown, hts⟩ (c_eighteen l D E (a + 3) 24 (part / 2).toNat ((w.natAbs / gg u w : Nat) : Int) (by omega) (Int.natCast_nonneg _) (by omega)) (cwV 1 hts gX3_tell_X8_eighteen rfl rfl rfl (by decide +kernel) ⟨Nat.le_of_ble_eq_true rfl, Nat.le_of_ble_eq_true rfl⟩) hK hV.o.choose_spec rfl hV rfl hl.1 rfl (Nat.le_of_ble_eq_true rfl) dX3_tell_44 ⟨Nat.zero_le _, Nat.zero_le _⟩ hS (fun q h => h.elim) (fun z H1 locs1 hz hz1 hk1 hS => ?_)
      have hF := hF.k (hk1 _ hF.lt (fun h => h))
      have hU := hU.k (hk1 _ (by have := hU.lt; omega) (fun h => h)) (hk1 _ hU.lt (fun h => h))
      have hV := hV.k (hk1 _ (by have := hV.lt; omega) (fun h => h)) (hk1 _ hV.lt (fun h => h))
      have h5 := h5.k (hk1 _ (by have := h5.lt; omega) (fun h => h)) (hk1 _ h5.lt (fun h => h))
      have h7 := h7.k (hk1 _ (by have := h7.lt; omega) (fun h => h)) (hk1 _ h7.lt (fun h => h))
      have h9 := h9.k (hk1 _ (by have := h9.lt; omega) (fun h => h)) (hk1 _ h9.lt (fun h => h))
      exact pw_lret hx hb hr hlocks hS ⟨by unfold tellZ; rw [if_neg (by omega), if_neg c_21, hz, Int.natAbs_natCast], _, _, _, _, _, hF, hU, hV, h5, h7, h9⟩ dX3_tell_47
    · refine lv_aload_n hx hb dX3_tell_24 rfl (lv_at hl 0 rfl) ?_
      refine pw_get (C := RX3) (T := TX3) (N := 5) hx hb hts hin3 hown hK hF rfl 0 (by decide) lk_14 rfl rfl dX3_tell_25 ?_
      refine lv_iload_n hx hb dX3_tell_28 rfl (lv_at hl 1 rfl) ?_
      refine pw_iconst hx hb dX3_tell_29 ?_
      refine pw_idiv hx hb dX3_tell_30 (by omega) ?_
      refine pw_asi (((part / 2).toNat : Int)) e3 ?_
      refine pw_callVl (As := [.int (iI (((part / 2).toNat : Int)))]) (rest := []) ⟨hx, hb, hml, hown, hts⟩ (c_eighteen l D E (a + 1) 24 (part / 2).toNat ((u.natAbs / gg u w : Nat) : Int) (by omega) (Int.natCast_nonneg _) (by omega)) (cwV 1 hts gX3_tell_X8_eighteen rfl rfl rfl (by decide +kernel) ⟨Nat.le_of_ble_eq_true rfl, Nat.le_of_ble_eq_true rfl⟩) hK hU.o.choose_spec rfl hU rfl hl.1 rfl (Nat.le_of_ble_eq_true rfl) dX3_tell_31 ⟨Nat.zero_le _, Nat.zero_le _⟩ hS (fun q h => h.elim) (fun z H1 locs1 hz hz1 hk1 hS => ?_)
      have hF := hF.k (hk1 _ hF.lt (fun h => h))
      have hU := hU.k (hk1 _ (by have := hU.lt; omega) (fun h => h)) (hk1 _ hU.lt (fun h => h))
      have hV := hV.k (hk1 _ (by have := hV.lt; omega) (fun h => h)) (hk1 _ hV.lt (fun h => h))
      have h5 := h5.k (hk1 _ (by have := h5.lt; omega) (fun h => h)) (hk1 _ h5.lt (fun h => h))
      have h7 := h7.k (hk1 _ (by have := h7.lt; omega) (fun h => h)) (hk1 _ h7.lt (fun h => h))
      have h9 := h9.k (hk1 _ (by have := h9.lt; omega) (fun h => h)) (hk1 _ h9.lt (fun h => h))
      refine lv_goto (tgt := 47) hx hb dX3_tell_34 (by decide) ?_
      exact pw_lret hx hb hr hlocks hS ⟨by unfold tellZ; rw [if_neg (by omega), if_pos c_21, hz, Int.natAbs_natCast], _, _, _, _, _, hF, hU, hV, h5, h7, h9⟩ dX3_tell_47
  · refine lv_aload_n hx hb dX3_tell_5 rfl (lv_at hl 0 rfl) ?_
    refine pw_get (C := RX3) (T := TX3) (N := 5) hx hb hts hin3 hown hK hF rfl 0 (by decide) lk_14 rfl rfl dX3_tell_6 ?_
    obtain ⟨kU, ⟨hOU, hLU⟩, hkU⟩ := hU
    refine pw_get (C := RX8) (T := TX8) (N := 3) hx hb hts hin8 hown hK hOU rfl 2 (by decide) lk_32 rfl rfl dX3_tell_9 ?_
    refine pw_i2l hx hb dX3_tell_12 ?_
    exact pw_lret hx hb hr hlocks hS ⟨by unfold tellZ; rw [if_pos c_2], _, _, _, _, _, hF, ⟨kU, ⟨hOU, hLU⟩, hkU⟩, hV, h5, h7, h9⟩ dX3_tell_13
