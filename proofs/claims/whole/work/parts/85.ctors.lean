/-! constructors: Whole, Action, Gain, Chooser, Fraction, Row, Model -/
def σ0 : MS := (0, fun _ => 0, fun _ => 0, fun _ => 1, fun _ _ => 0, 1, 2)
theorem σ0_ok : mOK σ0 := ⟨by decide, fun s _ => Nat.zero_le _, fun i _ => ⟨by show (-1000 : Int) ≤ 0; decide, by show (0 : Int) ≤ 1000; decide, by show 1 ≤ 1; decide, by show 1 ≤ 20; decide, fun t _ => Nat.zero_le _⟩, by decide, by decide, fun s _ _ => rfl, fun s k _ _ _ => ⟨rfl, rfl, fun t _ => rfl⟩, fun i t _ _ _ => rfl⟩
def WHS (D : va_G) (E : Nat → ClassId) (a n k : Nat) (H : Heap) : Prop := ∀ j, j < k → WH D E (a + 2 * j) n 0 H
theorem WHS.k {D : va_G} {E : Nat → ClassId} {a n k : Nat} {H H1 : Heap} (h : WHS D E a n k H) (hq : ∀ q, a ≤ q → q < a + 2 * k → q < H.size → H1[q]? = H[q]?) : WHS D E a n k H1 := fun j hj => by
  have hl := (h j hj).lt
  exact (h j hj).k (hq _ (by omega) (by omega) (by omega)) (hq _ (by omega) (by omega) (by omega))
theorem WHS.up {D : va_G} {E : Nat → ClassId} {a n k : Nat} {H : Heap} (h : WHS D E a n k H) (hw : WH D E (a + 2 * k) n 0 H) : WHS D E a n (k + 1) H := fun j hj => by
  by_cases e : j = k
  · rw [e]; exact hw
  · exact h j (by omega)
def ATZ (D : va_G) (E : Nat → ClassId) (a k : Nat) (H : Heap) : Prop := ∀ j, j < k → AT D E (a + 2 * j) σ0 j H
theorem ATZ.k {D : va_G} {E : Nat → ClassId} {a k : Nat} {H H1 : Heap} (h : ATZ D E a k H) (hq : ∀ q, a ≤ q → q < a + 2 * k → q < H.size → H1[q]? = H[q]?) : ATZ D E a k H1 := fun j hj => ⟨(h j hj).1.k (hq _ (by omega) (by omega) (h j hj).1.lt), (h j hj).2.k (hq _ (by omega) (by omega) (h j hj).2.lt)⟩
theorem ATZ.up {D : va_G} {E : Nat → ClassId} {a k : Nat} {H : Heap} (h : ATZ D E a k H) (hw : AT D E (a + 2 * k) σ0 k H) : ATZ D E a (k + 1) H := fun j hj => by
  by_cases e : j = k
  · rw [e]; exact hw
  · exact h j (by omega)
theorem uq_ext {f g : Nat → Option Nat} {k : Nat} {x : Option Nat} (h : ∀ j, j < k → f j = g j) (hx : x = g k) : ∀ j, j < k + 1 → uq f k x j = g j := fun j hj => by
  unfold uq
  by_cases e : j = k
  · rw [if_pos e, e]; exact hx
  · rw [if_neg e]; exact h j (by omega)
set_option maxHeartbeats 4000000 in
set_option maxRecDepth 100000 in
/-- Whole(n) -/
theorem c_WholeI (l : Launch) (D : va_G) (E : Nat → ClassId) (a n : Nat) (hn : n < 65536) : pw_M rvV l D E yX8_init wsX8_init ({ frames := 1, cells := 1, slots := n, locals := 20 } : Room) [.ref (a), .int (iI ((n : Int)))] (fun H => OA D (a) 8 [.null, .int (iI (0)), .int (iI (0))] H ∧ H.size = a + 1) (fun _ H => WH D E a n 0 H ∧ H.size = a + 2) (fun q => a ≤ q) (1) (n) := by
  refine pw_of (cc := cX8_init) (maxL := 2) (ret := none) (by decide +kernel) rfl (Nat.le_of_ble_eq_true rfl) ?_
  intro p e s m args below meth c hx hb hr hml hts hown hlocks hini hK ⟨hO, hsz⟩ ls hl
  have hown : s.vm.findClass RX8 = some m.cls := hown
  have hl : lv_has ls 2 [(0, .ref (a)), (1, .int (iI ((n : Int))))] := hl
  have hS : va_S (fun q => a ≤ q) s.heap s.heap [] := va_S.rf
  have lk_7 := hts (.fieldLink RX8 7 "PolicyWorks$Whole" "limbs" "[J") (by decide +kernel)
  have lk_13 := hts (.fieldLink RX8 13 "PolicyWorks$Whole" "size" "I") (by decide +kernel)
  have lk_17 := hts (.fieldLink RX8 17 "PolicyWorks$Whole" "sign" "I") (by decide +kernel)
  have hin8 : ∀ w ∈ wsX80, w ∈ wsX8_init := by decide +kernel
  have ka_long := hts (.arrayClass .long) (by decide +kernel)
  have ko_1 := hts (.methodLink RX8 1 objectInit) (by decide +kernel)
  have ko_2 := hts (.instanceMethod objectInit) (by decide +kernel)
  have ko_3 := hts (.code objectInit ⟨#[0xb1]⟩ 1 none) (by decide +kernel)
  refine lv_aload_n hx hb dX8_init_0 rfl (lv_at hl 0 rfl) ?_
  refine pw_objI hx hb hml hown ko_1 ko_2 ko_3 hl.1 dX8_init_1 ⟨Nat.le_of_ble_eq_true rfl, Nat.le_of_ble_eq_true rfl⟩ ?_
  refine lv_aload_n hx hb dX8_init_4 rfl (lv_at hl 0 rfl) ?_
  refine lv_iload_n hx hb dX8_init_5 rfl (lv_at hl 1 rfl) ?_
  refine pw_newl hx hb ka_long hK hS (n) rfl hn (by show _ ≤ 1; omega) (by show _ ≤ n; omega) dX8_init_6 (fun H1 hnew hz1 oq hS => ?_)
  have hO := hO.k (oq _ hO.lt)
  have hsz1 : H1.size = a + 2 := by omega
  rw [hsz] at hnew ⊢
  clear hz1 oq hsz
  have hsz := hsz1
  clear hsz1
  have hN6 := hnew
  clear hnew
  refine pw_putF (C := RX8) (T := TX8) (N := 3) hx hb hts hin8 tyX8 tyX8_ok nmX8 hown hK hO hS (by (try dsimp only); omega) rfl 0 (by decide) lk_7 rfl rfl hini rfl rfl rfl (by show _ < 3; decide) dX8_init_8 (fun H1 locs1 hnew hz1 oq hS => ?_)
  have hsz := hz1.trans hsz
  have hN6 := hN6.k (oq _ (by omega))
  have hO : OA D (a) 8 [.ref (a + 1), .int (iI (0)), .int (iI (0))] H1 := hnew
  clear hnew oq hz1
  refine lv_aload_n hx hb dX8_init_11 rfl (lv_at hl 0 rfl) ?_
  refine pw_iconst hx hb dX8_init_12 ?_
  refine pw_put (C := RX8) (T := TX8) (N := 3) hx hb hts hin8 tyX8 tyX8_ok nmX8 hown hK hO hS (by (try dsimp only); omega) rfl 1 (by decide) lk_13 rfl rfl rfl rfl (by show _ < 3; decide) dX8_init_13 (fun H1 locs1 hnew hz1 oq hS => ?_)
  have hsz := hz1.trans hsz
  have hN6 := hN6.k (oq _ (by omega))
  have hO : OA D (a) 8 [.ref (a + 1), .int (iI (0)), .int (iI (0))] H1 := hnew
  clear hnew oq hz1
  refine lv_aload_n hx hb dX8_init_16 rfl (lv_at hl 0 rfl) ?_
  refine pw_iconst hx hb dX8_init_17 ?_
  refine pw_put (C := RX8) (T := TX8) (N := 3) hx hb hts hin8 tyX8 tyX8_ok nmX8 hown hK hO hS (by (try dsimp only); omega) rfl 2 (by decide) lk_17 rfl rfl rfl rfl (by show _ < 3; decide) dX8_init_18 (fun H1 locs1 hnew hz1 oq hS => ?_)
  have hsz := hz1.trans hsz
  have hN6 := hN6.k (oq _ (by omega))
  have hO : OA D (a) 8 [.ref (a + 1), .int (iI (0)), .int (iI (0))] H1 := hnew
  clear hnew oq hz1
  refine pw_cs (cells' := 1) (slots' := n) (by omega) (by omega) ?_
  exact pw_vret hx hb hr hlocks hS ⟨wh_zero (show WR D E a n (fun _ => 0) 0 0 _ from ⟨hO, hN6⟩), hsz⟩ dX8_init_21
set_option maxHeartbeats 4000000 in
set_option maxRecDepth 100000 in
/-- Action() -/
theorem c_ActionI (l : Launch) (D : va_G) (E : Nat → ClassId) (a : Nat) : pw_M rvV l D E yX0_init wsX0_init ({ frames := 1, cells := 1, slots := 6, locals := 20 } : Room) [.ref (a)] (fun H => OA D (a) 0 [.null, .int (iI (0)), .int (iI (0)), .int (iI (0))] H ∧ H.size = a + 1) (fun _ H => (OA D a 0 [.ref (a + 1), .int (iI 0), .int (iI 1), .int (iI 0)] H ∧ IA E (a + 1) 6 (fun _ => 0) H) ∧ H.size = a + 2) (fun q => a ≤ q) (1) (6) := by
  refine pw_of (cc := cX0_init) (maxL := 1) (ret := none) (by decide +kernel) rfl (Nat.le_of_ble_eq_true rfl) ?_
  intro p e s m args below meth c hx hb hr hml hts hown hlocks hini hK ⟨hO, hsz⟩ ls hl
  have hown : s.vm.findClass RX0 = some m.cls := hown
  have hl : lv_has ls 1 [(0, .ref (a))] := hl
  have hS : va_S (fun q => a ≤ q) s.heap s.heap [] := va_S.rf
  have lk_9 := hts (.fieldLink RX0 9 "PolicyWorks$Action" "weights" "[I") (by decide +kernel)
  have lk_15 := hts (.fieldLink RX0 15 "PolicyWorks$Action" "above" "I") (by decide +kernel)
  have lk_19 := hts (.fieldLink RX0 19 "PolicyWorks$Action" "below" "I") (by decide +kernel)
  have lk_22 := hts (.fieldLink RX0 22 "PolicyWorks$Action" "total" "I") (by decide +kernel)
  have hin0 : ∀ w ∈ wsX00, w ∈ wsX0_init := by decide +kernel
  have ka_int := hts (.arrayClass .int) (by decide +kernel)
  have ko_1 := hts (.methodLink RX0 3 objectInit) (by decide +kernel)
  have ko_2 := hts (.instanceMethod objectInit) (by decide +kernel)
  have ko_3 := hts (.code objectInit ⟨#[0xb1]⟩ 1 none) (by decide +kernel)
  refine lv_aload_n hx hb dX0_init_0 rfl (lv_at hl 0 rfl) ?_
  refine pw_objI hx hb hml hown ko_1 ko_2 ko_3 hl.1 dX0_init_1 ⟨Nat.le_of_ble_eq_true rfl, Nat.le_of_ble_eq_true rfl⟩ ?_
  refine lv_aload_n hx hb dX0_init_4 rfl (lv_at hl 0 rfl) ?_
  refine pw_bipush hx hb dX0_init_5 ?_
  refine pw_newi hx hb ka_int hK hS (6) rfl (by omega) (by show _ ≤ 1; omega) (by show _ ≤ 6; omega) dX0_init_7 (fun H1 hnew hz1 oq hS => ?_)
  have hO := hO.k (oq _ hO.lt)
  have hsz1 : H1.size = a + 2 := by omega
  rw [hsz] at hnew ⊢
  clear hz1 oq hsz
  have hsz := hsz1
  clear hsz1
  have hN7 := hnew
  clear hnew
  refine pw_putF (C := RX0) (T := TX0) (N := 4) hx hb hts hin0 tyX0 tyX0_ok nmX0 hown hK hO hS (by (try dsimp only); omega) rfl 0 (by decide) lk_9 rfl rfl hini rfl rfl rfl (by show _ < 4; decide) dX0_init_9 (fun H1 locs1 hnew hz1 oq hS => ?_)
  have hsz := hz1.trans hsz
  have hN7 := hN7.k (oq _ (by omega))
  have hO : OA D (a) 0 [.ref (a + 1), .int (iI (0)), .int (iI (0)), .int (iI (0))] H1 := hnew
  clear hnew oq hz1
  refine lv_aload_n hx hb dX0_init_12 rfl (lv_at hl 0 rfl) ?_
  refine pw_iconst hx hb dX0_init_13 ?_
  refine pw_put (C := RX0) (T := TX0) (N := 4) hx hb hts hin0 tyX0 tyX0_ok nmX0 hown hK hO hS (by (try dsimp only); omega) rfl 1 (by decide) lk_15 rfl rfl rfl rfl (by show _ < 4; decide) dX0_init_14 (fun H1 locs1 hnew hz1 oq hS => ?_)
  have hsz := hz1.trans hsz
  have hN7 := hN7.k (oq _ (by omega))
  have hO : OA D (a) 0 [.ref (a + 1), .int (iI (0)), .int (iI (0)), .int (iI (0))] H1 := hnew
  clear hnew oq hz1
  refine lv_aload_n hx hb dX0_init_17 rfl (lv_at hl 0 rfl) ?_
  refine pw_iconst hx hb dX0_init_18 ?_
  refine pw_put (C := RX0) (T := TX0) (N := 4) hx hb hts hin0 tyX0 tyX0_ok nmX0 hown hK hO hS (by (try dsimp only); omega) rfl 2 (by decide) lk_19 rfl rfl rfl rfl (by show _ < 4; decide) dX0_init_19 (fun H1 locs1 hnew hz1 oq hS => ?_)
  have hsz := hz1.trans hsz
  have hN7 := hN7.k (oq _ (by omega))
  have hO : OA D (a) 0 [.ref (a + 1), .int (iI (0)), .int (iI (1)), .int (iI (0))] H1 := hnew
  clear hnew oq hz1
  refine lv_aload_n hx hb dX0_init_22 rfl (lv_at hl 0 rfl) ?_
  refine pw_iconst hx hb dX0_init_23 ?_
  refine pw_put (C := RX0) (T := TX0) (N := 4) hx hb hts hin0 tyX0 tyX0_ok nmX0 hown hK hO hS (by (try dsimp only); omega) rfl 3 (by decide) lk_22 rfl rfl rfl rfl (by show _ < 4; decide) dX0_init_24 (fun H1 locs1 hnew hz1 oq hS => ?_)
  have hsz := hz1.trans hsz
  have hN7 := hN7.k (oq _ (by omega))
  have hO : OA D (a) 0 [.ref (a + 1), .int (iI (0)), .int (iI (1)), .int (iI (0))] H1 := hnew
  clear hnew oq hz1
  exact pw_vret hx hb hr hlocks hS ⟨⟨hO, hN7⟩, hsz⟩ dX0_init_27
set_option maxHeartbeats 4000000 in
set_option maxRecDepth 100000 in
/-- Gain() -/
theorem c_GainI (l : Launch) (D : va_G) (E : Nat → ClassId) (a : Nat) : pw_M rvV l D E yX4_init wsX4_init ({ frames := 2, cells := 2, slots := 27, locals := 41 } : Room) [.ref (a)] (fun H => OA D (a) 4 [.null, .int (iI (0))] H ∧ H.size = a + 1) (fun _ H => GN D E a 0 1 H ∧ H.size = a + 3) (fun q => a ≤ q) (2) (27) := by
  refine pw_of (cc := cX4_init) (maxL := 1) (ret := none) (by decide +kernel) rfl (Nat.le_of_ble_eq_true rfl) ?_
  intro p e s m args below meth c hx hb hr hml hts hown hlocks hini hK ⟨hO, hsz⟩ ls hl
  have hown : s.vm.findClass RX4 = some m.cls := hown
  have hl : lv_has ls 1 [(0, .ref (a))] := hl
  have hS : va_S (fun q => a ≤ q) s.heap s.heap [] := va_S.rf
  have lk_14 := hts (.fieldLink RX4 14 "PolicyWorks$Gain" "above" "LPolicyWorks$Whole;") (by decide +kernel)
  have lk_20 := hts (.fieldLink RX4 20 "PolicyWorks$Gain" "scale" "I") (by decide +kernel)
  have hin4 : ∀ w ∈ wsX40, w ∈ wsX4_init := by decide +kernel
  have hin8 : ∀ w ∈ wsX80, w ∈ wsX4_init := by decide +kernel
  have ki_8 := hts (.instantiable RX8 3) (by decide +kernel)
  have kl_9 := hts (.classLink RX4 9 RX8) (by decide +kernel)
  have km_11 := hts (.methodLink RX4 11 yX8_init) (by decide +kernel)
  have kn_8 := hts (.instanceMethod yX8_init) (by decide +kernel)
  have ko_1 := hts (.methodLink RX4 3 objectInit) (by decide +kernel)
  have ko_2 := hts (.instanceMethod objectInit) (by decide +kernel)
  have ko_3 := hts (.code objectInit ⟨#[0xb1]⟩ 1 none) (by decide +kernel)
  have kz_8 := hts (.initialized RX8) (by decide +kernel)
  refine lv_aload_n hx hb dX4_init_0 rfl (lv_at hl 0 rfl) ?_
  refine pw_objI hx hb hml hown ko_1 ko_2 ko_3 hl.1 dX4_init_1 ⟨Nat.le_of_ble_eq_true rfl, Nat.le_of_ble_eq_true rfl⟩ ?_
  refine lv_aload_n hx hb dX4_init_4 rfl (lv_at hl 0 rfl) ?_
  refine pw_new (C := RX8) (T := TX8) (N := 3) (ci := 8) hx hb hts hin8 tyX8 tyX8_ok hown kl_9 ki_8 kz_8 hK hS rfl [.null, .int (iI (0)), .int (iI (0))] (fun j hj => by match j, hj with | 0, _ => rfl | 1, _ => rfl | 2, _ => rfl) (by show _ ≤ 2; omega) (by show _ ≤ 27; omega) dX4_init_5 (fun H1 hnew hz1 oq hS => ?_)
  have hO := hO.k (oq _ hO.lt)
  have hsz1 : H1.size = a + 2 := by omega
  rw [hsz] at hnew ⊢
  clear hz1 oq hsz
  have hsz := hsz1
  clear hsz1
  have hA := hnew
  clear hnew
  refine lv_dup hx hb dX4_init_8 rfl ?_
  refine pw_bipush hx hb dX4_init_9 ?_
  refine pw_asi (((24 : Nat) : Int)) rfl ?_
  refine pw_callI (As := [.int (iI (((24 : Nat) : Int)))]) (rest := [.ref (a + 1), .ref (a)]) ⟨hx, hb, hml, hown, hts⟩ (c_WholeI l D E (a + 1) (24) (by omega)) (cwI 1 hts gX4_init_X8_init rfl rfl rfl kz_8 km_11 kn_8 rfl (by decide +kernel) ⟨Nat.le_of_ble_eq_true rfl, Nat.le_of_ble_eq_true rfl⟩) hK (⟨hA, hsz⟩) rfl hl.1 rfl (Nat.le_of_ble_eq_true rfl) dX4_init_11 ⟨by show _ ≤ 2; omega, by show _ ≤ 27; omega⟩ hS (fun q h => by (try dsimp only at h); (try dsimp only); omega) (fun H1 locs1 ⟨hA, hsz⟩ hz1 hk1 hS => ?_)
  have hO := hO.k (hk1 _ hO.lt (by (try dsimp only); omega))
  clear hz1 hk1
  refine pw_putF (C := RX4) (T := TX4) (N := 2) hx hb hts hin4 tyX4 tyX4_ok nmX4 hown hK hO hS (by (try dsimp only); omega) rfl 0 (by decide) lk_14 rfl rfl hini rfl rfl rfl (by show _ < 2; decide) dX4_init_14 (fun H1 locs1 hnew hz1 oq hS => ?_)
  have hsz := hz1.trans hsz
  have hA := hA.k (oq _ (by omega)) (oq _ (by omega))
  have hO : OA D (a) 4 [.ref (a + 1), .int (iI (0))] H1 := hnew
  clear hnew oq hz1
  refine lv_aload_n hx hb dX4_init_17 rfl (lv_at hl 0 rfl) ?_
  refine pw_iconst hx hb dX4_init_18 ?_
  refine pw_put (C := RX4) (T := TX4) (N := 2) hx hb hts hin4 tyX4 tyX4_ok nmX4 hown hK hO hS (by (try dsimp only); omega) rfl 1 (by decide) lk_20 rfl rfl rfl rfl (by show _ < 2; decide) dX4_init_19 (fun H1 locs1 hnew hz1 oq hS => ?_)
  have hsz := hz1.trans hsz
  have hA := hA.k (oq _ (by omega)) (oq _ (by omega))
  have hO : OA D (a) 4 [.ref (a + 1), .int (iI (1))] H1 := hnew
  clear hnew oq hz1
  exact pw_vret hx hb hr hlocks hS ⟨⟨hO, hA⟩, hsz⟩ dX4_init_22
set_option maxHeartbeats 4000000 in
set_option maxRecDepth 100000 in
/-- Chooser() -/
theorem c_ChooserI (l : Launch) (D : va_G) (E : Nat → ClassId) (a : Nat) : pw_M rvV l D E yX1_init wsX1_init ({ frames := 3, cells := 8, slots := 85, locals := 61 } : Room) [.ref (a)] (fun H => OA D (a) 1 [.null, .null, .null] H ∧ H.size = a + 1) (fun _ H => CH D E a (a + 1) (a + 4) 0 1 0 1 H ∧ H.size = a + 9) (fun q => a ≤ q) (8) (85) := by
  refine pw_of (cc := cX1_init) (maxL := 1) (ret := none) (by decide +kernel) rfl (Nat.le_of_ble_eq_true rfl) ?_
  intro p e s m args below meth c hx hb hr hml hts hown hlocks hini hK ⟨hO, hsz⟩ ls hl
  have hown : s.vm.findClass RX1 = some m.cls := hown
  have hl : lv_has ls 1 [(0, .ref (a))] := hl
  have hS : va_S (fun q => a ≤ q) s.heap s.heap [] := va_S.rf
  have lk_12 := hts (.fieldLink RX1 12 "PolicyWorks$Chooser" "best" "LPolicyWorks$Gain;") (by decide +kernel)
  have lk_18 := hts (.fieldLink RX1 18 "PolicyWorks$Chooser" "rival" "LPolicyWorks$Gain;") (by decide +kernel)
  have lk_26 := hts (.fieldLink RX1 26 "PolicyWorks$Chooser" "gap" "LPolicyWorks$Whole;") (by decide +kernel)
  have hin1 : ∀ w ∈ wsX10, w ∈ wsX1_init := by decide +kernel
  have hin4 : ∀ w ∈ wsX40, w ∈ wsX1_init := by decide +kernel
  have hin8 : ∀ w ∈ wsX80, w ∈ wsX1_init := by decide +kernel
  have ki_4 := hts (.instantiable RX4 2) (by decide +kernel)
  have ki_8 := hts (.instantiable RX8 3) (by decide +kernel)
  have kl_21 := hts (.classLink RX1 21 RX8) (by decide +kernel)
  have kl_9 := hts (.classLink RX1 9 RX4) (by decide +kernel)
  have km_11 := hts (.methodLink RX1 11 yX4_init) (by decide +kernel)
  have km_23 := hts (.methodLink RX1 23 yX8_init) (by decide +kernel)
  have kn_4 := hts (.instanceMethod yX4_init) (by decide +kernel)
  have kn_8 := hts (.instanceMethod yX8_init) (by decide +kernel)
  have ko_1 := hts (.methodLink RX1 3 objectInit) (by decide +kernel)
  have ko_2 := hts (.instanceMethod objectInit) (by decide +kernel)
  have ko_3 := hts (.code objectInit ⟨#[0xb1]⟩ 1 none) (by decide +kernel)
  have kz_4 := hts (.initialized RX4) (by decide +kernel)
  have kz_8 := hts (.initialized RX8) (by decide +kernel)
  refine lv_aload_n hx hb dX1_init_0 rfl (lv_at hl 0 rfl) ?_
  refine pw_objI hx hb hml hown ko_1 ko_2 ko_3 hl.1 dX1_init_1 ⟨Nat.le_of_ble_eq_true rfl, Nat.le_of_ble_eq_true rfl⟩ ?_
  refine lv_aload_n hx hb dX1_init_4 rfl (lv_at hl 0 rfl) ?_
  refine pw_new (C := RX4) (T := TX4) (N := 2) (ci := 4) hx hb hts hin4 tyX4 tyX4_ok hown kl_9 ki_4 kz_4 hK hS rfl [.null, .int (iI (0))] (fun j hj => by match j, hj with | 0, _ => rfl | 1, _ => rfl) (by show _ ≤ 8; omega) (by show _ ≤ 85; omega) dX1_init_5 (fun H1 hnew hz1 oq hS => ?_)
  have hO := hO.k (oq _ hO.lt)
  have hsz1 : H1.size = a + 2 := by omega
  rw [hsz] at hnew ⊢
  clear hz1 oq hsz
  have hsz := hsz1
  clear hsz1
  have hA := hnew
  clear hnew
  refine lv_dup hx hb dX1_init_8 rfl ?_
  refine pw_callI (As := []) (rest := [.ref (a + 1), .ref (a)]) ⟨hx, hb, hml, hown, hts⟩ (c_GainI l D E (a + 1)) (cwI 0 hts gX1_init_X4_init rfl rfl rfl kz_4 km_11 kn_4 rfl (by decide +kernel) ⟨Nat.le_of_ble_eq_true rfl, Nat.le_of_ble_eq_true rfl⟩) hK (⟨hA, hsz⟩) rfl hl.1 rfl (Nat.le_of_ble_eq_true rfl) dX1_init_9 ⟨by show _ ≤ 8; omega, by show _ ≤ 85; omega⟩ hS (fun q h => by (try dsimp only at h); (try dsimp only); omega) (fun H1 locs1 ⟨hA, hsz⟩ hz1 hk1 hS => ?_)
  have hO := hO.k (hk1 _ hO.lt (by (try dsimp only); omega))
  clear hz1 hk1
  refine pw_put (C := RX1) (T := TX1) (N := 3) hx hb hts hin1 tyX1 tyX1_ok nmX1 hown hK hO hS (by (try dsimp only); omega) rfl 0 (by decide) lk_12 rfl rfl rfl rfl (by show _ < 3; decide) dX1_init_12 (fun H1 locs1 hnew hz1 oq hS => ?_)
  have hsz := hz1.trans hsz
  have hA := hA.k (fun q h1 h2 h3 => (oq _ (by omega)))
  have hO : OA D (a) 1 [.ref (a + 1), .null, .null] H1 := hnew
  clear hnew oq hz1
  refine lv_aload_n hx hb dX1_init_15 rfl (lv_at hl 0 rfl) ?_
  refine pw_new (C := RX4) (T := TX4) (N := 2) (ci := 4) hx hb hts hin4 tyX4 tyX4_ok hown kl_9 ki_4 kz_4 hK hS rfl [.null, .int (iI (0))] (fun j hj => by match j, hj with | 0, _ => rfl | 1, _ => rfl) (by show _ ≤ 8; omega) (by show _ ≤ 85; omega) dX1_init_16 (fun H1 hnew hz1 oq hS => ?_)
  have hO := hO.k (oq _ hO.lt)
  have hA := hA.k (fun q h1 h2 h3 => (oq _ h3))
  have hsz1 : H1.size = a + 5 := by omega
  rw [hsz] at hnew ⊢
  clear hz1 oq hsz
  have hsz := hsz1
  clear hsz1
  have hB := hnew
  clear hnew
  refine lv_dup hx hb dX1_init_19 rfl ?_
  refine pw_callI (As := []) (rest := [.ref (a + 4), .ref (a)]) ⟨hx, hb, hml, hown, hts⟩ (c_GainI l D E (a + 4)) (cwI 0 hts gX1_init_X4_init rfl rfl rfl kz_4 km_11 kn_4 rfl (by decide +kernel) ⟨Nat.le_of_ble_eq_true rfl, Nat.le_of_ble_eq_true rfl⟩) hK (⟨hB, hsz⟩) rfl hl.1 rfl (Nat.le_of_ble_eq_true rfl) dX1_init_20 ⟨by show _ ≤ 8; omega, by show _ ≤ 85; omega⟩ hS (fun q h => by (try dsimp only at h); (try dsimp only); omega) (fun H1 locs1 ⟨hB, hsz⟩ hz1 hk1 hS => ?_)
  have hO := hO.k (hk1 _ hO.lt (by (try dsimp only); omega))
  have hA := hA.k (fun q h1 h2 h3 => (hk1 _ h3 (by (try dsimp only); omega)))
  clear hz1 hk1
  refine pw_put (C := RX1) (T := TX1) (N := 3) hx hb hts hin1 tyX1 tyX1_ok nmX1 hown hK hO hS (by (try dsimp only); omega) rfl 1 (by decide) lk_18 rfl rfl rfl rfl (by show _ < 3; decide) dX1_init_23 (fun H1 locs1 hnew hz1 oq hS => ?_)
  have hsz := hz1.trans hsz
  have hA := hA.k (fun q h1 h2 h3 => (oq _ (by omega)))
  have hB := hB.k (fun q h1 h2 h3 => (oq _ (by omega)))
  have hO : OA D (a) 1 [.ref (a + 1), .ref (a + 4), .null] H1 := hnew
  clear hnew oq hz1
  refine lv_aload_n hx hb dX1_init_26 rfl (lv_at hl 0 rfl) ?_
  refine pw_new (C := RX8) (T := TX8) (N := 3) (ci := 8) hx hb hts hin8 tyX8 tyX8_ok hown kl_21 ki_8 kz_8 hK hS rfl [.null, .int (iI (0)), .int (iI (0))] (fun j hj => by match j, hj with | 0, _ => rfl | 1, _ => rfl | 2, _ => rfl) (by show _ ≤ 8; omega) (by show _ ≤ 85; omega) dX1_init_27 (fun H1 hnew hz1 oq hS => ?_)
  have hO := hO.k (oq _ hO.lt)
  have hA := hA.k (fun q h1 h2 h3 => (oq _ h3))
  have hB := hB.k (fun q h1 h2 h3 => (oq _ h3))
  have hsz1 : H1.size = a + 8 := by omega
  rw [hsz] at hnew ⊢
  clear hz1 oq hsz
  have hsz := hsz1
  clear hsz1
  have hC := hnew
  clear hnew
  refine lv_dup hx hb dX1_init_30 rfl ?_
  refine pw_bipush hx hb dX1_init_31 ?_
  refine pw_asi (((24 : Nat) : Int)) rfl ?_
  refine pw_callI (As := [.int (iI (((24 : Nat) : Int)))]) (rest := [.ref (a + 7), .ref (a)]) ⟨hx, hb, hml, hown, hts⟩ (c_WholeI l D E (a + 7) (24) (by omega)) (cwI 1 hts gX1_init_X8_init rfl rfl rfl kz_8 km_23 kn_8 rfl (by decide +kernel) ⟨Nat.le_of_ble_eq_true rfl, Nat.le_of_ble_eq_true rfl⟩) hK (⟨hC, hsz⟩) rfl hl.1 rfl (Nat.le_of_ble_eq_true rfl) dX1_init_33 ⟨by show _ ≤ 8; omega, by show _ ≤ 85; omega⟩ hS (fun q h => by (try dsimp only at h); (try dsimp only); omega) (fun H1 locs1 ⟨hC, hsz⟩ hz1 hk1 hS => ?_)
  have hO := hO.k (hk1 _ hO.lt (by (try dsimp only); omega))
  have hA := hA.k (fun q h1 h2 h3 => (hk1 _ h3 (by (try dsimp only); omega)))
  have hB := hB.k (fun q h1 h2 h3 => (hk1 _ h3 (by (try dsimp only); omega)))
  clear hz1 hk1
  refine pw_putF (C := RX1) (T := TX1) (N := 3) hx hb hts hin1 tyX1 tyX1_ok nmX1 hown hK hO hS (by (try dsimp only); omega) rfl 2 (by decide) lk_26 rfl rfl hini rfl rfl rfl (by show _ < 3; decide) dX1_init_36 (fun H1 locs1 hnew hz1 oq hS => ?_)
  have hsz := hz1.trans hsz
  have hA := hA.k (fun q h1 h2 h3 => (oq _ (by omega)))
  have hB := hB.k (fun q h1 h2 h3 => (oq _ (by omega)))
  have hC := hC.k (oq _ (by omega)) (oq _ (by omega))
  have hO : OA D (a) 1 [.ref (a + 1), .ref (a + 4), .ref (a + 7)] H1 := hnew
  clear hnew oq hz1
  exact pw_vret hx hb hr hlocks hS ⟨⟨hO, Or.inl ⟨rfl, rfl⟩, hA, hB, _, hC⟩, hsz⟩ dX1_init_39
set_option maxHeartbeats 4000000 in
set_option maxRecDepth 100000 in
/-- Fraction() -/
theorem c_FractionI (l : Launch) (D : va_G) (E : Nat → ClassId) (a : Nat) : pw_M rvV l D E yX3_init wsX3_init ({ frames := 2, cells := 10, slots := 135, locals := 41 } : Room) [.ref (a)] (fun H => OA D (a) 3 [.null, .null, .null, .null, .null] H ∧ H.size = a + 1) (fun _ H => FR D E a 0 0 0 0 0 H ∧ H.size = a + 11) (fun q => a ≤ q) (10) (135) := by
  refine pw_of (cc := cX3_init) (maxL := 1) (ret := none) (by decide +kernel) rfl (Nat.le_of_ble_eq_true rfl) ?_
  intro p e s m args below meth c hx hb hr hml hts hown hlocks hini hK ⟨hO, hsz⟩ ls hl
  have hown : s.vm.findClass RX3 = some m.cls := hown
  have hl : lv_has ls 1 [(0, .ref (a))] := hl
  have hS : va_S (fun q => a ≤ q) s.heap s.heap [] := va_S.rf
  have lk_14 := hts (.fieldLink RX3 14 "PolicyWorks$Fraction" "above" "LPolicyWorks$Whole;") (by decide +kernel)
  have lk_20 := hts (.fieldLink RX3 20 "PolicyWorks$Fraction" "below" "LPolicyWorks$Whole;") (by decide +kernel)
  have lk_23 := hts (.fieldLink RX3 23 "PolicyWorks$Fraction" "one" "LPolicyWorks$Whole;") (by decide +kernel)
  have lk_26 := hts (.fieldLink RX3 26 "PolicyWorks$Fraction" "other" "LPolicyWorks$Whole;") (by decide +kernel)
  have lk_29 := hts (.fieldLink RX3 29 "PolicyWorks$Fraction" "quotient" "LPolicyWorks$Whole;") (by decide +kernel)
  have hin3 : ∀ w ∈ wsX30, w ∈ wsX3_init := by decide +kernel
  have hin8 : ∀ w ∈ wsX80, w ∈ wsX3_init := by decide +kernel
  have ki_8 := hts (.instantiable RX8 3) (by decide +kernel)
  have kl_9 := hts (.classLink RX3 9 RX8) (by decide +kernel)
  have km_11 := hts (.methodLink RX3 11 yX8_init) (by decide +kernel)
  have kn_8 := hts (.instanceMethod yX8_init) (by decide +kernel)
  have ko_1 := hts (.methodLink RX3 3 objectInit) (by decide +kernel)
  have ko_2 := hts (.instanceMethod objectInit) (by decide +kernel)
  have ko_3 := hts (.code objectInit ⟨#[0xb1]⟩ 1 none) (by decide +kernel)
  have kz_8 := hts (.initialized RX8) (by decide +kernel)
  refine lv_aload_n hx hb dX3_init_0 rfl (lv_at hl 0 rfl) ?_
  refine pw_objI hx hb hml hown ko_1 ko_2 ko_3 hl.1 dX3_init_1 ⟨Nat.le_of_ble_eq_true rfl, Nat.le_of_ble_eq_true rfl⟩ ?_
  refine lv_aload_n hx hb dX3_init_4 rfl (lv_at hl 0 rfl) ?_
  refine pw_new (C := RX8) (T := TX8) (N := 3) (ci := 8) hx hb hts hin8 tyX8 tyX8_ok hown kl_9 ki_8 kz_8 hK hS rfl [.null, .int (iI (0)), .int (iI (0))] (fun j hj => by match j, hj with | 0, _ => rfl | 1, _ => rfl | 2, _ => rfl) (by show _ ≤ 10; omega) (by show _ ≤ 135; omega) dX3_init_5 (fun H1 hnew hz1 oq hS => ?_)
  have hO := hO.k (oq _ hO.lt)
  have hsz1 : H1.size = a + 2 := by omega
  rw [hsz] at hnew ⊢
  clear hz1 oq hsz
  have hsz := hsz1
  clear hsz1
  have hA0 := hnew
  clear hnew
  refine lv_dup hx hb dX3_init_8 rfl ?_
  refine pw_bipush hx hb dX3_init_9 ?_
  refine pw_asi (((24 : Nat) : Int)) rfl ?_
  refine pw_callI (As := [.int (iI (((24 : Nat) : Int)))]) (rest := [.ref (a + 1), .ref (a)]) ⟨hx, hb, hml, hown, hts⟩ (c_WholeI l D E (a + 1) (24) (by omega)) (cwI 1 hts gX3_init_X8_init rfl rfl rfl kz_8 km_11 kn_8 rfl (by decide +kernel) ⟨Nat.le_of_ble_eq_true rfl, Nat.le_of_ble_eq_true rfl⟩) hK (⟨hA0, hsz⟩) rfl hl.1 rfl (Nat.le_of_ble_eq_true rfl) dX3_init_11 ⟨by show _ ≤ 10; omega, by show _ ≤ 135; omega⟩ hS (fun q h => by (try dsimp only at h); (try dsimp only); omega) (fun H1 locs1 ⟨hA0, hsz⟩ hz1 hk1 hS => ?_)
  have hO := hO.k (hk1 _ hO.lt (by (try dsimp only); omega))
  clear hz1 hk1
  refine pw_putF (C := RX3) (T := TX3) (N := 5) hx hb hts hin3 tyX3 tyX3_ok nmX3 hown hK hO hS (by (try dsimp only); omega) rfl 0 (by decide) lk_14 rfl rfl hini rfl rfl rfl (by show _ < 5; decide) dX3_init_14 (fun H1 locs1 hnew hz1 oq hS => ?_)
  have hsz := hz1.trans hsz
  have hA0 := hA0.k (oq _ (by omega)) (oq _ (by omega))
  have hO : OA D (a) 3 [.ref (a + 1), .null, .null, .null, .null] H1 := hnew
  clear hnew oq hz1
  refine lv_aload_n hx hb dX3_init_17 rfl (lv_at hl 0 rfl) ?_
  refine pw_new (C := RX8) (T := TX8) (N := 3) (ci := 8) hx hb hts hin8 tyX8 tyX8_ok hown kl_9 ki_8 kz_8 hK hS rfl [.null, .int (iI (0)), .int (iI (0))] (fun j hj => by match j, hj with | 0, _ => rfl | 1, _ => rfl | 2, _ => rfl) (by show _ ≤ 10; omega) (by show _ ≤ 135; omega) dX3_init_18 (fun H1 hnew hz1 oq hS => ?_)
  have hO := hO.k (oq _ hO.lt)
  have hA0 := hA0.k (oq _ (by have := hA0.lt; omega)) (oq _ hA0.lt)
  have hsz1 : H1.size = a + 4 := by omega
  rw [hsz] at hnew ⊢
  clear hz1 oq hsz
  have hsz := hsz1
  clear hsz1
  have hA1 := hnew
  clear hnew
  refine lv_dup hx hb dX3_init_21 rfl ?_
  refine pw_bipush hx hb dX3_init_22 ?_
  refine pw_asi (((24 : Nat) : Int)) rfl ?_
  refine pw_callI (As := [.int (iI (((24 : Nat) : Int)))]) (rest := [.ref (a + 3), .ref (a)]) ⟨hx, hb, hml, hown, hts⟩ (c_WholeI l D E (a + 3) (24) (by omega)) (cwI 1 hts gX3_init_X8_init rfl rfl rfl kz_8 km_11 kn_8 rfl (by decide +kernel) ⟨Nat.le_of_ble_eq_true rfl, Nat.le_of_ble_eq_true rfl⟩) hK (⟨hA1, hsz⟩) rfl hl.1 rfl (Nat.le_of_ble_eq_true rfl) dX3_init_24 ⟨by show _ ≤ 10; omega, by show _ ≤ 135; omega⟩ hS (fun q h => by (try dsimp only at h); (try dsimp only); omega) (fun H1 locs1 ⟨hA1, hsz⟩ hz1 hk1 hS => ?_)
  have hO := hO.k (hk1 _ hO.lt (by (try dsimp only); omega))
  have hA0 := hA0.k (hk1 _ (by have := hA0.lt; omega) (by (try dsimp only); omega)) (hk1 _ hA0.lt (by (try dsimp only); omega))
  clear hz1 hk1
  refine pw_putF (C := RX3) (T := TX3) (N := 5) hx hb hts hin3 tyX3 tyX3_ok nmX3 hown hK hO hS (by (try dsimp only); omega) rfl 1 (by decide) lk_20 rfl rfl hini rfl rfl rfl (by show _ < 5; decide) dX3_init_27 (fun H1 locs1 hnew hz1 oq hS => ?_)
  have hsz := hz1.trans hsz
  have hA0 := hA0.k (oq _ (by omega)) (oq _ (by omega))
  have hA1 := hA1.k (oq _ (by omega)) (oq _ (by omega))
  have hO : OA D (a) 3 [.ref (a + 1), .ref (a + 3), .null, .null, .null] H1 := hnew
  clear hnew oq hz1
  refine lv_aload_n hx hb dX3_init_30 rfl (lv_at hl 0 rfl) ?_
  refine pw_new (C := RX8) (T := TX8) (N := 3) (ci := 8) hx hb hts hin8 tyX8 tyX8_ok hown kl_9 ki_8 kz_8 hK hS rfl [.null, .int (iI (0)), .int (iI (0))] (fun j hj => by match j, hj with | 0, _ => rfl | 1, _ => rfl | 2, _ => rfl) (by show _ ≤ 10; omega) (by show _ ≤ 135; omega) dX3_init_31 (fun H1 hnew hz1 oq hS => ?_)
  have hO := hO.k (oq _ hO.lt)
  have hA0 := hA0.k (oq _ (by have := hA0.lt; omega)) (oq _ hA0.lt)
  have hA1 := hA1.k (oq _ (by have := hA1.lt; omega)) (oq _ hA1.lt)
  have hsz1 : H1.size = a + 6 := by omega
  rw [hsz] at hnew ⊢
  clear hz1 oq hsz
  have hsz := hsz1
  clear hsz1
  have hA2 := hnew
  clear hnew
  refine lv_dup hx hb dX3_init_34 rfl ?_
  refine pw_bipush hx hb dX3_init_35 ?_
  refine pw_asi (((24 : Nat) : Int)) rfl ?_
  refine pw_callI (As := [.int (iI (((24 : Nat) : Int)))]) (rest := [.ref (a + 5), .ref (a)]) ⟨hx, hb, hml, hown, hts⟩ (c_WholeI l D E (a + 5) (24) (by omega)) (cwI 1 hts gX3_init_X8_init rfl rfl rfl kz_8 km_11 kn_8 rfl (by decide +kernel) ⟨Nat.le_of_ble_eq_true rfl, Nat.le_of_ble_eq_true rfl⟩) hK (⟨hA2, hsz⟩) rfl hl.1 rfl (Nat.le_of_ble_eq_true rfl) dX3_init_37 ⟨by show _ ≤ 10; omega, by show _ ≤ 135; omega⟩ hS (fun q h => by (try dsimp only at h); (try dsimp only); omega) (fun H1 locs1 ⟨hA2, hsz⟩ hz1 hk1 hS => ?_)
  have hO := hO.k (hk1 _ hO.lt (by (try dsimp only); omega))
  have hA0 := hA0.k (hk1 _ (by have := hA0.lt; omega) (by (try dsimp only); omega)) (hk1 _ hA0.lt (by (try dsimp only); omega))
  have hA1 := hA1.k (hk1 _ (by have := hA1.lt; omega) (by (try dsimp only); omega)) (hk1 _ hA1.lt (by (try dsimp only); omega))
  clear hz1 hk1
  refine pw_putF (C := RX3) (T := TX3) (N := 5) hx hb hts hin3 tyX3 tyX3_ok nmX3 hown hK hO hS (by (try dsimp only); omega) rfl 2 (by decide) lk_23 rfl rfl hini rfl rfl rfl (by show _ < 5; decide) dX3_init_40 (fun H1 locs1 hnew hz1 oq hS => ?_)
  have hsz := hz1.trans hsz
  have hA0 := hA0.k (oq _ (by omega)) (oq _ (by omega))
  have hA1 := hA1.k (oq _ (by omega)) (oq _ (by omega))
  have hA2 := hA2.k (oq _ (by omega)) (oq _ (by omega))
  have hO : OA D (a) 3 [.ref (a + 1), .ref (a + 3), .ref (a + 5), .null, .null] H1 := hnew
  clear hnew oq hz1
  refine lv_aload_n hx hb dX3_init_43 rfl (lv_at hl 0 rfl) ?_
  refine pw_new (C := RX8) (T := TX8) (N := 3) (ci := 8) hx hb hts hin8 tyX8 tyX8_ok hown kl_9 ki_8 kz_8 hK hS rfl [.null, .int (iI (0)), .int (iI (0))] (fun j hj => by match j, hj with | 0, _ => rfl | 1, _ => rfl | 2, _ => rfl) (by show _ ≤ 10; omega) (by show _ ≤ 135; omega) dX3_init_44 (fun H1 hnew hz1 oq hS => ?_)
  have hO := hO.k (oq _ hO.lt)
  have hA0 := hA0.k (oq _ (by have := hA0.lt; omega)) (oq _ hA0.lt)
  have hA1 := hA1.k (oq _ (by have := hA1.lt; omega)) (oq _ hA1.lt)
  have hA2 := hA2.k (oq _ (by have := hA2.lt; omega)) (oq _ hA2.lt)
  have hsz1 : H1.size = a + 8 := by omega
  rw [hsz] at hnew ⊢
  clear hz1 oq hsz
  have hsz := hsz1
  clear hsz1
  have hA3 := hnew
  clear hnew
  refine lv_dup hx hb dX3_init_47 rfl ?_
  refine pw_bipush hx hb dX3_init_48 ?_
  refine pw_asi (((24 : Nat) : Int)) rfl ?_
  refine pw_callI (As := [.int (iI (((24 : Nat) : Int)))]) (rest := [.ref (a + 7), .ref (a)]) ⟨hx, hb, hml, hown, hts⟩ (c_WholeI l D E (a + 7) (24) (by omega)) (cwI 1 hts gX3_init_X8_init rfl rfl rfl kz_8 km_11 kn_8 rfl (by decide +kernel) ⟨Nat.le_of_ble_eq_true rfl, Nat.le_of_ble_eq_true rfl⟩) hK (⟨hA3, hsz⟩) rfl hl.1 rfl (Nat.le_of_ble_eq_true rfl) dX3_init_50 ⟨by show _ ≤ 10; omega, by show _ ≤ 135; omega⟩ hS (fun q h => by (try dsimp only at h); (try dsimp only); omega) (fun H1 locs1 ⟨hA3, hsz⟩ hz1 hk1 hS => ?_)
  have hO := hO.k (hk1 _ hO.lt (by (try dsimp only); omega))
  have hA0 := hA0.k (hk1 _ (by have := hA0.lt; omega) (by (try dsimp only); omega)) (hk1 _ hA0.lt (by (try dsimp only); omega))
  have hA1 := hA1.k (hk1 _ (by have := hA1.lt; omega) (by (try dsimp only); omega)) (hk1 _ hA1.lt (by (try dsimp only); omega))
  have hA2 := hA2.k (hk1 _ (by have := hA2.lt; omega) (by (try dsimp only); omega)) (hk1 _ hA2.lt (by (try dsimp only); omega))
  clear hz1 hk1
  refine pw_putF (C := RX3) (T := TX3) (N := 5) hx hb hts hin3 tyX3 tyX3_ok nmX3 hown hK hO hS (by (try dsimp only); omega) rfl 3 (by decide) lk_26 rfl rfl hini rfl rfl rfl (by show _ < 5; decide) dX3_init_53 (fun H1 locs1 hnew hz1 oq hS => ?_)
  have hsz := hz1.trans hsz
  have hA0 := hA0.k (oq _ (by omega)) (oq _ (by omega))
  have hA1 := hA1.k (oq _ (by omega)) (oq _ (by omega))
  have hA2 := hA2.k (oq _ (by omega)) (oq _ (by omega))
  have hA3 := hA3.k (oq _ (by omega)) (oq _ (by omega))
  have hO : OA D (a) 3 [.ref (a + 1), .ref (a + 3), .ref (a + 5), .ref (a + 7), .null] H1 := hnew
  clear hnew oq hz1
  refine lv_aload_n hx hb dX3_init_56 rfl (lv_at hl 0 rfl) ?_
  refine pw_new (C := RX8) (T := TX8) (N := 3) (ci := 8) hx hb hts hin8 tyX8 tyX8_ok hown kl_9 ki_8 kz_8 hK hS rfl [.null, .int (iI (0)), .int (iI (0))] (fun j hj => by match j, hj with | 0, _ => rfl | 1, _ => rfl | 2, _ => rfl) (by show _ ≤ 10; omega) (by show _ ≤ 135; omega) dX3_init_57 (fun H1 hnew hz1 oq hS => ?_)
  have hO := hO.k (oq _ hO.lt)
  have hA0 := hA0.k (oq _ (by have := hA0.lt; omega)) (oq _ hA0.lt)
  have hA1 := hA1.k (oq _ (by have := hA1.lt; omega)) (oq _ hA1.lt)
  have hA2 := hA2.k (oq _ (by have := hA2.lt; omega)) (oq _ hA2.lt)
  have hA3 := hA3.k (oq _ (by have := hA3.lt; omega)) (oq _ hA3.lt)
  have hsz1 : H1.size = a + 10 := by omega
  rw [hsz] at hnew ⊢
  clear hz1 oq hsz
  have hsz := hsz1
  clear hsz1
  have hA4 := hnew
  clear hnew
  refine lv_dup hx hb dX3_init_60 rfl ?_
  refine pw_bipush hx hb dX3_init_61 ?_
  refine pw_asi (((24 : Nat) : Int)) rfl ?_
  refine pw_callI (As := [.int (iI (((24 : Nat) : Int)))]) (rest := [.ref (a + 9), .ref (a)]) ⟨hx, hb, hml, hown, hts⟩ (c_WholeI l D E (a + 9) (24) (by omega)) (cwI 1 hts gX3_init_X8_init rfl rfl rfl kz_8 km_11 kn_8 rfl (by decide +kernel) ⟨Nat.le_of_ble_eq_true rfl, Nat.le_of_ble_eq_true rfl⟩) hK (⟨hA4, hsz⟩) rfl hl.1 rfl (Nat.le_of_ble_eq_true rfl) dX3_init_63 ⟨by show _ ≤ 10; omega, by show _ ≤ 135; omega⟩ hS (fun q h => by (try dsimp only at h); (try dsimp only); omega) (fun H1 locs1 ⟨hA4, hsz⟩ hz1 hk1 hS => ?_)
  have hO := hO.k (hk1 _ hO.lt (by (try dsimp only); omega))
  have hA0 := hA0.k (hk1 _ (by have := hA0.lt; omega) (by (try dsimp only); omega)) (hk1 _ hA0.lt (by (try dsimp only); omega))
  have hA1 := hA1.k (hk1 _ (by have := hA1.lt; omega) (by (try dsimp only); omega)) (hk1 _ hA1.lt (by (try dsimp only); omega))
  have hA2 := hA2.k (hk1 _ (by have := hA2.lt; omega) (by (try dsimp only); omega)) (hk1 _ hA2.lt (by (try dsimp only); omega))
  have hA3 := hA3.k (hk1 _ (by have := hA3.lt; omega) (by (try dsimp only); omega)) (hk1 _ hA3.lt (by (try dsimp only); omega))
  clear hz1 hk1
  refine pw_putF (C := RX3) (T := TX3) (N := 5) hx hb hts hin3 tyX3 tyX3_ok nmX3 hown hK hO hS (by (try dsimp only); omega) rfl 4 (by decide) lk_29 rfl rfl hini rfl rfl rfl (by show _ < 5; decide) dX3_init_66 (fun H1 locs1 hnew hz1 oq hS => ?_)
  have hsz := hz1.trans hsz
  have hA0 := hA0.k (oq _ (by omega)) (oq _ (by omega))
  have hA1 := hA1.k (oq _ (by omega)) (oq _ (by omega))
  have hA2 := hA2.k (oq _ (by omega)) (oq _ (by omega))
  have hA3 := hA3.k (oq _ (by omega)) (oq _ (by omega))
  have hA4 := hA4.k (oq _ (by omega)) (oq _ (by omega))
  have hO : OA D (a) 3 [.ref (a + 1), .ref (a + 3), .ref (a + 5), .ref (a + 7), .ref (a + 9)] H1 := hnew
  clear hnew oq hz1
  exact pw_vret hx hb hr hlocks hS ⟨⟨hO, hA0, hA1, hA2, hA3, hA4⟩, hsz⟩ dX3_init_69
set_option maxHeartbeats 4000000 in
set_option maxRecDepth 100000 in
/-- Row(n) -/
theorem c_RowI (l : Launch) (D : va_G) (E : Nat → ClassId) (a n : Nat) (hn : n < 1000) : pw_N rvV l D E yX7_init wsX7_init ({ frames := 2, cells := 15, slots := 6 + 7 * (3 + n), locals := 41 } : Room) [.ref (a), .int (iI ((n : Int)))] (fun H => OA D (a) 7 [.null, .null] H ∧ H.size = a + 1) (fun _ H => RW D E a n (fun _ => 0) 0 H ∧ H.size = a + 16) (fun q => a ≤ q) (15) (6 + 7 * (3 + n)) := by
  refine pw_Nof (cc := cX7_init) (maxL := 3) (ret := none) (by decide +kernel) rfl (Nat.le_of_ble_eq_true rfl) ?_
  intro p e s m args below meth c hx hb hr hml hts hown hlocks hini hK hAO ⟨hO, hsz⟩ ls hl
  have hown : s.vm.findClass RX7 = some m.cls := hown
  have hl : lv_has ls 3 [(0, .ref (a)), (1, .int (iI ((n : Int))))] := hl
  have hS : va_S (fun q => a ≤ q) s.heap s.heap [] := va_S.rf
  have lk_11 := hts (.fieldLink RX7 11 "PolicyWorks$Row" "above" "[LPolicyWorks$Whole;") (by decide +kernel)
  have lk_20 := hts (.fieldLink RX7 20 "PolicyWorks$Row" "below" "LPolicyWorks$Whole;") (by decide +kernel)
  have hin7 : ∀ w ∈ wsX70, w ∈ wsX7_init := by decide +kernel
  have hin8 : ∀ w ∈ wsX80, w ∈ wsX7_init := by decide +kernel
  have ki_8 := hts (.instantiable RX8 3) (by decide +kernel)
  have kl_9 := hts (.classLink RX7 9 RX8) (by decide +kernel)
  have km_17 := hts (.methodLink RX7 17 yX8_init) (by decide +kernel)
  have kn_8 := hts (.instanceMethod yX8_init) (by decide +kernel)
  have ko_1 := hts (.methodLink RX7 3 objectInit) (by decide +kernel)
  have ko_2 := hts (.instanceMethod objectInit) (by decide +kernel)
  have ko_3 := hts (.code objectInit ⟨#[0xb1]⟩ 1 none) (by decide +kernel)
  have kz_8 := hts (.initialized RX8) (by decide +kernel)
  have loop : ∀ (kk k : Nat) (f : Nat → Option Nat) (H : Heap) (locs : List Loc) (ls : Array Slot), k + kk = 6 → (∀ j, j < k → f j = some (a + 2 + 2 * j)) → OA D a 7 [.ref (a + 1), .null] H → QA E 5 (a + 1) 6 f H → WHS D E (a + 2) n k H → H.size = a + 2 + 2 * k → va_S (fun q => a ≤ q) s.heap H locs → lv_has ls 3 [(0, .ref (a)), (1, .int (iI ((n : Int)))), (2, .int (iI ((k : Int))))] → W p l e ({ frames := 2, cells := 15, slots := 6 + 7 * (3 + n), locals := 41 } : Room) s m args below meth c H locs (1 + 2 * k) (6 + k * (3 + n)) (MQ below (pw_Q rvV (fun _ H => RW D E a n (fun _ => 0) 0 H ∧ H.size = a + 16) (fun q => a ≤ q)) args s (15) (6 + 7 * (3 + n)) (fun q => a ≤ q)) (F0 m 15 ls []) := by
    intro kk
    induction kk with
    | zero =>
      intro k f H locs ls hk hf hO hQ hWS hsz hS hl
      have ek : k = 6 := by omega
      subst ek
      refine lv_iload_n hx hb dX7_init_15 rfl (lv_at hl 2 rfl) ?_
      refine pw_bipush hx hb dX7_init_16 ?_
      refine pw_icmp_ge (tgt := 41) hx hb dX7_init_18 (by decide) (fun c_18 => ?_) (fun c_18 => absurd c_18 (by omega))
      refine lv_aload_n hx hb dX7_init_41 rfl (lv_at hl 0 rfl) ?_
      refine pw_new (C := RX8) (T := TX8) (N := 3) (ci := 8) hx hb hts hin8 tyX8 tyX8_ok hown kl_9 ki_8 kz_8 hK hS rfl [.null, .int (iI (0)), .int (iI (0))] (fun j hj => by match j, hj with | 0, _ => rfl | 1, _ => rfl | 2, _ => rfl) (by show _ ≤ 15; omega) (by show _ ≤ 6 + 7 * (3 + n); omega) dX7_init_42 (fun H1 hnew hz1 oq hS => ?_)
      have hO := hO.k (oq _ hO.lt)
      have hQ := hQ.k (oq _ hQ.lt)
      have hWS := hWS.k (fun q h1 h2 h3 => (oq _ h3))
      have hsz1 : H1.size = a + 15 := by omega
      rw [hsz] at hnew ⊢
      clear hz1 oq hsz
      have hsz := hsz1
      clear hsz1
      have hB := hnew
      clear hnew
      refine lv_dup hx hb dX7_init_45 rfl ?_
      refine lv_iload_n hx hb dX7_init_46 rfl (lv_at hl 1 rfl) ?_
      refine pw_callI (As := [.int (iI ((n : Int)))]) (rest := [.ref (a + 14), .ref (a)]) ⟨hx, hb, hml, hown, hts⟩ (c_WholeI l D E (a + 14) (n) (by omega)) (cwI 1 hts gX7_init_X8_init rfl rfl rfl kz_8 km_17 kn_8 rfl (by decide +kernel) ⟨Nat.le_of_ble_eq_true rfl, Nat.le_of_ble_eq_true rfl⟩) hK (⟨hB, hsz⟩) rfl hl.1 rfl (Nat.le_of_ble_eq_true rfl) dX7_init_47 ⟨by show _ ≤ 15; omega, by show _ ≤ 6 + 7 * (3 + n); omega⟩ hS (fun q h => by (try dsimp only at h); (try dsimp only); omega) (fun H1 locs1 ⟨hB, hsz⟩ hz1 hk1 hS => ?_)
      have hO := hO.k (hk1 _ hO.lt (by (try dsimp only); omega))
      have hQ := hQ.k (hk1 _ hQ.lt (by (try dsimp only); omega))
      have hWS := hWS.k (fun q h1 h2 h3 => (hk1 _ h3 (by (try dsimp only); omega)))
      clear hz1 hk1
      refine pw_putF (C := RX7) (T := TX7) (N := 2) hx hb hts hin7 tyX7 tyX7_ok nmX7 hown hK hO hS (by (try dsimp only); omega) rfl 1 (by decide) lk_20 rfl rfl hini rfl rfl rfl (by show _ < 2; decide) dX7_init_50 (fun H1 locs1 hnew hz1 oq hS => ?_)
      have hQ := hQ.k (oq _ (by omega))
      have hWS := hWS.k (fun q h1 h2 h3 => (oq _ (by omega)))
      have hsz := hz1.trans hsz
      have hB := hB.k (oq _ (by omega)) (oq _ (by omega))
      have hO : OA D (a) 7 [.ref (a + 1), .ref (a + 14)] H1 := hnew
      clear hnew oq hz1
      refine pw_cs (cells' := 15) (slots' := 6 + 7 * (3 + n)) (by omega) (by omega) ?_
      exact pw_vret hx hb hr hlocks hS ⟨⟨hO, hQ.up (fun j hj => hf j hj), hWS, hB⟩, hsz⟩ dX7_init_53
    | succ kk ih =>
      intro k f H locs ls hk hf hO hQ hWS hsz hS hl
      have hkn : k * (3 + n) ≤ 5 * (3 + n) := Nat.mul_le_mul_right _ (by omega)
      refine lv_iload_n hx hb dX7_init_15 rfl (lv_at hl 2 rfl) ?_
      refine pw_bipush hx hb dX7_init_16 ?_
      refine pw_icmp_ge (tgt := 41) hx hb dX7_init_18 (by decide) (fun c_18 => absurd c_18 (by omega)) (fun c_18 => ?_)
      refine lv_aload_n hx hb dX7_init_21 rfl (lv_at hl 0 rfl) ?_
      refine pw_get (C := RX7) (T := TX7) (N := 2) hx hb hts hin7 hown hK hO rfl 0 (by decide) lk_11 rfl rfl dX7_init_22 ?_
      refine lv_iload_n hx hb dX7_init_25 rfl (lv_at hl 2 rfl) ?_
      refine pw_new (C := RX8) (T := TX8) (N := 3) (ci := 8) hx hb hts hin8 tyX8 tyX8_ok hown kl_9 ki_8 kz_8 hK hS rfl [.null, .int (iI (0)), .int (iI (0))] (fun j hj => by match j, hj with | 0, _ => rfl | 1, _ => rfl | 2, _ => rfl) (by show _ ≤ 15; omega) (by show _ ≤ 6 + 7 * (3 + n); omega) dX7_init_26 (fun H1 hnew hz1 oq hS => ?_)
      have hO := hO.k (oq _ hO.lt)
      have hQ := hQ.k (oq _ hQ.lt)
      have hWS := hWS.k (fun q h1 h2 h3 => (oq _ h3))
      have hsz1 : H1.size = a + 2 + 2 * k + 1 := by omega
      rw [hsz] at hnew ⊢
      clear hz1 oq hsz
      have hsz := hsz1
      clear hsz1
      have hW := hnew
      clear hnew
      refine lv_dup hx hb dX7_init_29 rfl ?_
      refine lv_iload_n hx hb dX7_init_30 rfl (lv_at hl 1 rfl) ?_
      refine pw_callI (As := [.int (iI ((n : Int)))]) (rest := [.ref (a + 2 + 2 * k), .int (iI ((k : Int))), .ref (a + 1)]) ⟨hx, hb, hml, hown, hts⟩ (c_WholeI l D E (a + 2 + 2 * k) (n) (by omega)) (cwI 1 hts gX7_init_X8_init rfl rfl rfl kz_8 km_17 kn_8 rfl (by decide +kernel) ⟨Nat.le_of_ble_eq_true rfl, Nat.le_of_ble_eq_true rfl⟩) hK (⟨hW, hsz⟩) rfl hl.1 rfl (Nat.le_of_ble_eq_true rfl) dX7_init_31 ⟨by show _ ≤ 15; omega, by show _ ≤ 6 + 7 * (3 + n); omega⟩ hS (fun q h => by (try dsimp only at h); (try dsimp only); omega) (fun H1 locs1 ⟨hW, hsz⟩ hz1 hk1 hS => ?_)
      have hO := hO.k (hk1 _ hO.lt (by (try dsimp only); omega))
      have hQ := hQ.k (hk1 _ hQ.lt (by (try dsimp only); omega))
      have hWS := hWS.k (fun q h1 h2 h3 => (hk1 _ h3 (by (try dsimp only); omega)))
      clear hz1 hk1
      refine pw_qast hx hb hK hQ rfl hS (by (try dsimp only); omega) (hW.o.choose_spec) rfl (k) rfl (by omega) (by omega) dX7_init_34 (fun H1 locs1 hnew hz1 oq hS => ?_)
      have hO := hO.k (oq _ (by omega))
      have hWS := hWS.k (fun q h1 h2 h3 => (oq _ (by omega)))
      have hsz := hz1.trans hsz
      have hW := hW.k (oq _ (by omega)) (oq _ (by omega))
      have hQ := hnew
      clear hnew oq hz1
      refine lv_iinc (v := iI (((k + 1 : Nat) : Int))) (lv' := [(2, .int (iI (((k + 1 : Nat) : Int)))), (0, .ref (a)), (1, .int (iI ((n : Int))))]) hx hb dX7_init_35 hl (k := 2) rfl (by show iI _ + iI _ = _; exact (iI_add _ _).trans (by first | rfl | (congr 1; omega))) (by decide) rfl (fun ls hl => ?_)
      refine lv_goto (tgt := 15) hx hb dX7_init_38 (by decide) ?_
      refine pw_cs (cells' := 1 + 2 * (k + 1)) (slots' := 6 + (k + 1) * (3 + n)) (by omega) (by rw [Nat.add_mul]; omega) ?_
      exact ih (k + 1) _ _ _ _ (by omega) (uq_ext hf rfl) hO hQ (hWS.up hW) (by omega) hS (lv_sub hl [1, 2, 0] rfl)
  refine lv_aload_n hx hb dX7_init_0 rfl (lv_at hl 0 rfl) ?_
  refine pw_objI hx hb hml hown ko_1 ko_2 ko_3 hl.1 dX7_init_1 ⟨Nat.le_of_ble_eq_true rfl, Nat.le_of_ble_eq_true rfl⟩ ?_
  refine lv_aload_n hx hb dX7_init_4 rfl (lv_at hl 0 rfl) ?_
  refine pw_bipush hx hb dX7_init_5 ?_
  refine pw_newq (C := RX8) hx hb hown kl_9 hAO.2.2.1 hK hS 5 rfl (6) rfl (by omega) (by show _ ≤ 15; omega) (by show _ ≤ 6 + 7 * (3 + n); omega) dX7_init_7 (fun H1 hnew hz1 oq hS => ?_)
  have hO := hO.k (oq _ hO.lt)
  have hsz1 : H1.size = a + 2 := by omega
  rw [hsz] at hnew ⊢
  clear hz1 oq hsz
  have hsz := hsz1
  clear hsz1
  have hQ := hnew
  clear hnew
  refine pw_putF (C := RX7) (T := TX7) (N := 2) hx hb hts hin7 tyX7 tyX7_ok nmX7 hown hK hO hS (by (try dsimp only); omega) rfl 0 (by decide) lk_11 rfl rfl hini rfl rfl rfl (by show _ < 2; decide) dX7_init_10 (fun H1 locs1 hnew hz1 oq hS => ?_)
  have hsz := hz1.trans hsz
  have hQ := hQ.k (oq _ (by omega))
  have hO : OA D (a) 7 [.ref (a + 1), .null] H1 := hnew
  clear hnew oq hz1
  refine pw_iconst hx hb dX7_init_13 ?_
  refine pw_asi (((0 : Nat) : Int)) rfl ?_
  refine lv_istore_n (lv' := [(2, .int (iI (((0 : Nat) : Int)))), (0, .ref (a)), (1, .int (iI ((n : Int))))]) hx hb dX7_init_14 rfl hl (by decide) rfl (fun ls hl => ?_)
  refine pw_cs (cells' := 1 + 2 * 0) (slots' := 6 + 0 * (3 + n)) (by omega) (by omega) ?_
  exact loop 6 0 _ _ _ _ (by omega) (fun j hj => by omega) hO hQ (fun j hj => by omega) (by omega) hS (lv_sub hl [1, 2, 0] rfl)
set_option maxHeartbeats 4000000 in
set_option maxRecDepth 100000 in
/-- Model() -/
theorem c_ModelI (l : Launch) (D : va_G) (E : Nat → ClassId) (a : Nat) : pw_N rvV l D E yX6_init wsX6_init ({ frames := 2, cells := 50, slots := 270, locals := 40 } : Room) [.ref (a)] (fun H => OA D (a) 6 [.null, .null, .int (iI (0)), .int (iI (0)), .int (iI (0))] H ∧ H.size = a + 1) (fun _ H => MO D E a σ0 H ∧ H.size = a + 51) (fun q => a ≤ q) (50) (270) := by
  refine pw_Nof (cc := cX6_init) (maxL := 2) (ret := none) (by decide +kernel) rfl (Nat.le_of_ble_eq_true rfl) ?_
  intro p e s m args below meth c hx hb hr hml hts hown hlocks hini hK hAO ⟨hO, hsz⟩ ls hl
  have hown : s.vm.findClass RX6 = some m.cls := hown
  have hl : lv_has ls 2 [(0, .ref (a))] := hl
  have hS : va_S (fun q => a ≤ q) s.heap s.heap [] := va_S.rf
  have lk_9 := hts (.fieldLink RX6 9 "PolicyWorks$Model" "actionCounts" "[I") (by decide +kernel)
  have lk_17 := hts (.fieldLink RX6 17 "PolicyWorks$Model" "actions" "[LPolicyWorks$Action;") (by decide +kernel)
  have lk_22 := hts (.fieldLink RX6 22 "PolicyWorks$Model" "states" "I") (by decide +kernel)
  have lk_26 := hts (.fieldLink RX6 26 "PolicyWorks$Model" "discountAbove" "I") (by decide +kernel)
  have lk_29 := hts (.fieldLink RX6 29 "PolicyWorks$Model" "discountBelow" "I") (by decide +kernel)
  have hin6 : ∀ w ∈ wsX60, w ∈ wsX6_init := by decide +kernel
  have hin0 : ∀ w ∈ wsX00, w ∈ wsX6_init := by decide +kernel
  have ka_int := hts (.arrayClass .int) (by decide +kernel)
  have ki_0 := hts (.instantiable RX0 4) (by decide +kernel)
  have kl_15 := hts (.classLink RX6 15 RX0) (by decide +kernel)
  have km_21 := hts (.methodLink RX6 21 yX0_init) (by decide +kernel)
  have kn_0 := hts (.instanceMethod yX0_init) (by decide +kernel)
  have ko_1 := hts (.methodLink RX6 3 objectInit) (by decide +kernel)
  have ko_2 := hts (.instanceMethod objectInit) (by decide +kernel)
  have ko_3 := hts (.code objectInit ⟨#[0xb1]⟩ 1 none) (by decide +kernel)
  have kz_0 := hts (.initialized RX0) (by decide +kernel)
  have loop : ∀ (kk k : Nat) (f : Nat → Option Nat) (H : Heap) (locs : List Loc) (ls : Array Slot), k + kk = 24 → (∀ j, j < k → f j = some (a + 3 + 2 * j)) → OA D a 6 [.ref (a + 1), .ref (a + 2), .int (iI (0)), .int (iI (0)), .int (iI (0))] H → IA E (a + 1) 6 (fun _ => 0) H → QA E 3 (a + 2) 24 f H → ATZ D E (a + 3) k H → H.size = a + 3 + 2 * k → va_S (fun q => a ≤ q) s.heap H locs → lv_has ls 2 [(0, .ref (a)), (1, .int (iI ((k : Int))))] → W p l e ({ frames := 2, cells := 50, slots := 270, locals := 40 } : Room) s m args below meth c H locs (2 + 2 * k) (30 + k * 10) (MQ below (pw_Q rvV (fun _ H => MO D E a σ0 H ∧ H.size = a + 51) (fun q => a ≤ q)) args s (50) (270) (fun q => a ≤ q)) (F0 m 23 ls []) := by
    intro kk
    induction kk with
    | zero =>
      intro k f H locs ls hk hf hO hI hQ hAT hsz hS hl
      have ek : k = 24 := by omega
      subst ek
      refine lv_iload_n hx hb dX6_init_23 rfl (lv_at hl 1 rfl) ?_
      refine lv_aload_n hx hb dX6_init_24 rfl (lv_at hl 0 rfl) ?_
      refine pw_get (C := RX6) (T := TX6) (N := 5) hx hb hts hin6 hown hK hO rfl 1 (by decide) lk_17 rfl rfl dX6_init_25 ?_
      refine pw_alen (n := 24) (k0 := 3) hx hb hK hQ rfl rfl dX6_init_28 ?_
      refine pw_icmp_ge (tgt := 51) hx hb dX6_init_29 (by decide) (fun c_29 => ?_) (fun c_29 => absurd c_29 (by omega))
      refine lv_aload_n hx hb dX6_init_51 rfl (lv_at hl 0 rfl) ?_
      refine pw_iconst hx hb dX6_init_52 ?_
      refine pw_put (C := RX6) (T := TX6) (N := 5) hx hb hts hin6 tyX6 tyX6_ok nmX6 hown hK hO hS (by (try dsimp only); omega) rfl 2 (by decide) lk_22 rfl rfl rfl rfl (by show _ < 5; decide) dX6_init_53 (fun H1 locs1 hnew hz1 oq hS => ?_)
      have hI := hI.k (oq _ (by omega))
      have hQ := hQ.k (oq _ (by omega))
      have hAT := hAT.k (fun q h1 h2 h3 => (oq _ (by omega)))
      have hsz := hz1.trans hsz
      have hO : OA D (a) 6 [.ref (a + 1), .ref (a + 2), .int (iI (0)), .int (iI (0)), .int (iI (0))] H1 := hnew
      clear hnew oq hz1
      refine lv_aload_n hx hb dX6_init_56 rfl (lv_at hl 0 rfl) ?_
      refine pw_iconst hx hb dX6_init_57 ?_
      refine pw_put (C := RX6) (T := TX6) (N := 5) hx hb hts hin6 tyX6 tyX6_ok nmX6 hown hK hO hS (by (try dsimp only); omega) rfl 3 (by decide) lk_26 rfl rfl rfl rfl (by show _ < 5; decide) dX6_init_58 (fun H1 locs1 hnew hz1 oq hS => ?_)
      have hI := hI.k (oq _ (by omega))
      have hQ := hQ.k (oq _ (by omega))
      have hAT := hAT.k (fun q h1 h2 h3 => (oq _ (by omega)))
      have hsz := hz1.trans hsz
      have hO : OA D (a) 6 [.ref (a + 1), .ref (a + 2), .int (iI (0)), .int (iI (1)), .int (iI (0))] H1 := hnew
      clear hnew oq hz1
      refine lv_aload_n hx hb dX6_init_61 rfl (lv_at hl 0 rfl) ?_
      refine pw_iconst hx hb dX6_init_62 ?_
      refine pw_put (C := RX6) (T := TX6) (N := 5) hx hb hts hin6 tyX6 tyX6_ok nmX6 hown hK hO hS (by (try dsimp only); omega) rfl 4 (by decide) lk_29 rfl rfl rfl rfl (by show _ < 5; decide) dX6_init_63 (fun H1 locs1 hnew hz1 oq hS => ?_)
      have hI := hI.k (oq _ (by omega))
      have hQ := hQ.k (oq _ (by omega))
      have hAT := hAT.k (fun q h1 h2 h3 => (oq _ (by omega)))
      have hsz := hz1.trans hsz
      have hO : OA D (a) 6 [.ref (a + 1), .ref (a + 2), .int (iI (0)), .int (iI (1)), .int (iI (2))] H1 := hnew
      clear hnew oq hz1
      refine pw_cs (cells' := 50) (slots' := 270) (by omega) (by omega) ?_
      exact pw_vret hx hb hr hlocks hS ⟨⟨hO, hI, hQ.up (fun j hj => hf j hj), hAT⟩, hsz⟩ dX6_init_66
    | succ kk ih =>
      intro k f H locs ls hk hf hO hI hQ hAT hsz hS hl
      refine lv_iload_n hx hb dX6_init_23 rfl (lv_at hl 1 rfl) ?_
      refine lv_aload_n hx hb dX6_init_24 rfl (lv_at hl 0 rfl) ?_
      refine pw_get (C := RX6) (T := TX6) (N := 5) hx hb hts hin6 hown hK hO rfl 1 (by decide) lk_17 rfl rfl dX6_init_25 ?_
      refine pw_alen (n := 24) (k0 := 3) hx hb hK hQ rfl rfl dX6_init_28 ?_
      refine pw_icmp_ge (tgt := 51) hx hb dX6_init_29 (by decide) (fun c_29 => absurd c_29 (by omega)) (fun c_29 => ?_)
      refine lv_aload_n hx hb dX6_init_32 rfl (lv_at hl 0 rfl) ?_
      refine pw_get (C := RX6) (T := TX6) (N := 5) hx hb hts hin6 hown hK hO rfl 1 (by decide) lk_17 rfl rfl dX6_init_33 ?_
      refine lv_iload_n hx hb dX6_init_36 rfl (lv_at hl 1 rfl) ?_
      refine pw_new (C := RX0) (T := TX0) (N := 4) (ci := 0) hx hb hts hin0 tyX0 tyX0_ok hown kl_15 ki_0 kz_0 hK hS rfl [.null, .int (iI (0)), .int (iI (0)), .int (iI (0))] (fun j hj => by match j, hj with | 0, _ => rfl | 1, _ => rfl | 2, _ => rfl | 3, _ => rfl) (by show _ ≤ 50; omega) (by show _ ≤ 270; omega) dX6_init_37 (fun H1 hnew hz1 oq hS => ?_)
      have hO := hO.k (oq _ hO.lt)
      have hI := hI.k (oq _ hI.lt)
      have hQ := hQ.k (oq _ hQ.lt)
      have hAT := hAT.k (fun q h1 h2 h3 => (oq _ h3))
      have hsz1 : H1.size = a + 3 + 2 * k + 1 := by omega
      rw [hsz] at hnew ⊢
      clear hz1 oq hsz
      have hsz := hsz1
      clear hsz1
      have hW := hnew
      clear hnew
      refine lv_dup hx hb dX6_init_40 rfl ?_
      refine pw_callI (As := []) (rest := [.ref (a + 3 + 2 * k), .int (iI ((k : Int))), .ref (a + 2)]) ⟨hx, hb, hml, hown, hts⟩ (c_ActionI l D E (a + 3 + 2 * k)) (cwI 0 hts gX6_init_X0_init rfl rfl rfl kz_0 km_21 kn_0 rfl (by decide +kernel) ⟨Nat.le_of_ble_eq_true rfl, Nat.le_of_ble_eq_true rfl⟩) hK (⟨hW, hsz⟩) rfl hl.1 rfl (Nat.le_of_ble_eq_true rfl) dX6_init_41 ⟨by show _ ≤ 50; omega, by show _ ≤ 270; omega⟩ hS (fun q h => by (try dsimp only at h); (try dsimp only); omega) (fun H1 locs1 ⟨⟨hW, hW2⟩, hsz⟩ hz1 hk1 hS => ?_)
      have hO := hO.k (hk1 _ hO.lt (by (try dsimp only); omega))
      have hI := hI.k (hk1 _ hI.lt (by (try dsimp only); omega))
      have hQ := hQ.k (hk1 _ hQ.lt (by (try dsimp only); omega))
      have hAT := hAT.k (fun q h1 h2 h3 => (hk1 _ h3 (by (try dsimp only); omega)))
      clear hz1 hk1
      refine pw_qast hx hb hK hQ rfl hS (by (try dsimp only); omega) (hW) rfl (k) rfl (by omega) (by omega) dX6_init_44 (fun H1 locs1 hnew hz1 oq hS => ?_)
      have hO := hO.k (oq _ (by omega))
      have hI := hI.k (oq _ (by omega))
      have hAT := hAT.k (fun q h1 h2 h3 => (oq _ (by omega)))
      have hsz := hz1.trans hsz
      have hW := hW.k (oq _ (by omega))
      have hW2 := hW2.k (oq _ (by omega))
      have hQ := hnew
      clear hnew oq hz1
      refine lv_iinc (v := iI (((k + 1 : Nat) : Int))) (lv' := [(1, .int (iI (((k + 1 : Nat) : Int)))), (0, .ref (a))]) hx hb dX6_init_45 hl (k := 1) rfl (by show iI _ + iI _ = _; exact (iI_add _ _).trans (by first | rfl | (congr 1; omega))) (by decide) rfl (fun ls hl => ?_)
      refine lv_goto (tgt := 23) hx hb dX6_init_48 (by decide) ?_
      refine pw_cs (cells' := 2 + 2 * (k + 1)) (slots' := 30 + (k + 1) * 10) (by omega) (by omega) ?_
      exact ih (k + 1) _ _ _ _ (by omega) (uq_ext hf rfl) hO hI hQ (hAT.up ⟨hW, hW2⟩) (by omega) hS (lv_sub hl [1, 0] rfl)
  refine lv_aload_n hx hb dX6_init_0 rfl (lv_at hl 0 rfl) ?_
  refine pw_objI hx hb hml hown ko_1 ko_2 ko_3 hl.1 dX6_init_1 ⟨Nat.le_of_ble_eq_true rfl, Nat.le_of_ble_eq_true rfl⟩ ?_
  refine lv_aload_n hx hb dX6_init_4 rfl (lv_at hl 0 rfl) ?_
  refine pw_bipush hx hb dX6_init_5 ?_
  refine pw_newi hx hb ka_int hK hS (6) rfl (by omega) (by show _ ≤ 50; omega) (by show _ ≤ 270; omega) dX6_init_7 (fun H1 hnew hz1 oq hS => ?_)
  have hO := hO.k (oq _ hO.lt)
  have hsz1 : H1.size = a + 2 := by omega
  rw [hsz] at hnew ⊢
  clear hz1 oq hsz
  have hsz := hsz1
  clear hsz1
  have hI := hnew
  clear hnew
  refine pw_putF (C := RX6) (T := TX6) (N := 5) hx hb hts hin6 tyX6 tyX6_ok nmX6 hown hK hO hS (by (try dsimp only); omega) rfl 0 (by decide) lk_9 rfl rfl hini rfl rfl rfl (by show _ < 5; decide) dX6_init_9 (fun H1 locs1 hnew hz1 oq hS => ?_)
  have hsz := hz1.trans hsz
  have hI := hI.k (oq _ (by omega))
  have hO : OA D (a) 6 [.ref (a + 1), .null, .int (iI (0)), .int (iI (0)), .int (iI (0))] H1 := hnew
  clear hnew oq hz1
  refine lv_aload_n hx hb dX6_init_12 rfl (lv_at hl 0 rfl) ?_
  refine pw_bipush hx hb dX6_init_13 ?_
  refine pw_newq (C := RX0) hx hb hown kl_15 hAO.1 hK hS 3 rfl (24) rfl (by omega) (by show _ ≤ 50; omega) (by show _ ≤ 270; omega) dX6_init_15 (fun H1 hnew hz1 oq hS => ?_)
  have hO := hO.k (oq _ hO.lt)
  have hI := hI.k (oq _ hI.lt)
  have hsz1 : H1.size = a + 3 := by omega
  rw [hsz] at hnew ⊢
  clear hz1 oq hsz
  have hsz := hsz1
  clear hsz1
  have hQ := hnew
  clear hnew
  refine pw_putF (C := RX6) (T := TX6) (N := 5) hx hb hts hin6 tyX6 tyX6_ok nmX6 hown hK hO hS (by (try dsimp only); omega) rfl 1 (by decide) lk_17 rfl rfl hini rfl rfl rfl (by show _ < 5; decide) dX6_init_18 (fun H1 locs1 hnew hz1 oq hS => ?_)
  have hsz := hz1.trans hsz
  have hI := hI.k (oq _ (by omega))
  have hQ := hQ.k (oq _ (by omega))
  have hO : OA D (a) 6 [.ref (a + 1), .ref (a + 2), .int (iI (0)), .int (iI (0)), .int (iI (0))] H1 := hnew
  clear hnew oq hz1
  refine pw_iconst hx hb dX6_init_21 ?_
  refine pw_asi (((0 : Nat) : Int)) rfl ?_
  refine lv_istore_n (lv' := [(1, .int (iI (((0 : Nat) : Int)))), (0, .ref (a))]) hx hb dX6_init_22 rfl hl (by decide) rfl (fun ls hl => ?_)
  refine pw_cs (cells' := 2 + 2 * 0) (slots' := 30 + 0 * 10) (by omega) (by omega) ?_
  exact loop 24 0 _ _ _ _ (by omega) (fun j hj => by omega) hO hI hQ (fun j hj => by omega) (by omega) hS (lv_sub hl [1, 0] rfl)
