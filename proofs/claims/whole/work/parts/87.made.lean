/-! constructors: PolicyWorks, PolicyWorksModel -/
theorem bn_zero {E : Nat → ClassId} {r0 : Nat} {H : Heap} (h1 : IA E (r0 + 8) 5120 (fun _ => 0) H) (h2 : IA E (r0 + 9) 80 (fun _ => 0) H) (h3 : IA E (r0 + 10) 80 (fun _ => 0) H) : BN E r0 (fun _ => 0) H := ⟨_, _, _, ⟨h1, h2, h3⟩, fun c hc => ⟨0, ⟨by omega, by decide, fun h => absurd h (by omega)⟩, rfl, fun k hk => absurd hk (by omega), rfl⟩⟩
set_option maxHeartbeats 4000000 in
set_option maxRecDepth 100000 in
/-- PolicyWorks() -/
theorem c_PolicyI (l : Launch) (D : va_G) (E : Nat → ClassId) (a : Nat) : pw_N rvV l D E yX9_init wsX9_init ({ frames := 4, cells := 582, slots := 4463, locals := 84 } : Room) [.ref (a)] (fun H => OA D (a) 9 [.null, .null, .null, .null, .null, .null, .null, .null, .null, .null, .null, .null, .null, .int (iI (0))] H ∧ H.size = a + 1) (fun _ H => PO D E a σ0 0 H ∧ H.size = a + 583) (fun q => a ≤ q) (582) (4463) := by
  refine pw_Nof (cc := cX9_init) (maxL := 2) (ret := none) (by decide +kernel) rfl (Nat.le_of_ble_eq_true rfl) ?_
  intro p e s m args below meth c hx hb hr hml hts hown hlocks hini hK hAO ⟨hO, hsz⟩ ls hl
  have hown : s.vm.findClass RX9 = some m.cls := hown
  have hl : lv_has ls 2 [(0, .ref (a))] := hl
  have hS : va_S (fun q => a ≤ q) s.heap s.heap [] := va_S.rf
  have lk_10 := hts (.fieldLink RX9 10 "PolicyWorks" "model" "LPolicyWorks$Model;") (by decide +kernel)
  have lk_19 := hts (.fieldLink RX9 19 "PolicyWorks" "equations" "LPolicyWorks$Equations;") (by decide +kernel)
  have lk_26 := hts (.fieldLink RX9 26 "PolicyWorks" "chooser" "LPolicyWorks$Chooser;") (by decide +kernel)
  have lk_33 := hts (.fieldLink RX9 33 "PolicyWorks" "ladder" "LPolicyWorks$Ladder;") (by decide +kernel)
  have lk_42 := hts (.fieldLink RX9 42 "PolicyWorks" "bestValues" "LPolicyWorks$Row;") (by decide +kernel)
  have lk_46 := hts (.fieldLink RX9 46 "PolicyWorks" "bestPolicy" "[I") (by decide +kernel)
  have lk_50 := hts (.fieldLink RX9 50 "PolicyWorks" "worths" "[LPolicyWorks$Row;") (by decide +kernel)
  have lk_54 := hts (.fieldLink RX9 54 "PolicyWorks" "worthKnown" "[Z") (by decide +kernel)
  have lk_58 := hts (.fieldLink RX9 58 "PolicyWorks" "trial" "[I") (by decide +kernel)
  have lk_64 := hts (.fieldLink RX9 64 "PolicyWorks" "told" "LPolicyWorks$Fraction;") (by decide +kernel)
  have lk_71 := hts (.fieldLink RX9 71 "PolicyWorks" "left" "LPolicyWorks$Whole;") (by decide +kernel)
  have lk_75 := hts (.fieldLink RX9 75 "PolicyWorks" "right" "LPolicyWorks$Whole;") (by decide +kernel)
  have lk_78 := hts (.fieldLink RX9 78 "PolicyWorks" "factor" "LPolicyWorks$Whole;") (by decide +kernel)
  have lk_81 := hts (.fieldLink RX9 81 "PolicyWorks" "rounds" "I") (by decide +kernel)
  have hin9 : ∀ w ∈ wsX90, w ∈ wsX9_init := by decide +kernel
  have hin1 : ∀ w ∈ wsX10, w ∈ wsX9_init := by decide +kernel
  have hin2 : ∀ w ∈ wsX20, w ∈ wsX9_init := by decide +kernel
  have hin3 : ∀ w ∈ wsX30, w ∈ wsX9_init := by decide +kernel
  have hin5 : ∀ w ∈ wsX50, w ∈ wsX9_init := by decide +kernel
  have hin6 : ∀ w ∈ wsX60, w ∈ wsX9_init := by decide +kernel
  have hin7 : ∀ w ∈ wsX70, w ∈ wsX9_init := by decide +kernel
  have hin8 : ∀ w ∈ wsX80, w ∈ wsX9_init := by decide +kernel
  have ka_boolean := hts (.arrayClass .boolean) (by decide +kernel)
  have ka_int := hts (.arrayClass .int) (by decide +kernel)
  have ki_1 := hts (.instantiable RX1 3) (by decide +kernel)
  have ki_2 := hts (.instantiable RX2 2) (by decide +kernel)
  have ki_3 := hts (.instantiable RX3 5) (by decide +kernel)
  have ki_5 := hts (.instantiable RX5 3) (by decide +kernel)
  have ki_6 := hts (.instantiable RX6 5) (by decide +kernel)
  have ki_7 := hts (.instantiable RX7 2) (by decide +kernel)
  have ki_8 := hts (.instantiable RX8 3) (by decide +kernel)
  have kl_16 := hts (.classLink RX9 16 RX2) (by decide +kernel)
  have kl_23 := hts (.classLink RX9 23 RX1) (by decide +kernel)
  have kl_30 := hts (.classLink RX9 30 RX5) (by decide +kernel)
  have kl_37 := hts (.classLink RX9 37 RX7) (by decide +kernel)
  have kl_61 := hts (.classLink RX9 61 RX3) (by decide +kernel)
  have kl_68 := hts (.classLink RX9 68 RX8) (by decide +kernel)
  have kl_7 := hts (.classLink RX9 7 RX6) (by decide +kernel)
  have km_18 := hts (.methodLink RX9 18 yX2_init) (by decide +kernel)
  have km_25 := hts (.methodLink RX9 25 yX1_init) (by decide +kernel)
  have km_32 := hts (.methodLink RX9 32 yX5_init) (by decide +kernel)
  have km_39 := hts (.methodLink RX9 39 yX7_init) (by decide +kernel)
  have km_63 := hts (.methodLink RX9 63 yX3_init) (by decide +kernel)
  have km_70 := hts (.methodLink RX9 70 yX8_init) (by decide +kernel)
  have km_9 := hts (.methodLink RX9 9 yX6_init) (by decide +kernel)
  have kn_1 := hts (.instanceMethod yX1_init) (by decide +kernel)
  have kn_2 := hts (.instanceMethod yX2_init) (by decide +kernel)
  have kn_3 := hts (.instanceMethod yX3_init) (by decide +kernel)
  have kn_5 := hts (.instanceMethod yX5_init) (by decide +kernel)
  have kn_6 := hts (.instanceMethod yX6_init) (by decide +kernel)
  have kn_7 := hts (.instanceMethod yX7_init) (by decide +kernel)
  have kn_8 := hts (.instanceMethod yX8_init) (by decide +kernel)
  have ko_1 := hts (.methodLink RX9 1 objectInit) (by decide +kernel)
  have ko_2 := hts (.instanceMethod objectInit) (by decide +kernel)
  have ko_3 := hts (.code objectInit ⟨#[0xb1]⟩ 1 none) (by decide +kernel)
  have kz_1 := hts (.initialized RX1) (by decide +kernel)
  have kz_2 := hts (.initialized RX2) (by decide +kernel)
  have kz_3 := hts (.initialized RX3) (by decide +kernel)
  have kz_5 := hts (.initialized RX5) (by decide +kernel)
  have kz_6 := hts (.initialized RX6) (by decide +kernel)
  have kz_7 := hts (.initialized RX7) (by decide +kernel)
  have kz_8 := hts (.initialized RX8) (by decide +kernel)
  have loop : ∀ (kk k : Nat) (f : Nat → Option Nat) (H : Heap) (locs : List Loc) (ls : Array Slot), k + kk = 4 → (∀ j, j < k → f j = some (a + 500 + 16 * j)) → OA D a 9 [.ref (a + 1), .ref (a + 52), .ref (a + 317), .ref (a + 326), .ref (a + 482), .ref (a + 498), .ref (a + 499), .null, .null, .null, .null, .null, .null, .int (iI (0))] H → MO D E (a + 1) σ0 H → EQ D E (a + 52) (fun _ _ => 0) (fun _ => 0) H → CH D E (a + 317) (a + 317 + 1) (a + 317 + 4) 0 1 0 1 H → LD D E (a + 326) 0 (fun _ _ => 0) (fun _ => 0) (fun _ _ => 0) H → RW D E (a + 482) 8 (fun _ => 0) 0 H → IA E (a + 498) 6 (fun _ => 0) H → QA E 4 (a + 499) 4 f H → RWS D E (a + 500) 8 k H → H.size = a + 500 + 16 * k → va_S (fun q => a ≤ q) s.heap H locs → lv_has ls 2 [(0, .ref (a)), (1, .int (iI ((k : Int))))] → W p l e ({ frames := 4, cells := 582, slots := 4463, locals := 84 } : Room) s m args below meth c H locs (499 + 16 * k) (3892 + k * 85) (MQ below (pw_Q rvV (fun _ H => PO D E a σ0 0 H ∧ H.size = a + 583) (fun q => a ≤ q)) args s (582) (4463) (fun q => a ≤ q)) (F0 m 79 ls []) := by
    intro kk
    induction kk with
    | zero =>
      intro k f H locs ls hk hf hO hMd hEq hCh hLd hRw hBp hQ hRS hsz hS hl
      have ek : k = 4 := by omega
      subst ek
      refine lv_iload_n hx hb dX9_init_79 rfl (lv_at hl 1 rfl) ?_
      refine pw_iconst hx hb dX9_init_80 ?_
      refine pw_icmp_ge (tgt := 105) hx hb dX9_init_81 (by decide) (fun c_81 => ?_) (fun c_81 => absurd c_81 (by omega))
      refine lv_aload_n hx hb dX9_init_105 rfl (lv_at hl 0 rfl) ?_
      refine pw_iconst hx hb dX9_init_106 ?_
      refine pw_asi (((4 : Nat) : Int)) rfl ?_
      refine pw_newz hx hb ka_boolean hK hS (4) rfl (by omega) (by show _ ≤ 582; omega) (by show _ ≤ 4463; omega) dX9_init_107 (fun H1 hnew hz1 oq hS => ?_)
      have hO := hO.k (oq _ hO.lt)
      have hMd := hMd.k (fun q h1 h2 h3 => (oq _ h3))
      have hEq := hEq.k (fun q h1 h2 h3 => (oq _ h3))
      have hCh := hCh.k (fun q h1 h2 h3 => (oq _ h3))
      have hLd := hLd.k (fun q h1 h2 h3 => (oq _ h3))
      have hRw := hRw.k (fun q h1 h2 h3 => (oq _ h3))
      have hBp := hBp.k (oq _ hBp.lt)
      have hQ := hQ.k (oq _ hQ.lt)
      have hRS := hRS.k (fun q h1 h2 h3 => (oq _ h3))
      have hsz1 : H1.size = a + 565 := by omega
      rw [hsz] at hnew ⊢
      clear hz1 oq hsz
      have hsz := hsz1
      clear hsz1
      have hZ := hnew
      clear hnew
      refine pw_putF (C := RX9) (T := TX9) (N := 14) hx hb hts hin9 tyX9 tyX9_ok nmX9 hown hK hO hS (by (try dsimp only); omega) rfl 7 (by decide) lk_54 rfl rfl hini rfl rfl rfl (by show _ < 14; decide) dX9_init_109 (fun H1 locs1 hnew hz1 oq hS => ?_)
      have hMd := hMd.k (fun q h1 h2 h3 => (oq _ (by omega)))
      have hEq := hEq.k (fun q h1 h2 h3 => (oq _ (by omega)))
      have hCh := hCh.k (fun q h1 h2 h3 => (oq _ (by omega)))
      have hLd := hLd.k (fun q h1 h2 h3 => (oq _ (by omega)))
      have hRw := hRw.k (fun q h1 h2 h3 => (oq _ (by omega)))
      have hBp := hBp.k (oq _ (by omega))
      have hQ := hQ.k (oq _ (by omega))
      have hRS := hRS.k (fun q h1 h2 h3 => (oq _ (by omega)))
      have hsz := hz1.trans hsz
      have hZ := hZ.k (oq _ (by omega))
      have hO : OA D (a) 9 [.ref (a + 1), .ref (a + 52), .ref (a + 317), .ref (a + 326), .ref (a + 482), .ref (a + 498), .ref (a + 499), .ref (a + 564), .null, .null, .null, .null, .null, .int (iI (0))] H1 := hnew
      clear hnew oq hz1
      refine lv_aload_n hx hb dX9_init_112 rfl (lv_at hl 0 rfl) ?_
      refine pw_bipush hx hb dX9_init_113 ?_
      refine pw_newi hx hb ka_int hK hS (6) rfl (by omega) (by show _ ≤ 582; omega) (by show _ ≤ 4463; omega) dX9_init_115 (fun H1 hnew hz1 oq hS => ?_)
      have hO := hO.k (oq _ hO.lt)
      have hMd := hMd.k (fun q h1 h2 h3 => (oq _ h3))
      have hEq := hEq.k (fun q h1 h2 h3 => (oq _ h3))
      have hCh := hCh.k (fun q h1 h2 h3 => (oq _ h3))
      have hLd := hLd.k (fun q h1 h2 h3 => (oq _ h3))
      have hRw := hRw.k (fun q h1 h2 h3 => (oq _ h3))
      have hBp := hBp.k (oq _ hBp.lt)
      have hQ := hQ.k (oq _ hQ.lt)
      have hRS := hRS.k (fun q h1 h2 h3 => (oq _ h3))
      have hZ := hZ.k (oq _ hZ.lt)
      have hsz1 : H1.size = a + 566 := by omega
      rw [hsz] at hnew ⊢
      clear hz1 oq hsz
      have hsz := hsz1
      clear hsz1
      have hT := hnew
      clear hnew
      refine pw_putF (C := RX9) (T := TX9) (N := 14) hx hb hts hin9 tyX9 tyX9_ok nmX9 hown hK hO hS (by (try dsimp only); omega) rfl 8 (by decide) lk_58 rfl rfl hini rfl rfl rfl (by show _ < 14; decide) dX9_init_117 (fun H1 locs1 hnew hz1 oq hS => ?_)
      have hMd := hMd.k (fun q h1 h2 h3 => (oq _ (by omega)))
      have hEq := hEq.k (fun q h1 h2 h3 => (oq _ (by omega)))
      have hCh := hCh.k (fun q h1 h2 h3 => (oq _ (by omega)))
      have hLd := hLd.k (fun q h1 h2 h3 => (oq _ (by omega)))
      have hRw := hRw.k (fun q h1 h2 h3 => (oq _ (by omega)))
      have hBp := hBp.k (oq _ (by omega))
      have hQ := hQ.k (oq _ (by omega))
      have hRS := hRS.k (fun q h1 h2 h3 => (oq _ (by omega)))
      have hsz := hz1.trans hsz
      have hZ := hZ.k (oq _ (by omega))
      have hT := hT.k (oq _ (by omega))
      have hO : OA D (a) 9 [.ref (a + 1), .ref (a + 52), .ref (a + 317), .ref (a + 326), .ref (a + 482), .ref (a + 498), .ref (a + 499), .ref (a + 564), .ref (a + 565), .null, .null, .null, .null, .int (iI (0))] H1 := hnew
      clear hnew oq hz1
      refine lv_aload_n hx hb dX9_init_120 rfl (lv_at hl 0 rfl) ?_
      refine pw_new (C := RX3) (T := TX3) (N := 5) (ci := 3) hx hb hts hin3 tyX3 tyX3_ok hown kl_61 ki_3 kz_3 hK hS rfl [.null, .null, .null, .null, .null] (fun j hj => by match j, hj with | 0, _ => rfl | 1, _ => rfl | 2, _ => rfl | 3, _ => rfl | 4, _ => rfl) (by show _ ≤ 582; omega) (by show _ ≤ 4463; omega) dX9_init_121 (fun H1 hnew hz1 oq hS => ?_)
      have hO := hO.k (oq _ hO.lt)
      have hMd := hMd.k (fun q h1 h2 h3 => (oq _ h3))
      have hEq := hEq.k (fun q h1 h2 h3 => (oq _ h3))
      have hCh := hCh.k (fun q h1 h2 h3 => (oq _ h3))
      have hLd := hLd.k (fun q h1 h2 h3 => (oq _ h3))
      have hRw := hRw.k (fun q h1 h2 h3 => (oq _ h3))
      have hBp := hBp.k (oq _ hBp.lt)
      have hQ := hQ.k (oq _ hQ.lt)
      have hRS := hRS.k (fun q h1 h2 h3 => (oq _ h3))
      have hZ := hZ.k (oq _ hZ.lt)
      have hT := hT.k (oq _ hT.lt)
      have hsz1 : H1.size = a + 567 := by omega
      rw [hsz] at hnew ⊢
      clear hz1 oq hsz
      have hsz := hsz1
      clear hsz1
      have hFr := hnew
      clear hnew
      refine lv_dup hx hb dX9_init_124 rfl ?_
      refine pw_callI (As := []) (rest := [.ref (a + 566), .ref (a)]) ⟨hx, hb, hml, hown, hts⟩ (c_FractionI l D E (a + 566)) (cwI 0 hts gX9_init_X3_init rfl rfl rfl kz_3 km_63 kn_3 rfl (by decide +kernel) ⟨Nat.le_of_ble_eq_true rfl, Nat.le_of_ble_eq_true rfl⟩) hK (⟨hFr, hsz⟩) rfl hl.1 rfl (Nat.le_of_ble_eq_true rfl) dX9_init_125 ⟨by show _ ≤ 582; omega, by show _ ≤ 4463; omega⟩ hS (fun q h => by (try dsimp only at h); (try dsimp only); omega) (fun H1 locs1 ⟨hFr, hsz⟩ hz1 hk1 hS => ?_)
      have hO := hO.k (hk1 _ hO.lt (by (try dsimp only); omega))
      have hMd := hMd.k (fun q h1 h2 h3 => (hk1 _ h3 (by (try dsimp only); omega)))
      have hEq := hEq.k (fun q h1 h2 h3 => (hk1 _ h3 (by (try dsimp only); omega)))
      have hCh := hCh.k (fun q h1 h2 h3 => (hk1 _ h3 (by (try dsimp only); omega)))
      have hLd := hLd.k (fun q h1 h2 h3 => (hk1 _ h3 (by (try dsimp only); omega)))
      have hRw := hRw.k (fun q h1 h2 h3 => (hk1 _ h3 (by (try dsimp only); omega)))
      have hBp := hBp.k (hk1 _ hBp.lt (by (try dsimp only); omega))
      have hQ := hQ.k (hk1 _ hQ.lt (by (try dsimp only); omega))
      have hRS := hRS.k (fun q h1 h2 h3 => (hk1 _ h3 (by (try dsimp only); omega)))
      have hZ := hZ.k (hk1 _ hZ.lt (by (try dsimp only); omega))
      have hT := hT.k (hk1 _ hT.lt (by (try dsimp only); omega))
      clear hz1 hk1
      refine pw_putF (C := RX9) (T := TX9) (N := 14) hx hb hts hin9 tyX9 tyX9_ok nmX9 hown hK hO hS (by (try dsimp only); omega) rfl 9 (by decide) lk_64 rfl rfl hini rfl rfl rfl (by show _ < 14; decide) dX9_init_128 (fun H1 locs1 hnew hz1 oq hS => ?_)
      have hMd := hMd.k (fun q h1 h2 h3 => (oq _ (by omega)))
      have hEq := hEq.k (fun q h1 h2 h3 => (oq _ (by omega)))
      have hCh := hCh.k (fun q h1 h2 h3 => (oq _ (by omega)))
      have hLd := hLd.k (fun q h1 h2 h3 => (oq _ (by omega)))
      have hRw := hRw.k (fun q h1 h2 h3 => (oq _ (by omega)))
      have hBp := hBp.k (oq _ (by omega))
      have hQ := hQ.k (oq _ (by omega))
      have hRS := hRS.k (fun q h1 h2 h3 => (oq _ (by omega)))
      have hsz := hz1.trans hsz
      have hZ := hZ.k (oq _ (by omega))
      have hT := hT.k (oq _ (by omega))
      have hFr := hFr.k (fun q h1 h2 h3 => (oq _ (by omega)))
      have hO : OA D (a) 9 [.ref (a + 1), .ref (a + 52), .ref (a + 317), .ref (a + 326), .ref (a + 482), .ref (a + 498), .ref (a + 499), .ref (a + 564), .ref (a + 565), .ref (a + 566), .null, .null, .null, .int (iI (0))] H1 := hnew
      clear hnew oq hz1
      refine lv_aload_n hx hb dX9_init_131 rfl (lv_at hl 0 rfl) ?_
      refine pw_new (C := RX8) (T := TX8) (N := 3) (ci := 8) hx hb hts hin8 tyX8 tyX8_ok hown kl_68 ki_8 kz_8 hK hS rfl [.null, .int (iI (0)), .int (iI (0))] (fun j hj => by match j, hj with | 0, _ => rfl | 1, _ => rfl | 2, _ => rfl) (by show _ ≤ 582; omega) (by show _ ≤ 4463; omega) dX9_init_132 (fun H1 hnew hz1 oq hS => ?_)
      have hO := hO.k (oq _ hO.lt)
      have hMd := hMd.k (fun q h1 h2 h3 => (oq _ h3))
      have hEq := hEq.k (fun q h1 h2 h3 => (oq _ h3))
      have hCh := hCh.k (fun q h1 h2 h3 => (oq _ h3))
      have hLd := hLd.k (fun q h1 h2 h3 => (oq _ h3))
      have hRw := hRw.k (fun q h1 h2 h3 => (oq _ h3))
      have hBp := hBp.k (oq _ hBp.lt)
      have hQ := hQ.k (oq _ hQ.lt)
      have hRS := hRS.k (fun q h1 h2 h3 => (oq _ h3))
      have hZ := hZ.k (oq _ hZ.lt)
      have hT := hT.k (oq _ hT.lt)
      have hFr := hFr.k (fun q h1 h2 h3 => (oq _ h3))
      have hsz1 : H1.size = a + 578 := by omega
      rw [hsz] at hnew ⊢
      clear hz1 oq hsz
      have hsz := hsz1
      clear hsz1
      have hX0 := hnew
      clear hnew
      refine lv_dup hx hb dX9_init_135 rfl ?_
      refine pw_bipush hx hb dX9_init_136 ?_
      refine pw_asi (((24 : Nat) : Int)) rfl ?_
      refine pw_callI (As := [.int (iI (((24 : Nat) : Int)))]) (rest := [.ref (a + 577), .ref (a)]) ⟨hx, hb, hml, hown, hts⟩ (c_WholeI l D E (a + 577) (24) (by omega)) (cwI 1 hts gX9_init_X8_init rfl rfl rfl kz_8 km_70 kn_8 rfl (by decide +kernel) ⟨Nat.le_of_ble_eq_true rfl, Nat.le_of_ble_eq_true rfl⟩) hK (⟨hX0, hsz⟩) rfl hl.1 rfl (Nat.le_of_ble_eq_true rfl) dX9_init_138 ⟨by show _ ≤ 582; omega, by show _ ≤ 4463; omega⟩ hS (fun q h => by (try dsimp only at h); (try dsimp only); omega) (fun H1 locs1 ⟨hX0, hsz⟩ hz1 hk1 hS => ?_)
      have hO := hO.k (hk1 _ hO.lt (by (try dsimp only); omega))
      have hMd := hMd.k (fun q h1 h2 h3 => (hk1 _ h3 (by (try dsimp only); omega)))
      have hEq := hEq.k (fun q h1 h2 h3 => (hk1 _ h3 (by (try dsimp only); omega)))
      have hCh := hCh.k (fun q h1 h2 h3 => (hk1 _ h3 (by (try dsimp only); omega)))
      have hLd := hLd.k (fun q h1 h2 h3 => (hk1 _ h3 (by (try dsimp only); omega)))
      have hRw := hRw.k (fun q h1 h2 h3 => (hk1 _ h3 (by (try dsimp only); omega)))
      have hBp := hBp.k (hk1 _ hBp.lt (by (try dsimp only); omega))
      have hQ := hQ.k (hk1 _ hQ.lt (by (try dsimp only); omega))
      have hRS := hRS.k (fun q h1 h2 h3 => (hk1 _ h3 (by (try dsimp only); omega)))
      have hZ := hZ.k (hk1 _ hZ.lt (by (try dsimp only); omega))
      have hT := hT.k (hk1 _ hT.lt (by (try dsimp only); omega))
      have hFr := hFr.k (fun q h1 h2 h3 => (hk1 _ h3 (by (try dsimp only); omega)))
      clear hz1 hk1
      refine pw_putF (C := RX9) (T := TX9) (N := 14) hx hb hts hin9 tyX9 tyX9_ok nmX9 hown hK hO hS (by (try dsimp only); omega) rfl 10 (by decide) lk_71 rfl rfl hini rfl rfl rfl (by show _ < 14; decide) dX9_init_141 (fun H1 locs1 hnew hz1 oq hS => ?_)
      have hMd := hMd.k (fun q h1 h2 h3 => (oq _ (by omega)))
      have hEq := hEq.k (fun q h1 h2 h3 => (oq _ (by omega)))
      have hCh := hCh.k (fun q h1 h2 h3 => (oq _ (by omega)))
      have hLd := hLd.k (fun q h1 h2 h3 => (oq _ (by omega)))
      have hRw := hRw.k (fun q h1 h2 h3 => (oq _ (by omega)))
      have hBp := hBp.k (oq _ (by omega))
      have hQ := hQ.k (oq _ (by omega))
      have hRS := hRS.k (fun q h1 h2 h3 => (oq _ (by omega)))
      have hsz := hz1.trans hsz
      have hZ := hZ.k (oq _ (by omega))
      have hT := hT.k (oq _ (by omega))
      have hFr := hFr.k (fun q h1 h2 h3 => (oq _ (by omega)))
      have hX0 := hX0.k (oq _ (by omega)) (oq _ (by omega))
      have hO : OA D (a) 9 [.ref (a + 1), .ref (a + 52), .ref (a + 317), .ref (a + 326), .ref (a + 482), .ref (a + 498), .ref (a + 499), .ref (a + 564), .ref (a + 565), .ref (a + 566), .ref (a + 577), .null, .null, .int (iI (0))] H1 := hnew
      clear hnew oq hz1
      refine lv_aload_n hx hb dX9_init_144 rfl (lv_at hl 0 rfl) ?_
      refine pw_new (C := RX8) (T := TX8) (N := 3) (ci := 8) hx hb hts hin8 tyX8 tyX8_ok hown kl_68 ki_8 kz_8 hK hS rfl [.null, .int (iI (0)), .int (iI (0))] (fun j hj => by match j, hj with | 0, _ => rfl | 1, _ => rfl | 2, _ => rfl) (by show _ ≤ 582; omega) (by show _ ≤ 4463; omega) dX9_init_145 (fun H1 hnew hz1 oq hS => ?_)
      have hO := hO.k (oq _ hO.lt)
      have hMd := hMd.k (fun q h1 h2 h3 => (oq _ h3))
      have hEq := hEq.k (fun q h1 h2 h3 => (oq _ h3))
      have hCh := hCh.k (fun q h1 h2 h3 => (oq _ h3))
      have hLd := hLd.k (fun q h1 h2 h3 => (oq _ h3))
      have hRw := hRw.k (fun q h1 h2 h3 => (oq _ h3))
      have hBp := hBp.k (oq _ hBp.lt)
      have hQ := hQ.k (oq _ hQ.lt)
      have hRS := hRS.k (fun q h1 h2 h3 => (oq _ h3))
      have hZ := hZ.k (oq _ hZ.lt)
      have hT := hT.k (oq _ hT.lt)
      have hFr := hFr.k (fun q h1 h2 h3 => (oq _ h3))
      have hX0 := hX0.k (oq _ (by have := hX0.lt; omega)) (oq _ hX0.lt)
      have hsz1 : H1.size = a + 580 := by omega
      rw [hsz] at hnew ⊢
      clear hz1 oq hsz
      have hsz := hsz1
      clear hsz1
      have hX1 := hnew
      clear hnew
      refine lv_dup hx hb dX9_init_148 rfl ?_
      refine pw_bipush hx hb dX9_init_149 ?_
      refine pw_asi (((24 : Nat) : Int)) rfl ?_
      refine pw_callI (As := [.int (iI (((24 : Nat) : Int)))]) (rest := [.ref (a + 579), .ref (a)]) ⟨hx, hb, hml, hown, hts⟩ (c_WholeI l D E (a + 579) (24) (by omega)) (cwI 1 hts gX9_init_X8_init rfl rfl rfl kz_8 km_70 kn_8 rfl (by decide +kernel) ⟨Nat.le_of_ble_eq_true rfl, Nat.le_of_ble_eq_true rfl⟩) hK (⟨hX1, hsz⟩) rfl hl.1 rfl (Nat.le_of_ble_eq_true rfl) dX9_init_151 ⟨by show _ ≤ 582; omega, by show _ ≤ 4463; omega⟩ hS (fun q h => by (try dsimp only at h); (try dsimp only); omega) (fun H1 locs1 ⟨hX1, hsz⟩ hz1 hk1 hS => ?_)
      have hO := hO.k (hk1 _ hO.lt (by (try dsimp only); omega))
      have hMd := hMd.k (fun q h1 h2 h3 => (hk1 _ h3 (by (try dsimp only); omega)))
      have hEq := hEq.k (fun q h1 h2 h3 => (hk1 _ h3 (by (try dsimp only); omega)))
      have hCh := hCh.k (fun q h1 h2 h3 => (hk1 _ h3 (by (try dsimp only); omega)))
      have hLd := hLd.k (fun q h1 h2 h3 => (hk1 _ h3 (by (try dsimp only); omega)))
      have hRw := hRw.k (fun q h1 h2 h3 => (hk1 _ h3 (by (try dsimp only); omega)))
      have hBp := hBp.k (hk1 _ hBp.lt (by (try dsimp only); omega))
      have hQ := hQ.k (hk1 _ hQ.lt (by (try dsimp only); omega))
      have hRS := hRS.k (fun q h1 h2 h3 => (hk1 _ h3 (by (try dsimp only); omega)))
      have hZ := hZ.k (hk1 _ hZ.lt (by (try dsimp only); omega))
      have hT := hT.k (hk1 _ hT.lt (by (try dsimp only); omega))
      have hFr := hFr.k (fun q h1 h2 h3 => (hk1 _ h3 (by (try dsimp only); omega)))
      have hX0 := hX0.k (hk1 _ (by have := hX0.lt; omega) (by (try dsimp only); omega)) (hk1 _ hX0.lt (by (try dsimp only); omega))
      clear hz1 hk1
      refine pw_putF (C := RX9) (T := TX9) (N := 14) hx hb hts hin9 tyX9 tyX9_ok nmX9 hown hK hO hS (by (try dsimp only); omega) rfl 11 (by decide) lk_75 rfl rfl hini rfl rfl rfl (by show _ < 14; decide) dX9_init_154 (fun H1 locs1 hnew hz1 oq hS => ?_)
      have hMd := hMd.k (fun q h1 h2 h3 => (oq _ (by omega)))
      have hEq := hEq.k (fun q h1 h2 h3 => (oq _ (by omega)))
      have hCh := hCh.k (fun q h1 h2 h3 => (oq _ (by omega)))
      have hLd := hLd.k (fun q h1 h2 h3 => (oq _ (by omega)))
      have hRw := hRw.k (fun q h1 h2 h3 => (oq _ (by omega)))
      have hBp := hBp.k (oq _ (by omega))
      have hQ := hQ.k (oq _ (by omega))
      have hRS := hRS.k (fun q h1 h2 h3 => (oq _ (by omega)))
      have hsz := hz1.trans hsz
      have hZ := hZ.k (oq _ (by omega))
      have hT := hT.k (oq _ (by omega))
      have hFr := hFr.k (fun q h1 h2 h3 => (oq _ (by omega)))
      have hX0 := hX0.k (oq _ (by omega)) (oq _ (by omega))
      have hX1 := hX1.k (oq _ (by omega)) (oq _ (by omega))
      have hO : OA D (a) 9 [.ref (a + 1), .ref (a + 52), .ref (a + 317), .ref (a + 326), .ref (a + 482), .ref (a + 498), .ref (a + 499), .ref (a + 564), .ref (a + 565), .ref (a + 566), .ref (a + 577), .ref (a + 579), .null, .int (iI (0))] H1 := hnew
      clear hnew oq hz1
      refine lv_aload_n hx hb dX9_init_157 rfl (lv_at hl 0 rfl) ?_
      refine pw_new (C := RX8) (T := TX8) (N := 3) (ci := 8) hx hb hts hin8 tyX8 tyX8_ok hown kl_68 ki_8 kz_8 hK hS rfl [.null, .int (iI (0)), .int (iI (0))] (fun j hj => by match j, hj with | 0, _ => rfl | 1, _ => rfl | 2, _ => rfl) (by show _ ≤ 582; omega) (by show _ ≤ 4463; omega) dX9_init_158 (fun H1 hnew hz1 oq hS => ?_)
      have hO := hO.k (oq _ hO.lt)
      have hMd := hMd.k (fun q h1 h2 h3 => (oq _ h3))
      have hEq := hEq.k (fun q h1 h2 h3 => (oq _ h3))
      have hCh := hCh.k (fun q h1 h2 h3 => (oq _ h3))
      have hLd := hLd.k (fun q h1 h2 h3 => (oq _ h3))
      have hRw := hRw.k (fun q h1 h2 h3 => (oq _ h3))
      have hBp := hBp.k (oq _ hBp.lt)
      have hQ := hQ.k (oq _ hQ.lt)
      have hRS := hRS.k (fun q h1 h2 h3 => (oq _ h3))
      have hZ := hZ.k (oq _ hZ.lt)
      have hT := hT.k (oq _ hT.lt)
      have hFr := hFr.k (fun q h1 h2 h3 => (oq _ h3))
      have hX0 := hX0.k (oq _ (by have := hX0.lt; omega)) (oq _ hX0.lt)
      have hX1 := hX1.k (oq _ (by have := hX1.lt; omega)) (oq _ hX1.lt)
      have hsz1 : H1.size = a + 582 := by omega
      rw [hsz] at hnew ⊢
      clear hz1 oq hsz
      have hsz := hsz1
      clear hsz1
      have hX2 := hnew
      clear hnew
      refine lv_dup hx hb dX9_init_161 rfl ?_
      refine pw_bipush hx hb dX9_init_162 ?_
      refine pw_asi (((24 : Nat) : Int)) rfl ?_
      refine pw_callI (As := [.int (iI (((24 : Nat) : Int)))]) (rest := [.ref (a + 581), .ref (a)]) ⟨hx, hb, hml, hown, hts⟩ (c_WholeI l D E (a + 581) (24) (by omega)) (cwI 1 hts gX9_init_X8_init rfl rfl rfl kz_8 km_70 kn_8 rfl (by decide +kernel) ⟨Nat.le_of_ble_eq_true rfl, Nat.le_of_ble_eq_true rfl⟩) hK (⟨hX2, hsz⟩) rfl hl.1 rfl (Nat.le_of_ble_eq_true rfl) dX9_init_164 ⟨by show _ ≤ 582; omega, by show _ ≤ 4463; omega⟩ hS (fun q h => by (try dsimp only at h); (try dsimp only); omega) (fun H1 locs1 ⟨hX2, hsz⟩ hz1 hk1 hS => ?_)
      have hO := hO.k (hk1 _ hO.lt (by (try dsimp only); omega))
      have hMd := hMd.k (fun q h1 h2 h3 => (hk1 _ h3 (by (try dsimp only); omega)))
      have hEq := hEq.k (fun q h1 h2 h3 => (hk1 _ h3 (by (try dsimp only); omega)))
      have hCh := hCh.k (fun q h1 h2 h3 => (hk1 _ h3 (by (try dsimp only); omega)))
      have hLd := hLd.k (fun q h1 h2 h3 => (hk1 _ h3 (by (try dsimp only); omega)))
      have hRw := hRw.k (fun q h1 h2 h3 => (hk1 _ h3 (by (try dsimp only); omega)))
      have hBp := hBp.k (hk1 _ hBp.lt (by (try dsimp only); omega))
      have hQ := hQ.k (hk1 _ hQ.lt (by (try dsimp only); omega))
      have hRS := hRS.k (fun q h1 h2 h3 => (hk1 _ h3 (by (try dsimp only); omega)))
      have hZ := hZ.k (hk1 _ hZ.lt (by (try dsimp only); omega))
      have hT := hT.k (hk1 _ hT.lt (by (try dsimp only); omega))
      have hFr := hFr.k (fun q h1 h2 h3 => (hk1 _ h3 (by (try dsimp only); omega)))
      have hX0 := hX0.k (hk1 _ (by have := hX0.lt; omega) (by (try dsimp only); omega)) (hk1 _ hX0.lt (by (try dsimp only); omega))
      have hX1 := hX1.k (hk1 _ (by have := hX1.lt; omega) (by (try dsimp only); omega)) (hk1 _ hX1.lt (by (try dsimp only); omega))
      clear hz1 hk1
      refine pw_putF (C := RX9) (T := TX9) (N := 14) hx hb hts hin9 tyX9 tyX9_ok nmX9 hown hK hO hS (by (try dsimp only); omega) rfl 12 (by decide) lk_78 rfl rfl hini rfl rfl rfl (by show _ < 14; decide) dX9_init_167 (fun H1 locs1 hnew hz1 oq hS => ?_)
      have hMd := hMd.k (fun q h1 h2 h3 => (oq _ (by omega)))
      have hEq := hEq.k (fun q h1 h2 h3 => (oq _ (by omega)))
      have hCh := hCh.k (fun q h1 h2 h3 => (oq _ (by omega)))
      have hLd := hLd.k (fun q h1 h2 h3 => (oq _ (by omega)))
      have hRw := hRw.k (fun q h1 h2 h3 => (oq _ (by omega)))
      have hBp := hBp.k (oq _ (by omega))
      have hQ := hQ.k (oq _ (by omega))
      have hRS := hRS.k (fun q h1 h2 h3 => (oq _ (by omega)))
      have hsz := hz1.trans hsz
      have hZ := hZ.k (oq _ (by omega))
      have hT := hT.k (oq _ (by omega))
      have hFr := hFr.k (fun q h1 h2 h3 => (oq _ (by omega)))
      have hX0 := hX0.k (oq _ (by omega)) (oq _ (by omega))
      have hX1 := hX1.k (oq _ (by omega)) (oq _ (by omega))
      have hX2 := hX2.k (oq _ (by omega)) (oq _ (by omega))
      have hO : OA D (a) 9 [.ref (a + 1), .ref (a + 52), .ref (a + 317), .ref (a + 326), .ref (a + 482), .ref (a + 498), .ref (a + 499), .ref (a + 564), .ref (a + 565), .ref (a + 566), .ref (a + 577), .ref (a + 579), .ref (a + 581), .int (iI (0))] H1 := hnew
      clear hnew oq hz1
      refine lv_aload_n hx hb dX9_init_170 rfl (lv_at hl 0 rfl) ?_
      refine pw_iconst hx hb dX9_init_171 ?_
      refine pw_put (C := RX9) (T := TX9) (N := 14) hx hb hts hin9 tyX9 tyX9_ok nmX9 hown hK hO hS (by (try dsimp only); omega) rfl 13 (by decide) lk_81 rfl rfl rfl rfl (by show _ < 14; decide) dX9_init_172 (fun H1 locs1 hnew hz1 oq hS => ?_)
      have hMd := hMd.k (fun q h1 h2 h3 => (oq _ (by omega)))
      have hEq := hEq.k (fun q h1 h2 h3 => (oq _ (by omega)))
      have hCh := hCh.k (fun q h1 h2 h3 => (oq _ (by omega)))
      have hLd := hLd.k (fun q h1 h2 h3 => (oq _ (by omega)))
      have hRw := hRw.k (fun q h1 h2 h3 => (oq _ (by omega)))
      have hBp := hBp.k (oq _ (by omega))
      have hQ := hQ.k (oq _ (by omega))
      have hRS := hRS.k (fun q h1 h2 h3 => (oq _ (by omega)))
      have hsz := hz1.trans hsz
      have hZ := hZ.k (oq _ (by omega))
      have hT := hT.k (oq _ (by omega))
      have hFr := hFr.k (fun q h1 h2 h3 => (oq _ (by omega)))
      have hX0 := hX0.k (oq _ (by omega)) (oq _ (by omega))
      have hX1 := hX1.k (oq _ (by omega)) (oq _ (by omega))
      have hX2 := hX2.k (oq _ (by omega)) (oq _ (by omega))
      have hO : OA D (a) 9 [.ref (a + 1), .ref (a + 52), .ref (a + 317), .ref (a + 326), .ref (a + 482), .ref (a + 498), .ref (a + 499), .ref (a + 564), .ref (a + 565), .ref (a + 566), .ref (a + 577), .ref (a + 579), .ref (a + 581), .int (iI (0))] H1 := hnew
      clear hnew oq hz1
      refine pw_cs (cells' := 582) (slots' := 4463) (by omega) (by omega) ?_
      exact pw_vret hx hb hr hlocks hS ⟨⟨fun _ => 0, 0, fun _ => 0, fun _ _ => 0, fun _ => 0, fun _ => 0, 0, fun _ _ => 0, fun _ => 0, fun _ _ => 0, ⟨hO, hMd, ⟨_, _, hEq⟩, ⟨_, _, _, _, _, _, hCh⟩, hLd, hRw, hBp, hQ.up (fun j hj => hf j hj), fun k hk _ => hRS k hk, hZ, ⟨_, hT⟩, ⟨_, _, _, _, _, hFr⟩, ⟨_, hX0⟩, ⟨_, hX1⟩, ⟨_, hX2⟩⟩, INV0 σ0_ok⟩, hsz⟩ dX9_init_175
    | succ kk ih =>
      intro k f H locs ls hk hf hO hMd hEq hCh hLd hRw hBp hQ hRS hsz hS hl
      refine lv_iload_n hx hb dX9_init_79 rfl (lv_at hl 1 rfl) ?_
      refine pw_iconst hx hb dX9_init_80 ?_
      refine pw_icmp_ge (tgt := 105) hx hb dX9_init_81 (by decide) (fun c_81 => absurd c_81 (by omega)) (fun c_81 => ?_)
      refine lv_aload_n hx hb dX9_init_84 rfl (lv_at hl 0 rfl) ?_
      refine pw_get (C := RX9) (T := TX9) (N := 14) hx hb hts hin9 hown hK hO rfl 6 (by decide) lk_50 rfl rfl dX9_init_85 ?_
      refine lv_iload_n hx hb dX9_init_88 rfl (lv_at hl 1 rfl) ?_
      refine pw_new (C := RX7) (T := TX7) (N := 2) (ci := 7) hx hb hts hin7 tyX7 tyX7_ok hown kl_37 ki_7 kz_7 hK hS rfl [.null, .null] (fun j hj => by match j, hj with | 0, _ => rfl | 1, _ => rfl) (by show _ ≤ 582; omega) (by show _ ≤ 4463; omega) dX9_init_89 (fun H1 hnew hz1 oq hS => ?_)
      have hO := hO.k (oq _ hO.lt)
      have hMd := hMd.k (fun q h1 h2 h3 => (oq _ h3))
      have hEq := hEq.k (fun q h1 h2 h3 => (oq _ h3))
      have hCh := hCh.k (fun q h1 h2 h3 => (oq _ h3))
      have hLd := hLd.k (fun q h1 h2 h3 => (oq _ h3))
      have hRw := hRw.k (fun q h1 h2 h3 => (oq _ h3))
      have hBp := hBp.k (oq _ hBp.lt)
      have hQ := hQ.k (oq _ hQ.lt)
      have hRS := hRS.k (fun q h1 h2 h3 => (oq _ h3))
      have hsz1 : H1.size = a + 500 + 16 * k + 1 := by omega
      rw [hsz] at hnew ⊢
      clear hz1 oq hsz
      have hsz := hsz1
      clear hsz1
      have hW := hnew
      clear hnew
      refine lv_dup hx hb dX9_init_92 rfl ?_
      refine pw_bipush hx hb dX9_init_93 ?_
      refine pw_asi (((8 : Nat) : Int)) rfl ?_
      refine pw_callIN (As := [.int (iI (((8 : Nat) : Int)))]) (rest := [.ref (a + 500 + 16 * k), .int (iI ((k : Int))), .ref (a + 499)]) ⟨hx, hb, hml, hown, hts⟩ (c_RowI l D E (a + 500 + 16 * k) 8 (by omega)) (cwI 1 hts gX9_init_X7_init rfl rfl rfl kz_7 km_39 kn_7 rfl (by decide +kernel) ⟨Nat.le_of_ble_eq_true rfl, Nat.le_of_ble_eq_true rfl⟩) hK hAO (⟨hW, hsz⟩) rfl hl.1 rfl (Nat.le_of_ble_eq_true rfl) dX9_init_95 ⟨by show _ ≤ 582; omega, by show _ ≤ 4463; omega⟩ hS (fun q h => by (try dsimp only at h); (try dsimp only); omega) (fun H1 locs1 ⟨hW, hsz⟩ hz1 hk1 hS => ?_)
      have hO := hO.k (hk1 _ hO.lt (by (try dsimp only); omega))
      have hMd := hMd.k (fun q h1 h2 h3 => (hk1 _ h3 (by (try dsimp only); omega)))
      have hEq := hEq.k (fun q h1 h2 h3 => (hk1 _ h3 (by (try dsimp only); omega)))
      have hCh := hCh.k (fun q h1 h2 h3 => (hk1 _ h3 (by (try dsimp only); omega)))
      have hLd := hLd.k (fun q h1 h2 h3 => (hk1 _ h3 (by (try dsimp only); omega)))
      have hRw := hRw.k (fun q h1 h2 h3 => (hk1 _ h3 (by (try dsimp only); omega)))
      have hBp := hBp.k (hk1 _ hBp.lt (by (try dsimp only); omega))
      have hQ := hQ.k (hk1 _ hQ.lt (by (try dsimp only); omega))
      have hRS := hRS.k (fun q h1 h2 h3 => (hk1 _ h3 (by (try dsimp only); omega)))
      clear hz1 hk1
      refine pw_qast hx hb hK hQ rfl hS (by (try dsimp only); omega) (hW.1) rfl (k) rfl (by omega) (by omega) dX9_init_98 (fun H1 locs1 hnew hz1 oq hS => ?_)
      have hO := hO.k (oq _ (by omega))
      have hMd := hMd.k (fun q h1 h2 h3 => (oq _ (by omega)))
      have hEq := hEq.k (fun q h1 h2 h3 => (oq _ (by omega)))
      have hCh := hCh.k (fun q h1 h2 h3 => (oq _ (by omega)))
      have hLd := hLd.k (fun q h1 h2 h3 => (oq _ (by omega)))
      have hRw := hRw.k (fun q h1 h2 h3 => (oq _ (by omega)))
      have hBp := hBp.k (oq _ (by omega))
      have hRS := hRS.k (fun q h1 h2 h3 => (oq _ (by omega)))
      have hsz := hz1.trans hsz
      have hW := hW.k (fun q h1 h2 h3 => (oq _ (by omega)))
      have hQ := hnew
      clear hnew oq hz1
      refine lv_iinc (v := iI (((k + 1 : Nat) : Int))) (lv' := [(1, .int (iI (((k + 1 : Nat) : Int)))), (0, .ref (a))]) hx hb dX9_init_99 hl (k := 1) rfl (by show iI _ + iI _ = _; exact (iI_add _ _).trans (by first | rfl | (congr 1; omega))) (by decide) rfl (fun ls hl => ?_)
      refine lv_goto (tgt := 79) hx hb dX9_init_102 (by decide) ?_
      refine pw_cs (cells' := 499 + 16 * (k + 1)) (slots' := 3892 + (k + 1) * 85) (by omega) (by omega) ?_
      exact ih (k + 1) _ _ _ _ (by omega) (uq_ext hf rfl) hO hMd hEq hCh hLd hRw hBp hQ (hRS.up hW) (by omega) hS (lv_sub hl [1, 0] rfl)
  refine lv_aload_n hx hb dX9_init_0 rfl (lv_at hl 0 rfl) ?_
  refine pw_objI hx hb hml hown ko_1 ko_2 ko_3 hl.1 dX9_init_1 ⟨Nat.le_of_ble_eq_true rfl, Nat.le_of_ble_eq_true rfl⟩ ?_
  refine lv_aload_n hx hb dX9_init_4 rfl (lv_at hl 0 rfl) ?_
  refine pw_new (C := RX6) (T := TX6) (N := 5) (ci := 6) hx hb hts hin6 tyX6 tyX6_ok hown kl_7 ki_6 kz_6 hK hS rfl [.null, .null, .int (iI (0)), .int (iI (0)), .int (iI (0))] (fun j hj => by match j, hj with | 0, _ => rfl | 1, _ => rfl | 2, _ => rfl | 3, _ => rfl | 4, _ => rfl) (by show _ ≤ 582; omega) (by show _ ≤ 4463; omega) dX9_init_5 (fun H1 hnew hz1 oq hS => ?_)
  have hO := hO.k (oq _ hO.lt)
  have hsz1 : H1.size = a + 2 := by omega
  rw [hsz] at hnew ⊢
  clear hz1 oq hsz
  have hsz := hsz1
  clear hsz1
  have hMd := hnew
  clear hnew
  refine lv_dup hx hb dX9_init_8 rfl ?_
  refine pw_callIN (As := []) (rest := [.ref (a + 1), .ref (a)]) ⟨hx, hb, hml, hown, hts⟩ (c_ModelI l D E (a + 1)) (cwI 0 hts gX9_init_X6_init rfl rfl rfl kz_6 km_9 kn_6 rfl (by decide +kernel) ⟨Nat.le_of_ble_eq_true rfl, Nat.le_of_ble_eq_true rfl⟩) hK hAO (⟨hMd, hsz⟩) rfl hl.1 rfl (Nat.le_of_ble_eq_true rfl) dX9_init_9 ⟨by show _ ≤ 582; omega, by show _ ≤ 4463; omega⟩ hS (fun q h => by (try dsimp only at h); (try dsimp only); omega) (fun H1 locs1 ⟨hMd, hsz⟩ hz1 hk1 hS => ?_)
  have hO := hO.k (hk1 _ hO.lt (by (try dsimp only); omega))
  clear hz1 hk1
  refine pw_putF (C := RX9) (T := TX9) (N := 14) hx hb hts hin9 tyX9 tyX9_ok nmX9 hown hK hO hS (by (try dsimp only); omega) rfl 0 (by decide) lk_10 rfl rfl hini rfl rfl rfl (by show _ < 14; decide) dX9_init_12 (fun H1 locs1 hnew hz1 oq hS => ?_)
  have hsz := hz1.trans hsz
  have hMd := hMd.k (fun q h1 h2 h3 => (oq _ (by omega)))
  have hO : OA D (a) 9 [.ref (a + 1), .null, .null, .null, .null, .null, .null, .null, .null, .null, .null, .null, .null, .int (iI (0))] H1 := hnew
  clear hnew oq hz1
  refine lv_aload_n hx hb dX9_init_15 rfl (lv_at hl 0 rfl) ?_
  refine pw_new (C := RX2) (T := TX2) (N := 2) (ci := 2) hx hb hts hin2 tyX2 tyX2_ok hown kl_16 ki_2 kz_2 hK hS rfl [.null, .null] (fun j hj => by match j, hj with | 0, _ => rfl | 1, _ => rfl) (by show _ ≤ 582; omega) (by show _ ≤ 4463; omega) dX9_init_16 (fun H1 hnew hz1 oq hS => ?_)
  have hO := hO.k (oq _ hO.lt)
  have hMd := hMd.k (fun q h1 h2 h3 => (oq _ h3))
  have hsz1 : H1.size = a + 53 := by omega
  rw [hsz] at hnew ⊢
  clear hz1 oq hsz
  have hsz := hsz1
  clear hsz1
  have hEq := hnew
  clear hnew
  refine lv_dup hx hb dX9_init_19 rfl ?_
  refine pw_callIN (As := []) (rest := [.ref (a + 52), .ref (a)]) ⟨hx, hb, hml, hown, hts⟩ (c_EquationsI l D E (a + 52)) (cwI 0 hts gX9_init_X2_init rfl rfl rfl kz_2 km_18 kn_2 rfl (by decide +kernel) ⟨Nat.le_of_ble_eq_true rfl, Nat.le_of_ble_eq_true rfl⟩) hK hAO (⟨hEq, hsz⟩) rfl hl.1 rfl (Nat.le_of_ble_eq_true rfl) dX9_init_20 ⟨by show _ ≤ 582; omega, by show _ ≤ 4463; omega⟩ hS (fun q h => by (try dsimp only at h); (try dsimp only); omega) (fun H1 locs1 ⟨hEq, hsz⟩ hz1 hk1 hS => ?_)
  have hO := hO.k (hk1 _ hO.lt (by (try dsimp only); omega))
  have hMd := hMd.k (fun q h1 h2 h3 => (hk1 _ h3 (by (try dsimp only); omega)))
  clear hz1 hk1
  refine pw_putF (C := RX9) (T := TX9) (N := 14) hx hb hts hin9 tyX9 tyX9_ok nmX9 hown hK hO hS (by (try dsimp only); omega) rfl 1 (by decide) lk_19 rfl rfl hini rfl rfl rfl (by show _ < 14; decide) dX9_init_23 (fun H1 locs1 hnew hz1 oq hS => ?_)
  have hsz := hz1.trans hsz
  have hMd := hMd.k (fun q h1 h2 h3 => (oq _ (by omega)))
  have hEq := hEq.k (fun q h1 h2 h3 => (oq _ (by omega)))
  have hO : OA D (a) 9 [.ref (a + 1), .ref (a + 52), .null, .null, .null, .null, .null, .null, .null, .null, .null, .null, .null, .int (iI (0))] H1 := hnew
  clear hnew oq hz1
  refine lv_aload_n hx hb dX9_init_26 rfl (lv_at hl 0 rfl) ?_
  refine pw_new (C := RX1) (T := TX1) (N := 3) (ci := 1) hx hb hts hin1 tyX1 tyX1_ok hown kl_23 ki_1 kz_1 hK hS rfl [.null, .null, .null] (fun j hj => by match j, hj with | 0, _ => rfl | 1, _ => rfl | 2, _ => rfl) (by show _ ≤ 582; omega) (by show _ ≤ 4463; omega) dX9_init_27 (fun H1 hnew hz1 oq hS => ?_)
  have hO := hO.k (oq _ hO.lt)
  have hMd := hMd.k (fun q h1 h2 h3 => (oq _ h3))
  have hEq := hEq.k (fun q h1 h2 h3 => (oq _ h3))
  have hsz1 : H1.size = a + 318 := by omega
  rw [hsz] at hnew ⊢
  clear hz1 oq hsz
  have hsz := hsz1
  clear hsz1
  have hCh := hnew
  clear hnew
  refine lv_dup hx hb dX9_init_30 rfl ?_
  refine pw_callI (As := []) (rest := [.ref (a + 317), .ref (a)]) ⟨hx, hb, hml, hown, hts⟩ (c_ChooserI l D E (a + 317)) (cwI 0 hts gX9_init_X1_init rfl rfl rfl kz_1 km_25 kn_1 rfl (by decide +kernel) ⟨Nat.le_of_ble_eq_true rfl, Nat.le_of_ble_eq_true rfl⟩) hK (⟨hCh, hsz⟩) rfl hl.1 rfl (Nat.le_of_ble_eq_true rfl) dX9_init_31 ⟨by show _ ≤ 582; omega, by show _ ≤ 4463; omega⟩ hS (fun q h => by (try dsimp only at h); (try dsimp only); omega) (fun H1 locs1 ⟨hCh, hsz⟩ hz1 hk1 hS => ?_)
  have hO := hO.k (hk1 _ hO.lt (by (try dsimp only); omega))
  have hMd := hMd.k (fun q h1 h2 h3 => (hk1 _ h3 (by (try dsimp only); omega)))
  have hEq := hEq.k (fun q h1 h2 h3 => (hk1 _ h3 (by (try dsimp only); omega)))
  clear hz1 hk1
  refine pw_putF (C := RX9) (T := TX9) (N := 14) hx hb hts hin9 tyX9 tyX9_ok nmX9 hown hK hO hS (by (try dsimp only); omega) rfl 2 (by decide) lk_26 rfl rfl hini rfl rfl rfl (by show _ < 14; decide) dX9_init_34 (fun H1 locs1 hnew hz1 oq hS => ?_)
  have hsz := hz1.trans hsz
  have hMd := hMd.k (fun q h1 h2 h3 => (oq _ (by omega)))
  have hEq := hEq.k (fun q h1 h2 h3 => (oq _ (by omega)))
  have hCh := hCh.k (fun q h1 h2 h3 => (oq _ (by omega)))
  have hO : OA D (a) 9 [.ref (a + 1), .ref (a + 52), .ref (a + 317), .null, .null, .null, .null, .null, .null, .null, .null, .null, .null, .int (iI (0))] H1 := hnew
  clear hnew oq hz1
  refine lv_aload_n hx hb dX9_init_37 rfl (lv_at hl 0 rfl) ?_
  refine pw_new (C := RX5) (T := TX5) (N := 3) (ci := 5) hx hb hts hin5 tyX5 tyX5_ok hown kl_30 ki_5 kz_5 hK hS rfl [.null, .null, .int (iI (0))] (fun j hj => by match j, hj with | 0, _ => rfl | 1, _ => rfl | 2, _ => rfl) (by show _ ≤ 582; omega) (by show _ ≤ 4463; omega) dX9_init_38 (fun H1 hnew hz1 oq hS => ?_)
  have hO := hO.k (oq _ hO.lt)
  have hMd := hMd.k (fun q h1 h2 h3 => (oq _ h3))
  have hEq := hEq.k (fun q h1 h2 h3 => (oq _ h3))
  have hCh := hCh.k (fun q h1 h2 h3 => (oq _ h3))
  have hsz1 : H1.size = a + 327 := by omega
  rw [hsz] at hnew ⊢
  clear hz1 oq hsz
  have hsz := hsz1
  clear hsz1
  have hLd := hnew
  clear hnew
  refine lv_dup hx hb dX9_init_41 rfl ?_
  refine pw_callIN (As := []) (rest := [.ref (a + 326), .ref (a)]) ⟨hx, hb, hml, hown, hts⟩ (c_LadderI l D E (a + 326)) (cwI 0 hts gX9_init_X5_init rfl rfl rfl kz_5 km_32 kn_5 rfl (by decide +kernel) ⟨Nat.le_of_ble_eq_true rfl, Nat.le_of_ble_eq_true rfl⟩) hK hAO (⟨hLd, hsz⟩) rfl hl.1 rfl (Nat.le_of_ble_eq_true rfl) dX9_init_42 ⟨by show _ ≤ 582; omega, by show _ ≤ 4463; omega⟩ hS (fun q h => by (try dsimp only at h); (try dsimp only); omega) (fun H1 locs1 ⟨hLd, hsz⟩ hz1 hk1 hS => ?_)
  have hO := hO.k (hk1 _ hO.lt (by (try dsimp only); omega))
  have hMd := hMd.k (fun q h1 h2 h3 => (hk1 _ h3 (by (try dsimp only); omega)))
  have hEq := hEq.k (fun q h1 h2 h3 => (hk1 _ h3 (by (try dsimp only); omega)))
  have hCh := hCh.k (fun q h1 h2 h3 => (hk1 _ h3 (by (try dsimp only); omega)))
  clear hz1 hk1
  refine pw_putF (C := RX9) (T := TX9) (N := 14) hx hb hts hin9 tyX9 tyX9_ok nmX9 hown hK hO hS (by (try dsimp only); omega) rfl 3 (by decide) lk_33 rfl rfl hini rfl rfl rfl (by show _ < 14; decide) dX9_init_45 (fun H1 locs1 hnew hz1 oq hS => ?_)
  have hsz := hz1.trans hsz
  have hMd := hMd.k (fun q h1 h2 h3 => (oq _ (by omega)))
  have hEq := hEq.k (fun q h1 h2 h3 => (oq _ (by omega)))
  have hCh := hCh.k (fun q h1 h2 h3 => (oq _ (by omega)))
  have hLd := hLd.k (fun q h1 h2 h3 => (oq _ (by omega)))
  have hO : OA D (a) 9 [.ref (a + 1), .ref (a + 52), .ref (a + 317), .ref (a + 326), .null, .null, .null, .null, .null, .null, .null, .null, .null, .int (iI (0))] H1 := hnew
  clear hnew oq hz1
  refine lv_aload_n hx hb dX9_init_48 rfl (lv_at hl 0 rfl) ?_
  refine pw_new (C := RX7) (T := TX7) (N := 2) (ci := 7) hx hb hts hin7 tyX7 tyX7_ok hown kl_37 ki_7 kz_7 hK hS rfl [.null, .null] (fun j hj => by match j, hj with | 0, _ => rfl | 1, _ => rfl) (by show _ ≤ 582; omega) (by show _ ≤ 4463; omega) dX9_init_49 (fun H1 hnew hz1 oq hS => ?_)
  have hO := hO.k (oq _ hO.lt)
  have hMd := hMd.k (fun q h1 h2 h3 => (oq _ h3))
  have hEq := hEq.k (fun q h1 h2 h3 => (oq _ h3))
  have hCh := hCh.k (fun q h1 h2 h3 => (oq _ h3))
  have hLd := hLd.k (fun q h1 h2 h3 => (oq _ h3))
  have hsz1 : H1.size = a + 483 := by omega
  rw [hsz] at hnew ⊢
  clear hz1 oq hsz
  have hsz := hsz1
  clear hsz1
  have hRw := hnew
  clear hnew
  refine lv_dup hx hb dX9_init_52 rfl ?_
  refine pw_bipush hx hb dX9_init_53 ?_
  refine pw_asi (((8 : Nat) : Int)) rfl ?_
  refine pw_callIN (As := [.int (iI (((8 : Nat) : Int)))]) (rest := [.ref (a + 482), .ref (a)]) ⟨hx, hb, hml, hown, hts⟩ (c_RowI l D E (a + 482) 8 (by omega)) (cwI 1 hts gX9_init_X7_init rfl rfl rfl kz_7 km_39 kn_7 rfl (by decide +kernel) ⟨Nat.le_of_ble_eq_true rfl, Nat.le_of_ble_eq_true rfl⟩) hK hAO (⟨hRw, hsz⟩) rfl hl.1 rfl (Nat.le_of_ble_eq_true rfl) dX9_init_55 ⟨by show _ ≤ 582; omega, by show _ ≤ 4463; omega⟩ hS (fun q h => by (try dsimp only at h); (try dsimp only); omega) (fun H1 locs1 ⟨hRw, hsz⟩ hz1 hk1 hS => ?_)
  have hO := hO.k (hk1 _ hO.lt (by (try dsimp only); omega))
  have hMd := hMd.k (fun q h1 h2 h3 => (hk1 _ h3 (by (try dsimp only); omega)))
  have hEq := hEq.k (fun q h1 h2 h3 => (hk1 _ h3 (by (try dsimp only); omega)))
  have hCh := hCh.k (fun q h1 h2 h3 => (hk1 _ h3 (by (try dsimp only); omega)))
  have hLd := hLd.k (fun q h1 h2 h3 => (hk1 _ h3 (by (try dsimp only); omega)))
  clear hz1 hk1
  refine pw_putF (C := RX9) (T := TX9) (N := 14) hx hb hts hin9 tyX9 tyX9_ok nmX9 hown hK hO hS (by (try dsimp only); omega) rfl 4 (by decide) lk_42 rfl rfl hini rfl rfl rfl (by show _ < 14; decide) dX9_init_58 (fun H1 locs1 hnew hz1 oq hS => ?_)
  have hsz := hz1.trans hsz
  have hMd := hMd.k (fun q h1 h2 h3 => (oq _ (by omega)))
  have hEq := hEq.k (fun q h1 h2 h3 => (oq _ (by omega)))
  have hCh := hCh.k (fun q h1 h2 h3 => (oq _ (by omega)))
  have hLd := hLd.k (fun q h1 h2 h3 => (oq _ (by omega)))
  have hRw := hRw.k (fun q h1 h2 h3 => (oq _ (by omega)))
  have hO : OA D (a) 9 [.ref (a + 1), .ref (a + 52), .ref (a + 317), .ref (a + 326), .ref (a + 482), .null, .null, .null, .null, .null, .null, .null, .null, .int (iI (0))] H1 := hnew
  clear hnew oq hz1
  refine lv_aload_n hx hb dX9_init_61 rfl (lv_at hl 0 rfl) ?_
  refine pw_bipush hx hb dX9_init_62 ?_
  refine pw_newi hx hb ka_int hK hS (6) rfl (by omega) (by show _ ≤ 582; omega) (by show _ ≤ 4463; omega) dX9_init_64 (fun H1 hnew hz1 oq hS => ?_)
  have hO := hO.k (oq _ hO.lt)
  have hMd := hMd.k (fun q h1 h2 h3 => (oq _ h3))
  have hEq := hEq.k (fun q h1 h2 h3 => (oq _ h3))
  have hCh := hCh.k (fun q h1 h2 h3 => (oq _ h3))
  have hLd := hLd.k (fun q h1 h2 h3 => (oq _ h3))
  have hRw := hRw.k (fun q h1 h2 h3 => (oq _ h3))
  have hsz1 : H1.size = a + 499 := by omega
  rw [hsz] at hnew ⊢
  clear hz1 oq hsz
  have hsz := hsz1
  clear hsz1
  have hBp := hnew
  clear hnew
  refine pw_putF (C := RX9) (T := TX9) (N := 14) hx hb hts hin9 tyX9 tyX9_ok nmX9 hown hK hO hS (by (try dsimp only); omega) rfl 5 (by decide) lk_46 rfl rfl hini rfl rfl rfl (by show _ < 14; decide) dX9_init_66 (fun H1 locs1 hnew hz1 oq hS => ?_)
  have hsz := hz1.trans hsz
  have hMd := hMd.k (fun q h1 h2 h3 => (oq _ (by omega)))
  have hEq := hEq.k (fun q h1 h2 h3 => (oq _ (by omega)))
  have hCh := hCh.k (fun q h1 h2 h3 => (oq _ (by omega)))
  have hLd := hLd.k (fun q h1 h2 h3 => (oq _ (by omega)))
  have hRw := hRw.k (fun q h1 h2 h3 => (oq _ (by omega)))
  have hBp := hBp.k (oq _ (by omega))
  have hO : OA D (a) 9 [.ref (a + 1), .ref (a + 52), .ref (a + 317), .ref (a + 326), .ref (a + 482), .ref (a + 498), .null, .null, .null, .null, .null, .null, .null, .int (iI (0))] H1 := hnew
  clear hnew oq hz1
  refine lv_aload_n hx hb dX9_init_69 rfl (lv_at hl 0 rfl) ?_
  refine pw_iconst hx hb dX9_init_70 ?_
  refine pw_asi (((4 : Nat) : Int)) rfl ?_
  refine pw_newq (C := RX7) hx hb hown kl_37 hAO.2.1 hK hS 4 rfl (4) rfl (by omega) (by show _ ≤ 582; omega) (by show _ ≤ 4463; omega) dX9_init_71 (fun H1 hnew hz1 oq hS => ?_)
  have hO := hO.k (oq _ hO.lt)
  have hMd := hMd.k (fun q h1 h2 h3 => (oq _ h3))
  have hEq := hEq.k (fun q h1 h2 h3 => (oq _ h3))
  have hCh := hCh.k (fun q h1 h2 h3 => (oq _ h3))
  have hLd := hLd.k (fun q h1 h2 h3 => (oq _ h3))
  have hRw := hRw.k (fun q h1 h2 h3 => (oq _ h3))
  have hBp := hBp.k (oq _ hBp.lt)
  have hsz1 : H1.size = a + 500 := by omega
  rw [hsz] at hnew ⊢
  clear hz1 oq hsz
  have hsz := hsz1
  clear hsz1
  have hQ := hnew
  clear hnew
  refine pw_putF (C := RX9) (T := TX9) (N := 14) hx hb hts hin9 tyX9 tyX9_ok nmX9 hown hK hO hS (by (try dsimp only); omega) rfl 6 (by decide) lk_50 rfl rfl hini rfl rfl rfl (by show _ < 14; decide) dX9_init_74 (fun H1 locs1 hnew hz1 oq hS => ?_)
  have hsz := hz1.trans hsz
  have hMd := hMd.k (fun q h1 h2 h3 => (oq _ (by omega)))
  have hEq := hEq.k (fun q h1 h2 h3 => (oq _ (by omega)))
  have hCh := hCh.k (fun q h1 h2 h3 => (oq _ (by omega)))
  have hLd := hLd.k (fun q h1 h2 h3 => (oq _ (by omega)))
  have hRw := hRw.k (fun q h1 h2 h3 => (oq _ (by omega)))
  have hBp := hBp.k (oq _ (by omega))
  have hQ := hQ.k (oq _ (by omega))
  have hO : OA D (a) 9 [.ref (a + 1), .ref (a + 52), .ref (a + 317), .ref (a + 326), .ref (a + 482), .ref (a + 498), .ref (a + 499), .null, .null, .null, .null, .null, .null, .int (iI (0))] H1 := hnew
  clear hnew oq hz1
  refine pw_iconst hx hb dX9_init_77 ?_
  refine pw_asi (((0 : Nat) : Int)) rfl ?_
  refine lv_istore_n (lv' := [(1, .int (iI (((0 : Nat) : Int)))), (0, .ref (a))]) hx hb dX9_init_78 rfl hl (by decide) rfl (fun ls hl => ?_)
  refine pw_cs (cells' := 499 + 16 * 0) (slots' := 3892 + 0 * 85) (by omega) (by omega) ?_
  exact loop 4 0 _ _ _ _ (by omega) (fun j hj => by omega) hO hMd hEq hCh hLd hRw hBp hQ (fun j hj => by omega) (by omega) hS (lv_sub hl [1, 0] rfl)
set_option maxHeartbeats 4000000 in
set_option maxRecDepth 100000 in
/-- PolicyWorksModel() -/
theorem r_ModelI (l : Launch) (D : va_G) (E : Nat → ClassId) (r0 : Nat) : pw_M rvV l D E yX10_init wsX10_init ({ frames := 1, cells := 13, slots := 5586, locals := 20 } : Room) [.ref (r0)] (fun H => OA D r0 10 [.int (iI (0)), .int (iI (0)), .null, .null, .null, .null, .int (iI (0)), .int (iI (0)), .int (iI (0)), .int (iI (0)), .null, .null, .null, .null, .null, .null, .null, .null, .null, .int (iI (0))] H ∧ H.size = r0 + 1) (fun _ H => RPO D E r0 σ0 0 H ∧ H.size = r0 + 14) (fun q => r0 ≤ q) (13) (5586) := by
  refine pw_of (cc := cX10_init) (maxL := 1) (ret := none) (by decide +kernel) rfl (Nat.le_of_ble_eq_true rfl) ?_
  intro p e s m args below meth c hx hb hr hml hts hown hlocks hini hK ⟨hO, hsz⟩ ls hl
  have hown : s.vm.findClass RX10 = some m.cls := hown
  have hl : lv_has ls 1 [(0, .ref (r0))] := hl
  have hS : va_S (fun q => r0 ≤ q) s.heap s.heap [] := va_S.rf
  have lk_7 := hts (.fieldLink RX10 7 "PolicyWorksModel" "actionCounts" "[I") (by decide +kernel)
  have lk_13 := hts (.fieldLink RX10 13 "PolicyWorksModel" "ups" "[I") (by decide +kernel)
  have lk_16 := hts (.fieldLink RX10 16 "PolicyWorksModel" "downs" "[I") (by decide +kernel)
  have lk_19 := hts (.fieldLink RX10 19 "PolicyWorksModel" "weights" "[I") (by decide +kernel)
  have lk_22 := hts (.fieldLink RX10 22 "PolicyWorksModel" "discountUp" "I") (by decide +kernel)
  have lk_26 := hts (.fieldLink RX10 26 "PolicyWorksModel" "discountDown" "I") (by decide +kernel)
  have lk_29 := hts (.fieldLink RX10 29 "PolicyWorksModel" "best" "[I") (by decide +kernel)
  have lk_32 := hts (.fieldLink RX10 32 "PolicyWorksModel" "chosen" "[I") (by decide +kernel)
  have lk_35 := hts (.fieldLink RX10 35 "PolicyWorksModel" "next" "[I") (by decide +kernel)
  have lk_38 := hts (.fieldLink RX10 38 "PolicyWorksModel" "limbs" "[I") (by decide +kernel)
  have lk_41 := hts (.fieldLink RX10 41 "PolicyWorksModel" "lengths" "[I") (by decide +kernel)
  have lk_44 := hts (.fieldLink RX10 44 "PolicyWorksModel" "signs" "[I") (by decide +kernel)
  have lk_47 := hts (.fieldLink RX10 47 "PolicyWorksModel" "primes" "[I") (by decide +kernel)
  have lk_50 := hts (.fieldLink RX10 50 "PolicyWorksModel" "own" "[I") (by decide +kernel)
  have lk_53 := hts (.fieldLink RX10 53 "PolicyWorksModel" "together" "[I") (by decide +kernel)
  have hin10 : ∀ w ∈ wsX100, w ∈ wsX10_init := by decide +kernel
  have ka_int := hts (.arrayClass .int) (by decide +kernel)
  have ko_1 := hts (.methodLink RX10 1 objectInit) (by decide +kernel)
  have ko_2 := hts (.instanceMethod objectInit) (by decide +kernel)
  have ko_3 := hts (.code objectInit ⟨#[0xb1]⟩ 1 none) (by decide +kernel)
  refine lv_aload_n hx hb dX10_init_0 rfl (lv_at hl 0 rfl) ?_
  refine pw_objI hx hb hml hown ko_1 ko_2 ko_3 hl.1 dX10_init_1 ⟨Nat.le_of_ble_eq_true rfl, Nat.le_of_ble_eq_true rfl⟩ ?_
  refine lv_aload_n hx hb dX10_init_4 rfl (lv_at hl 0 rfl) ?_
  refine pw_bipush hx hb dX10_init_5 ?_
  refine pw_newi hx hb ka_int hK hS (6) rfl (by omega) (by show _ ≤ 13; omega) (by show _ ≤ 5586; omega) dX10_init_7 (fun H1 hnew hz1 oq hS => ?_)
  have hO := hO.k (oq _ hO.lt)
  have hsz1 : H1.size = r0 + 2 := by omega
  rw [hsz] at hnew ⊢
  clear hz1 oq hsz
  have hsz := hsz1
  clear hsz1
  have hC := hnew
  clear hnew
  refine pw_putF (C := RX10) (T := TX10) (N := 20) hx hb hts hin10 tyX10 tyX10_ok nmX10 hown hK hO hS (by (try dsimp only); omega) rfl 2 (by decide) lk_7 rfl rfl hini rfl rfl rfl (by show _ < 20; decide) dX10_init_9 (fun H1 locs1 hnew hz1 oq hS => ?_)
  have hsz := hz1.trans hsz
  have hC := hC.k (oq _ (by omega))
  have hO : OA D (r0) 10 [.int (iI (0)), .int (iI (0)), .ref (r0 + 1), .null, .null, .null, .int (iI (0)), .int (iI (0)), .int (iI (0)), .int (iI (0)), .null, .null, .null, .null, .null, .null, .null, .null, .null, .int (iI (0))] H1 := hnew
  clear hnew oq hz1
  refine lv_aload_n hx hb dX10_init_12 rfl (lv_at hl 0 rfl) ?_
  refine pw_bipush hx hb dX10_init_13 ?_
  refine pw_newi hx hb ka_int hK hS (24) rfl (by omega) (by show _ ≤ 13; omega) (by show _ ≤ 5586; omega) dX10_init_15 (fun H1 hnew hz1 oq hS => ?_)
  have hO := hO.k (oq _ hO.lt)
  have hC := hC.k (oq _ hC.lt)
  have hsz1 : H1.size = r0 + 3 := by omega
  rw [hsz] at hnew ⊢
  clear hz1 oq hsz
  have hsz := hsz1
  clear hsz1
  have hU := hnew
  clear hnew
  refine pw_putF (C := RX10) (T := TX10) (N := 20) hx hb hts hin10 tyX10 tyX10_ok nmX10 hown hK hO hS (by (try dsimp only); omega) rfl 3 (by decide) lk_13 rfl rfl hini rfl rfl rfl (by show _ < 20; decide) dX10_init_17 (fun H1 locs1 hnew hz1 oq hS => ?_)
  have hsz := hz1.trans hsz
  have hC := hC.k (oq _ (by omega))
  have hU := hU.k (oq _ (by omega))
  have hO : OA D (r0) 10 [.int (iI (0)), .int (iI (0)), .ref (r0 + 1), .ref (r0 + 2), .null, .null, .int (iI (0)), .int (iI (0)), .int (iI (0)), .int (iI (0)), .null, .null, .null, .null, .null, .null, .null, .null, .null, .int (iI (0))] H1 := hnew
  clear hnew oq hz1
  refine lv_aload_n hx hb dX10_init_20 rfl (lv_at hl 0 rfl) ?_
  refine pw_bipush hx hb dX10_init_21 ?_
  refine pw_newi hx hb ka_int hK hS (24) rfl (by omega) (by show _ ≤ 13; omega) (by show _ ≤ 5586; omega) dX10_init_23 (fun H1 hnew hz1 oq hS => ?_)
  have hO := hO.k (oq _ hO.lt)
  have hC := hC.k (oq _ hC.lt)
  have hU := hU.k (oq _ hU.lt)
  have hsz1 : H1.size = r0 + 4 := by omega
  rw [hsz] at hnew ⊢
  clear hz1 oq hsz
  have hsz := hsz1
  clear hsz1
  have hDn := hnew
  clear hnew
  refine pw_putF (C := RX10) (T := TX10) (N := 20) hx hb hts hin10 tyX10 tyX10_ok nmX10 hown hK hO hS (by (try dsimp only); omega) rfl 4 (by decide) lk_16 rfl rfl hini rfl rfl rfl (by show _ < 20; decide) dX10_init_25 (fun H1 locs1 hnew hz1 oq hS => ?_)
  have hsz := hz1.trans hsz
  have hC := hC.k (oq _ (by omega))
  have hU := hU.k (oq _ (by omega))
  have hDn := hDn.k (oq _ (by omega))
  have hO : OA D (r0) 10 [.int (iI (0)), .int (iI (0)), .ref (r0 + 1), .ref (r0 + 2), .ref (r0 + 3), .null, .int (iI (0)), .int (iI (0)), .int (iI (0)), .int (iI (0)), .null, .null, .null, .null, .null, .null, .null, .null, .null, .int (iI (0))] H1 := hnew
  clear hnew oq hz1
  refine lv_aload_n hx hb dX10_init_28 rfl (lv_at hl 0 rfl) ?_
  refine pw_sipush hx hb dX10_init_29 ?_
  refine pw_newi hx hb ka_int hK hS (144) rfl (by omega) (by show _ ≤ 13; omega) (by show _ ≤ 5586; omega) dX10_init_32 (fun H1 hnew hz1 oq hS => ?_)
  have hO := hO.k (oq _ hO.lt)
  have hC := hC.k (oq _ hC.lt)
  have hU := hU.k (oq _ hU.lt)
  have hDn := hDn.k (oq _ hDn.lt)
  have hsz1 : H1.size = r0 + 5 := by omega
  rw [hsz] at hnew ⊢
  clear hz1 oq hsz
  have hsz := hsz1
  clear hsz1
  have hW := hnew
  clear hnew
  refine pw_putF (C := RX10) (T := TX10) (N := 20) hx hb hts hin10 tyX10 tyX10_ok nmX10 hown hK hO hS (by (try dsimp only); omega) rfl 5 (by decide) lk_19 rfl rfl hini rfl rfl rfl (by show _ < 20; decide) dX10_init_34 (fun H1 locs1 hnew hz1 oq hS => ?_)
  have hsz := hz1.trans hsz
  have hC := hC.k (oq _ (by omega))
  have hU := hU.k (oq _ (by omega))
  have hDn := hDn.k (oq _ (by omega))
  have hW := hW.k (oq _ (by omega))
  have hO : OA D (r0) 10 [.int (iI (0)), .int (iI (0)), .ref (r0 + 1), .ref (r0 + 2), .ref (r0 + 3), .ref (r0 + 4), .int (iI (0)), .int (iI (0)), .int (iI (0)), .int (iI (0)), .null, .null, .null, .null, .null, .null, .null, .null, .null, .int (iI (0))] H1 := hnew
  clear hnew oq hz1
  refine lv_aload_n hx hb dX10_init_37 rfl (lv_at hl 0 rfl) ?_
  refine pw_iconst hx hb dX10_init_38 ?_
  refine pw_put (C := RX10) (T := TX10) (N := 20) hx hb hts hin10 tyX10 tyX10_ok nmX10 hown hK hO hS (by (try dsimp only); omega) rfl 6 (by decide) lk_22 rfl rfl rfl rfl (by show _ < 20; decide) dX10_init_39 (fun H1 locs1 hnew hz1 oq hS => ?_)
  have hsz := hz1.trans hsz
  have hC := hC.k (oq _ (by omega))
  have hU := hU.k (oq _ (by omega))
  have hDn := hDn.k (oq _ (by omega))
  have hW := hW.k (oq _ (by omega))
  have hO : OA D (r0) 10 [.int (iI (0)), .int (iI (0)), .ref (r0 + 1), .ref (r0 + 2), .ref (r0 + 3), .ref (r0 + 4), .int (iI (1)), .int (iI (0)), .int (iI (0)), .int (iI (0)), .null, .null, .null, .null, .null, .null, .null, .null, .null, .int (iI (0))] H1 := hnew
  clear hnew oq hz1
  refine lv_aload_n hx hb dX10_init_42 rfl (lv_at hl 0 rfl) ?_
  refine pw_iconst hx hb dX10_init_43 ?_
  refine pw_put (C := RX10) (T := TX10) (N := 20) hx hb hts hin10 tyX10 tyX10_ok nmX10 hown hK hO hS (by (try dsimp only); omega) rfl 7 (by decide) lk_26 rfl rfl rfl rfl (by show _ < 20; decide) dX10_init_44 (fun H1 locs1 hnew hz1 oq hS => ?_)
  have hsz := hz1.trans hsz
  have hC := hC.k (oq _ (by omega))
  have hU := hU.k (oq _ (by omega))
  have hDn := hDn.k (oq _ (by omega))
  have hW := hW.k (oq _ (by omega))
  have hO : OA D (r0) 10 [.int (iI (0)), .int (iI (0)), .ref (r0 + 1), .ref (r0 + 2), .ref (r0 + 3), .ref (r0 + 4), .int (iI (1)), .int (iI (2)), .int (iI (0)), .int (iI (0)), .null, .null, .null, .null, .null, .null, .null, .null, .null, .int (iI (0))] H1 := hnew
  clear hnew oq hz1
  refine lv_aload_n hx hb dX10_init_47 rfl (lv_at hl 0 rfl) ?_
  refine pw_bipush hx hb dX10_init_48 ?_
  refine pw_newi hx hb ka_int hK hS (6) rfl (by omega) (by show _ ≤ 13; omega) (by show _ ≤ 5586; omega) dX10_init_50 (fun H1 hnew hz1 oq hS => ?_)
  have hO := hO.k (oq _ hO.lt)
  have hC := hC.k (oq _ hC.lt)
  have hU := hU.k (oq _ hU.lt)
  have hDn := hDn.k (oq _ hDn.lt)
  have hW := hW.k (oq _ hW.lt)
  have hsz1 : H1.size = r0 + 6 := by omega
  rw [hsz] at hnew ⊢
  clear hz1 oq hsz
  have hsz := hsz1
  clear hsz1
  have hBs := hnew
  clear hnew
  refine pw_putF (C := RX10) (T := TX10) (N := 20) hx hb hts hin10 tyX10 tyX10_ok nmX10 hown hK hO hS (by (try dsimp only); omega) rfl 10 (by decide) lk_29 rfl rfl hini rfl rfl rfl (by show _ < 20; decide) dX10_init_52 (fun H1 locs1 hnew hz1 oq hS => ?_)
  have hsz := hz1.trans hsz
  have hC := hC.k (oq _ (by omega))
  have hU := hU.k (oq _ (by omega))
  have hDn := hDn.k (oq _ (by omega))
  have hW := hW.k (oq _ (by omega))
  have hBs := hBs.k (oq _ (by omega))
  have hO : OA D (r0) 10 [.int (iI (0)), .int (iI (0)), .ref (r0 + 1), .ref (r0 + 2), .ref (r0 + 3), .ref (r0 + 4), .int (iI (1)), .int (iI (2)), .int (iI (0)), .int (iI (0)), .ref (r0 + 5), .null, .null, .null, .null, .null, .null, .null, .null, .int (iI (0))] H1 := hnew
  clear hnew oq hz1
  refine lv_aload_n hx hb dX10_init_55 rfl (lv_at hl 0 rfl) ?_
  refine pw_bipush hx hb dX10_init_56 ?_
  refine pw_newi hx hb ka_int hK hS (6) rfl (by omega) (by show _ ≤ 13; omega) (by show _ ≤ 5586; omega) dX10_init_58 (fun H1 hnew hz1 oq hS => ?_)
  have hO := hO.k (oq _ hO.lt)
  have hC := hC.k (oq _ hC.lt)
  have hU := hU.k (oq _ hU.lt)
  have hDn := hDn.k (oq _ hDn.lt)
  have hW := hW.k (oq _ hW.lt)
  have hBs := hBs.k (oq _ hBs.lt)
  have hsz1 : H1.size = r0 + 7 := by omega
  rw [hsz] at hnew ⊢
  clear hz1 oq hsz
  have hsz := hsz1
  clear hsz1
  have hCh := hnew
  clear hnew
  refine pw_putF (C := RX10) (T := TX10) (N := 20) hx hb hts hin10 tyX10 tyX10_ok nmX10 hown hK hO hS (by (try dsimp only); omega) rfl 11 (by decide) lk_32 rfl rfl hini rfl rfl rfl (by show _ < 20; decide) dX10_init_60 (fun H1 locs1 hnew hz1 oq hS => ?_)
  have hsz := hz1.trans hsz
  have hC := hC.k (oq _ (by omega))
  have hU := hU.k (oq _ (by omega))
  have hDn := hDn.k (oq _ (by omega))
  have hW := hW.k (oq _ (by omega))
  have hBs := hBs.k (oq _ (by omega))
  have hCh := hCh.k (oq _ (by omega))
  have hO : OA D (r0) 10 [.int (iI (0)), .int (iI (0)), .ref (r0 + 1), .ref (r0 + 2), .ref (r0 + 3), .ref (r0 + 4), .int (iI (1)), .int (iI (2)), .int (iI (0)), .int (iI (0)), .ref (r0 + 5), .ref (r0 + 6), .null, .null, .null, .null, .null, .null, .null, .int (iI (0))] H1 := hnew
  clear hnew oq hz1
  refine lv_aload_n hx hb dX10_init_63 rfl (lv_at hl 0 rfl) ?_
  refine pw_bipush hx hb dX10_init_64 ?_
  refine pw_newi hx hb ka_int hK hS (6) rfl (by omega) (by show _ ≤ 13; omega) (by show _ ≤ 5586; omega) dX10_init_66 (fun H1 hnew hz1 oq hS => ?_)
  have hO := hO.k (oq _ hO.lt)
  have hC := hC.k (oq _ hC.lt)
  have hU := hU.k (oq _ hU.lt)
  have hDn := hDn.k (oq _ hDn.lt)
  have hW := hW.k (oq _ hW.lt)
  have hBs := hBs.k (oq _ hBs.lt)
  have hCh := hCh.k (oq _ hCh.lt)
  have hsz1 : H1.size = r0 + 8 := by omega
  rw [hsz] at hnew ⊢
  clear hz1 oq hsz
  have hsz := hsz1
  clear hsz1
  have hNx := hnew
  clear hnew
  refine pw_putF (C := RX10) (T := TX10) (N := 20) hx hb hts hin10 tyX10 tyX10_ok nmX10 hown hK hO hS (by (try dsimp only); omega) rfl 12 (by decide) lk_35 rfl rfl hini rfl rfl rfl (by show _ < 20; decide) dX10_init_68 (fun H1 locs1 hnew hz1 oq hS => ?_)
  have hsz := hz1.trans hsz
  have hC := hC.k (oq _ (by omega))
  have hU := hU.k (oq _ (by omega))
  have hDn := hDn.k (oq _ (by omega))
  have hW := hW.k (oq _ (by omega))
  have hBs := hBs.k (oq _ (by omega))
  have hCh := hCh.k (oq _ (by omega))
  have hNx := hNx.k (oq _ (by omega))
  have hO : OA D (r0) 10 [.int (iI (0)), .int (iI (0)), .ref (r0 + 1), .ref (r0 + 2), .ref (r0 + 3), .ref (r0 + 4), .int (iI (1)), .int (iI (2)), .int (iI (0)), .int (iI (0)), .ref (r0 + 5), .ref (r0 + 6), .ref (r0 + 7), .null, .null, .null, .null, .null, .null, .int (iI (0))] H1 := hnew
  clear hnew oq hz1
  refine lv_aload_n hx hb dX10_init_71 rfl (lv_at hl 0 rfl) ?_
  refine pw_sipush hx hb dX10_init_72 ?_
  refine pw_newi hx hb ka_int hK hS (5120) rfl (by omega) (by show _ ≤ 13; omega) (by show _ ≤ 5586; omega) dX10_init_75 (fun H1 hnew hz1 oq hS => ?_)
  have hO := hO.k (oq _ hO.lt)
  have hC := hC.k (oq _ hC.lt)
  have hU := hU.k (oq _ hU.lt)
  have hDn := hDn.k (oq _ hDn.lt)
  have hW := hW.k (oq _ hW.lt)
  have hBs := hBs.k (oq _ hBs.lt)
  have hCh := hCh.k (oq _ hCh.lt)
  have hNx := hNx.k (oq _ hNx.lt)
  have hsz1 : H1.size = r0 + 9 := by omega
  rw [hsz] at hnew ⊢
  clear hz1 oq hsz
  have hsz := hsz1
  clear hsz1
  have hf := hnew
  clear hnew
  refine pw_putF (C := RX10) (T := TX10) (N := 20) hx hb hts hin10 tyX10 tyX10_ok nmX10 hown hK hO hS (by (try dsimp only); omega) rfl 13 (by decide) lk_38 rfl rfl hini rfl rfl rfl (by show _ < 20; decide) dX10_init_77 (fun H1 locs1 hnew hz1 oq hS => ?_)
  have hsz := hz1.trans hsz
  have hC := hC.k (oq _ (by omega))
  have hU := hU.k (oq _ (by omega))
  have hDn := hDn.k (oq _ (by omega))
  have hW := hW.k (oq _ (by omega))
  have hBs := hBs.k (oq _ (by omega))
  have hCh := hCh.k (oq _ (by omega))
  have hNx := hNx.k (oq _ (by omega))
  have hf := hf.k (oq _ (by omega))
  have hO : OA D (r0) 10 [.int (iI (0)), .int (iI (0)), .ref (r0 + 1), .ref (r0 + 2), .ref (r0 + 3), .ref (r0 + 4), .int (iI (1)), .int (iI (2)), .int (iI (0)), .int (iI (0)), .ref (r0 + 5), .ref (r0 + 6), .ref (r0 + 7), .ref (r0 + 8), .null, .null, .null, .null, .null, .int (iI (0))] H1 := hnew
  clear hnew oq hz1
  refine lv_aload_n hx hb dX10_init_80 rfl (lv_at hl 0 rfl) ?_
  refine pw_bipush hx hb dX10_init_81 ?_
  refine pw_newi hx hb ka_int hK hS (80) rfl (by omega) (by show _ ≤ 13; omega) (by show _ ≤ 5586; omega) dX10_init_83 (fun H1 hnew hz1 oq hS => ?_)
  have hO := hO.k (oq _ hO.lt)
  have hC := hC.k (oq _ hC.lt)
  have hU := hU.k (oq _ hU.lt)
  have hDn := hDn.k (oq _ hDn.lt)
  have hW := hW.k (oq _ hW.lt)
  have hBs := hBs.k (oq _ hBs.lt)
  have hCh := hCh.k (oq _ hCh.lt)
  have hNx := hNx.k (oq _ hNx.lt)
  have hf := hf.k (oq _ hf.lt)
  have hsz1 : H1.size = r0 + 10 := by omega
  rw [hsz] at hnew ⊢
  clear hz1 oq hsz
  have hsz := hsz1
  clear hsz1
  have hg := hnew
  clear hnew
  refine pw_putF (C := RX10) (T := TX10) (N := 20) hx hb hts hin10 tyX10 tyX10_ok nmX10 hown hK hO hS (by (try dsimp only); omega) rfl 14 (by decide) lk_41 rfl rfl hini rfl rfl rfl (by show _ < 20; decide) dX10_init_85 (fun H1 locs1 hnew hz1 oq hS => ?_)
  have hsz := hz1.trans hsz
  have hC := hC.k (oq _ (by omega))
  have hU := hU.k (oq _ (by omega))
  have hDn := hDn.k (oq _ (by omega))
  have hW := hW.k (oq _ (by omega))
  have hBs := hBs.k (oq _ (by omega))
  have hCh := hCh.k (oq _ (by omega))
  have hNx := hNx.k (oq _ (by omega))
  have hf := hf.k (oq _ (by omega))
  have hg := hg.k (oq _ (by omega))
  have hO : OA D (r0) 10 [.int (iI (0)), .int (iI (0)), .ref (r0 + 1), .ref (r0 + 2), .ref (r0 + 3), .ref (r0 + 4), .int (iI (1)), .int (iI (2)), .int (iI (0)), .int (iI (0)), .ref (r0 + 5), .ref (r0 + 6), .ref (r0 + 7), .ref (r0 + 8), .ref (r0 + 9), .null, .null, .null, .null, .int (iI (0))] H1 := hnew
  clear hnew oq hz1
  refine lv_aload_n hx hb dX10_init_88 rfl (lv_at hl 0 rfl) ?_
  refine pw_bipush hx hb dX10_init_89 ?_
  refine pw_newi hx hb ka_int hK hS (80) rfl (by omega) (by show _ ≤ 13; omega) (by show _ ≤ 5586; omega) dX10_init_91 (fun H1 hnew hz1 oq hS => ?_)
  have hO := hO.k (oq _ hO.lt)
  have hC := hC.k (oq _ hC.lt)
  have hU := hU.k (oq _ hU.lt)
  have hDn := hDn.k (oq _ hDn.lt)
  have hW := hW.k (oq _ hW.lt)
  have hBs := hBs.k (oq _ hBs.lt)
  have hCh := hCh.k (oq _ hCh.lt)
  have hNx := hNx.k (oq _ hNx.lt)
  have hf := hf.k (oq _ hf.lt)
  have hg := hg.k (oq _ hg.lt)
  have hsz1 : H1.size = r0 + 11 := by omega
  rw [hsz] at hnew ⊢
  clear hz1 oq hsz
  have hsz := hsz1
  clear hsz1
  have hh := hnew
  clear hnew
  refine pw_putF (C := RX10) (T := TX10) (N := 20) hx hb hts hin10 tyX10 tyX10_ok nmX10 hown hK hO hS (by (try dsimp only); omega) rfl 15 (by decide) lk_44 rfl rfl hini rfl rfl rfl (by show _ < 20; decide) dX10_init_93 (fun H1 locs1 hnew hz1 oq hS => ?_)
  have hsz := hz1.trans hsz
  have hC := hC.k (oq _ (by omega))
  have hU := hU.k (oq _ (by omega))
  have hDn := hDn.k (oq _ (by omega))
  have hW := hW.k (oq _ (by omega))
  have hBs := hBs.k (oq _ (by omega))
  have hCh := hCh.k (oq _ (by omega))
  have hNx := hNx.k (oq _ (by omega))
  have hf := hf.k (oq _ (by omega))
  have hg := hg.k (oq _ (by omega))
  have hh := hh.k (oq _ (by omega))
  have hO : OA D (r0) 10 [.int (iI (0)), .int (iI (0)), .ref (r0 + 1), .ref (r0 + 2), .ref (r0 + 3), .ref (r0 + 4), .int (iI (1)), .int (iI (2)), .int (iI (0)), .int (iI (0)), .ref (r0 + 5), .ref (r0 + 6), .ref (r0 + 7), .ref (r0 + 8), .ref (r0 + 9), .ref (r0 + 10), .null, .null, .null, .int (iI (0))] H1 := hnew
  clear hnew oq hz1
  refine lv_aload_n hx hb dX10_init_96 rfl (lv_at hl 0 rfl) ?_
  refine pw_bipush hx hb dX10_init_97 ?_
  refine pw_newi hx hb ka_int hK hS (30) rfl (by omega) (by show _ ≤ 13; omega) (by show _ ≤ 5586; omega) dX10_init_99 (fun H1 hnew hz1 oq hS => ?_)
  have hO := hO.k (oq _ hO.lt)
  have hC := hC.k (oq _ hC.lt)
  have hU := hU.k (oq _ hU.lt)
  have hDn := hDn.k (oq _ hDn.lt)
  have hW := hW.k (oq _ hW.lt)
  have hBs := hBs.k (oq _ hBs.lt)
  have hCh := hCh.k (oq _ hCh.lt)
  have hNx := hNx.k (oq _ hNx.lt)
  have hf := hf.k (oq _ hf.lt)
  have hg := hg.k (oq _ hg.lt)
  have hh := hh.k (oq _ hh.lt)
  have hsz1 : H1.size = r0 + 12 := by omega
  rw [hsz] at hnew ⊢
  clear hz1 oq hsz
  have hsz := hsz1
  clear hsz1
  have hP := hnew
  clear hnew
  refine lv_dup hx hb dX10_init_101 rfl ?_
  refine pw_iconst hx hb dX10_init_102 ?_
  refine pw_iconst hx hb dX10_init_103 ?_
  refine pw_iast hx hb hK hP hS (by (try dsimp only); omega) (0) rfl (by omega) (by omega) dX10_init_104 (fun H1 locs1 hnew hz1 oq hS => ?_)
  have hO := hO.k (oq _ (by omega))
  have hsz := hz1.trans hsz
  have hC := hC.k (oq _ (by omega))
  have hU := hU.k (oq _ (by omega))
  have hDn := hDn.k (oq _ (by omega))
  have hW := hW.k (oq _ (by omega))
  have hBs := hBs.k (oq _ (by omega))
  have hCh := hCh.k (oq _ (by omega))
  have hNx := hNx.k (oq _ (by omega))
  have hf := hf.k (oq _ (by omega))
  have hg := hg.k (oq _ (by omega))
  have hh := hh.k (oq _ (by omega))
  have hP := hnew
  clear hnew oq hz1
  refine lv_dup hx hb dX10_init_105 rfl ?_
  refine pw_iconst hx hb dX10_init_106 ?_
  refine pw_iconst hx hb dX10_init_107 ?_
  refine pw_iast hx hb hK hP hS (by (try dsimp only); omega) (1) rfl (by omega) (by omega) dX10_init_108 (fun H1 locs1 hnew hz1 oq hS => ?_)
  have hO := hO.k (oq _ (by omega))
  have hsz := hz1.trans hsz
  have hC := hC.k (oq _ (by omega))
  have hU := hU.k (oq _ (by omega))
  have hDn := hDn.k (oq _ (by omega))
  have hW := hW.k (oq _ (by omega))
  have hBs := hBs.k (oq _ (by omega))
  have hCh := hCh.k (oq _ (by omega))
  have hNx := hNx.k (oq _ (by omega))
  have hf := hf.k (oq _ (by omega))
  have hg := hg.k (oq _ (by omega))
  have hh := hh.k (oq _ (by omega))
  have hP := hnew
  clear hnew oq hz1
  refine lv_dup hx hb dX10_init_109 rfl ?_
  refine pw_iconst hx hb dX10_init_110 ?_
  refine pw_iconst hx hb dX10_init_111 ?_
  refine pw_iast hx hb hK hP hS (by (try dsimp only); omega) (2) rfl (by omega) (by omega) dX10_init_112 (fun H1 locs1 hnew hz1 oq hS => ?_)
  have hO := hO.k (oq _ (by omega))
  have hsz := hz1.trans hsz
  have hC := hC.k (oq _ (by omega))
  have hU := hU.k (oq _ (by omega))
  have hDn := hDn.k (oq _ (by omega))
  have hW := hW.k (oq _ (by omega))
  have hBs := hBs.k (oq _ (by omega))
  have hCh := hCh.k (oq _ (by omega))
  have hNx := hNx.k (oq _ (by omega))
  have hf := hf.k (oq _ (by omega))
  have hg := hg.k (oq _ (by omega))
  have hh := hh.k (oq _ (by omega))
  have hP := hnew
  clear hnew oq hz1
  refine lv_dup hx hb dX10_init_113 rfl ?_
  refine pw_iconst hx hb dX10_init_114 ?_
  refine pw_bipush hx hb dX10_init_115 ?_
  refine pw_iast hx hb hK hP hS (by (try dsimp only); omega) (3) rfl (by omega) (by omega) dX10_init_117 (fun H1 locs1 hnew hz1 oq hS => ?_)
  have hO := hO.k (oq _ (by omega))
  have hsz := hz1.trans hsz
  have hC := hC.k (oq _ (by omega))
  have hU := hU.k (oq _ (by omega))
  have hDn := hDn.k (oq _ (by omega))
  have hW := hW.k (oq _ (by omega))
  have hBs := hBs.k (oq _ (by omega))
  have hCh := hCh.k (oq _ (by omega))
  have hNx := hNx.k (oq _ (by omega))
  have hf := hf.k (oq _ (by omega))
  have hg := hg.k (oq _ (by omega))
  have hh := hh.k (oq _ (by omega))
  have hP := hnew
  clear hnew oq hz1
  refine lv_dup hx hb dX10_init_118 rfl ?_
  refine pw_iconst hx hb dX10_init_119 ?_
  refine pw_bipush hx hb dX10_init_120 ?_
  refine pw_iast hx hb hK hP hS (by (try dsimp only); omega) (4) rfl (by omega) (by omega) dX10_init_122 (fun H1 locs1 hnew hz1 oq hS => ?_)
  have hO := hO.k (oq _ (by omega))
  have hsz := hz1.trans hsz
  have hC := hC.k (oq _ (by omega))
  have hU := hU.k (oq _ (by omega))
  have hDn := hDn.k (oq _ (by omega))
  have hW := hW.k (oq _ (by omega))
  have hBs := hBs.k (oq _ (by omega))
  have hCh := hCh.k (oq _ (by omega))
  have hNx := hNx.k (oq _ (by omega))
  have hf := hf.k (oq _ (by omega))
  have hg := hg.k (oq _ (by omega))
  have hh := hh.k (oq _ (by omega))
  have hP := hnew
  clear hnew oq hz1
  refine lv_dup hx hb dX10_init_123 rfl ?_
  refine pw_iconst hx hb dX10_init_124 ?_
  refine pw_bipush hx hb dX10_init_125 ?_
  refine pw_iast hx hb hK hP hS (by (try dsimp only); omega) (5) rfl (by omega) (by omega) dX10_init_127 (fun H1 locs1 hnew hz1 oq hS => ?_)
  have hO := hO.k (oq _ (by omega))
  have hsz := hz1.trans hsz
  have hC := hC.k (oq _ (by omega))
  have hU := hU.k (oq _ (by omega))
  have hDn := hDn.k (oq _ (by omega))
  have hW := hW.k (oq _ (by omega))
  have hBs := hBs.k (oq _ (by omega))
  have hCh := hCh.k (oq _ (by omega))
  have hNx := hNx.k (oq _ (by omega))
  have hf := hf.k (oq _ (by omega))
  have hg := hg.k (oq _ (by omega))
  have hh := hh.k (oq _ (by omega))
  have hP := hnew
  clear hnew oq hz1
  refine lv_dup hx hb dX10_init_128 rfl ?_
  refine pw_bipush hx hb dX10_init_129 ?_
  refine pw_bipush hx hb dX10_init_131 ?_
  refine pw_iast hx hb hK hP hS (by (try dsimp only); omega) (6) rfl (by omega) (by omega) dX10_init_133 (fun H1 locs1 hnew hz1 oq hS => ?_)
  have hO := hO.k (oq _ (by omega))
  have hsz := hz1.trans hsz
  have hC := hC.k (oq _ (by omega))
  have hU := hU.k (oq _ (by omega))
  have hDn := hDn.k (oq _ (by omega))
  have hW := hW.k (oq _ (by omega))
  have hBs := hBs.k (oq _ (by omega))
  have hCh := hCh.k (oq _ (by omega))
  have hNx := hNx.k (oq _ (by omega))
  have hf := hf.k (oq _ (by omega))
  have hg := hg.k (oq _ (by omega))
  have hh := hh.k (oq _ (by omega))
  have hP := hnew
  clear hnew oq hz1
  refine lv_dup hx hb dX10_init_134 rfl ?_
  refine pw_bipush hx hb dX10_init_135 ?_
  refine pw_bipush hx hb dX10_init_137 ?_
  refine pw_iast hx hb hK hP hS (by (try dsimp only); omega) (7) rfl (by omega) (by omega) dX10_init_139 (fun H1 locs1 hnew hz1 oq hS => ?_)
  have hO := hO.k (oq _ (by omega))
  have hsz := hz1.trans hsz
  have hC := hC.k (oq _ (by omega))
  have hU := hU.k (oq _ (by omega))
  have hDn := hDn.k (oq _ (by omega))
  have hW := hW.k (oq _ (by omega))
  have hBs := hBs.k (oq _ (by omega))
  have hCh := hCh.k (oq _ (by omega))
  have hNx := hNx.k (oq _ (by omega))
  have hf := hf.k (oq _ (by omega))
  have hg := hg.k (oq _ (by omega))
  have hh := hh.k (oq _ (by omega))
  have hP := hnew
  clear hnew oq hz1
  refine lv_dup hx hb dX10_init_140 rfl ?_
  refine pw_bipush hx hb dX10_init_141 ?_
  refine pw_bipush hx hb dX10_init_143 ?_
  refine pw_iast hx hb hK hP hS (by (try dsimp only); omega) (8) rfl (by omega) (by omega) dX10_init_145 (fun H1 locs1 hnew hz1 oq hS => ?_)
  have hO := hO.k (oq _ (by omega))
  have hsz := hz1.trans hsz
  have hC := hC.k (oq _ (by omega))
  have hU := hU.k (oq _ (by omega))
  have hDn := hDn.k (oq _ (by omega))
  have hW := hW.k (oq _ (by omega))
  have hBs := hBs.k (oq _ (by omega))
  have hCh := hCh.k (oq _ (by omega))
  have hNx := hNx.k (oq _ (by omega))
  have hf := hf.k (oq _ (by omega))
  have hg := hg.k (oq _ (by omega))
  have hh := hh.k (oq _ (by omega))
  have hP := hnew
  clear hnew oq hz1
  refine lv_dup hx hb dX10_init_146 rfl ?_
  refine pw_bipush hx hb dX10_init_147 ?_
  refine pw_bipush hx hb dX10_init_149 ?_
  refine pw_iast hx hb hK hP hS (by (try dsimp only); omega) (9) rfl (by omega) (by omega) dX10_init_151 (fun H1 locs1 hnew hz1 oq hS => ?_)
  have hO := hO.k (oq _ (by omega))
  have hsz := hz1.trans hsz
  have hC := hC.k (oq _ (by omega))
  have hU := hU.k (oq _ (by omega))
  have hDn := hDn.k (oq _ (by omega))
  have hW := hW.k (oq _ (by omega))
  have hBs := hBs.k (oq _ (by omega))
  have hCh := hCh.k (oq _ (by omega))
  have hNx := hNx.k (oq _ (by omega))
  have hf := hf.k (oq _ (by omega))
  have hg := hg.k (oq _ (by omega))
  have hh := hh.k (oq _ (by omega))
  have hP := hnew
  clear hnew oq hz1
  refine lv_dup hx hb dX10_init_152 rfl ?_
  refine pw_bipush hx hb dX10_init_153 ?_
  refine pw_bipush hx hb dX10_init_155 ?_
  refine pw_iast hx hb hK hP hS (by (try dsimp only); omega) (10) rfl (by omega) (by omega) dX10_init_157 (fun H1 locs1 hnew hz1 oq hS => ?_)
  have hO := hO.k (oq _ (by omega))
  have hsz := hz1.trans hsz
  have hC := hC.k (oq _ (by omega))
  have hU := hU.k (oq _ (by omega))
  have hDn := hDn.k (oq _ (by omega))
  have hW := hW.k (oq _ (by omega))
  have hBs := hBs.k (oq _ (by omega))
  have hCh := hCh.k (oq _ (by omega))
  have hNx := hNx.k (oq _ (by omega))
  have hf := hf.k (oq _ (by omega))
  have hg := hg.k (oq _ (by omega))
  have hh := hh.k (oq _ (by omega))
  have hP := hnew
  clear hnew oq hz1
  refine lv_dup hx hb dX10_init_158 rfl ?_
  refine pw_bipush hx hb dX10_init_159 ?_
  refine pw_bipush hx hb dX10_init_161 ?_
  refine pw_iast hx hb hK hP hS (by (try dsimp only); omega) (11) rfl (by omega) (by omega) dX10_init_163 (fun H1 locs1 hnew hz1 oq hS => ?_)
  have hO := hO.k (oq _ (by omega))
  have hsz := hz1.trans hsz
  have hC := hC.k (oq _ (by omega))
  have hU := hU.k (oq _ (by omega))
  have hDn := hDn.k (oq _ (by omega))
  have hW := hW.k (oq _ (by omega))
  have hBs := hBs.k (oq _ (by omega))
  have hCh := hCh.k (oq _ (by omega))
  have hNx := hNx.k (oq _ (by omega))
  have hf := hf.k (oq _ (by omega))
  have hg := hg.k (oq _ (by omega))
  have hh := hh.k (oq _ (by omega))
  have hP := hnew
  clear hnew oq hz1
  refine lv_dup hx hb dX10_init_164 rfl ?_
  refine pw_bipush hx hb dX10_init_165 ?_
  refine pw_bipush hx hb dX10_init_167 ?_
  refine pw_iast hx hb hK hP hS (by (try dsimp only); omega) (12) rfl (by omega) (by omega) dX10_init_169 (fun H1 locs1 hnew hz1 oq hS => ?_)
  have hO := hO.k (oq _ (by omega))
  have hsz := hz1.trans hsz
  have hC := hC.k (oq _ (by omega))
  have hU := hU.k (oq _ (by omega))
  have hDn := hDn.k (oq _ (by omega))
  have hW := hW.k (oq _ (by omega))
  have hBs := hBs.k (oq _ (by omega))
  have hCh := hCh.k (oq _ (by omega))
  have hNx := hNx.k (oq _ (by omega))
  have hf := hf.k (oq _ (by omega))
  have hg := hg.k (oq _ (by omega))
  have hh := hh.k (oq _ (by omega))
  have hP := hnew
  clear hnew oq hz1
  refine lv_dup hx hb dX10_init_170 rfl ?_
  refine pw_bipush hx hb dX10_init_171 ?_
  refine pw_bipush hx hb dX10_init_173 ?_
  refine pw_iast hx hb hK hP hS (by (try dsimp only); omega) (13) rfl (by omega) (by omega) dX10_init_175 (fun H1 locs1 hnew hz1 oq hS => ?_)
  have hO := hO.k (oq _ (by omega))
  have hsz := hz1.trans hsz
  have hC := hC.k (oq _ (by omega))
  have hU := hU.k (oq _ (by omega))
  have hDn := hDn.k (oq _ (by omega))
  have hW := hW.k (oq _ (by omega))
  have hBs := hBs.k (oq _ (by omega))
  have hCh := hCh.k (oq _ (by omega))
  have hNx := hNx.k (oq _ (by omega))
  have hf := hf.k (oq _ (by omega))
  have hg := hg.k (oq _ (by omega))
  have hh := hh.k (oq _ (by omega))
  have hP := hnew
  clear hnew oq hz1
  refine lv_dup hx hb dX10_init_176 rfl ?_
  refine pw_bipush hx hb dX10_init_177 ?_
  refine pw_bipush hx hb dX10_init_179 ?_
  refine pw_iast hx hb hK hP hS (by (try dsimp only); omega) (14) rfl (by omega) (by omega) dX10_init_181 (fun H1 locs1 hnew hz1 oq hS => ?_)
  have hO := hO.k (oq _ (by omega))
  have hsz := hz1.trans hsz
  have hC := hC.k (oq _ (by omega))
  have hU := hU.k (oq _ (by omega))
  have hDn := hDn.k (oq _ (by omega))
  have hW := hW.k (oq _ (by omega))
  have hBs := hBs.k (oq _ (by omega))
  have hCh := hCh.k (oq _ (by omega))
  have hNx := hNx.k (oq _ (by omega))
  have hf := hf.k (oq _ (by omega))
  have hg := hg.k (oq _ (by omega))
  have hh := hh.k (oq _ (by omega))
  have hP := hnew
  clear hnew oq hz1
  refine lv_dup hx hb dX10_init_182 rfl ?_
  refine pw_bipush hx hb dX10_init_183 ?_
  refine pw_bipush hx hb dX10_init_185 ?_
  refine pw_iast hx hb hK hP hS (by (try dsimp only); omega) (15) rfl (by omega) (by omega) dX10_init_187 (fun H1 locs1 hnew hz1 oq hS => ?_)
  have hO := hO.k (oq _ (by omega))
  have hsz := hz1.trans hsz
  have hC := hC.k (oq _ (by omega))
  have hU := hU.k (oq _ (by omega))
  have hDn := hDn.k (oq _ (by omega))
  have hW := hW.k (oq _ (by omega))
  have hBs := hBs.k (oq _ (by omega))
  have hCh := hCh.k (oq _ (by omega))
  have hNx := hNx.k (oq _ (by omega))
  have hf := hf.k (oq _ (by omega))
  have hg := hg.k (oq _ (by omega))
  have hh := hh.k (oq _ (by omega))
  have hP := hnew
  clear hnew oq hz1
  refine lv_dup hx hb dX10_init_188 rfl ?_
  refine pw_bipush hx hb dX10_init_189 ?_
  refine pw_bipush hx hb dX10_init_191 ?_
  refine pw_iast hx hb hK hP hS (by (try dsimp only); omega) (16) rfl (by omega) (by omega) dX10_init_193 (fun H1 locs1 hnew hz1 oq hS => ?_)
  have hO := hO.k (oq _ (by omega))
  have hsz := hz1.trans hsz
  have hC := hC.k (oq _ (by omega))
  have hU := hU.k (oq _ (by omega))
  have hDn := hDn.k (oq _ (by omega))
  have hW := hW.k (oq _ (by omega))
  have hBs := hBs.k (oq _ (by omega))
  have hCh := hCh.k (oq _ (by omega))
  have hNx := hNx.k (oq _ (by omega))
  have hf := hf.k (oq _ (by omega))
  have hg := hg.k (oq _ (by omega))
  have hh := hh.k (oq _ (by omega))
  have hP := hnew
  clear hnew oq hz1
  refine lv_dup hx hb dX10_init_194 rfl ?_
  refine pw_bipush hx hb dX10_init_195 ?_
  refine pw_bipush hx hb dX10_init_197 ?_
  refine pw_iast hx hb hK hP hS (by (try dsimp only); omega) (17) rfl (by omega) (by omega) dX10_init_199 (fun H1 locs1 hnew hz1 oq hS => ?_)
  have hO := hO.k (oq _ (by omega))
  have hsz := hz1.trans hsz
  have hC := hC.k (oq _ (by omega))
  have hU := hU.k (oq _ (by omega))
  have hDn := hDn.k (oq _ (by omega))
  have hW := hW.k (oq _ (by omega))
  have hBs := hBs.k (oq _ (by omega))
  have hCh := hCh.k (oq _ (by omega))
  have hNx := hNx.k (oq _ (by omega))
  have hf := hf.k (oq _ (by omega))
  have hg := hg.k (oq _ (by omega))
  have hh := hh.k (oq _ (by omega))
  have hP := hnew
  clear hnew oq hz1
  refine lv_dup hx hb dX10_init_200 rfl ?_
  refine pw_bipush hx hb dX10_init_201 ?_
  refine pw_bipush hx hb dX10_init_203 ?_
  refine pw_iast hx hb hK hP hS (by (try dsimp only); omega) (18) rfl (by omega) (by omega) dX10_init_205 (fun H1 locs1 hnew hz1 oq hS => ?_)
  have hO := hO.k (oq _ (by omega))
  have hsz := hz1.trans hsz
  have hC := hC.k (oq _ (by omega))
  have hU := hU.k (oq _ (by omega))
  have hDn := hDn.k (oq _ (by omega))
  have hW := hW.k (oq _ (by omega))
  have hBs := hBs.k (oq _ (by omega))
  have hCh := hCh.k (oq _ (by omega))
  have hNx := hNx.k (oq _ (by omega))
  have hf := hf.k (oq _ (by omega))
  have hg := hg.k (oq _ (by omega))
  have hh := hh.k (oq _ (by omega))
  have hP := hnew
  clear hnew oq hz1
  refine lv_dup hx hb dX10_init_206 rfl ?_
  refine pw_bipush hx hb dX10_init_207 ?_
  refine pw_bipush hx hb dX10_init_209 ?_
  refine pw_iast hx hb hK hP hS (by (try dsimp only); omega) (19) rfl (by omega) (by omega) dX10_init_211 (fun H1 locs1 hnew hz1 oq hS => ?_)
  have hO := hO.k (oq _ (by omega))
  have hsz := hz1.trans hsz
  have hC := hC.k (oq _ (by omega))
  have hU := hU.k (oq _ (by omega))
  have hDn := hDn.k (oq _ (by omega))
  have hW := hW.k (oq _ (by omega))
  have hBs := hBs.k (oq _ (by omega))
  have hCh := hCh.k (oq _ (by omega))
  have hNx := hNx.k (oq _ (by omega))
  have hf := hf.k (oq _ (by omega))
  have hg := hg.k (oq _ (by omega))
  have hh := hh.k (oq _ (by omega))
  have hP := hnew
  clear hnew oq hz1
  refine lv_dup hx hb dX10_init_212 rfl ?_
  refine pw_bipush hx hb dX10_init_213 ?_
  refine pw_bipush hx hb dX10_init_215 ?_
  refine pw_iast hx hb hK hP hS (by (try dsimp only); omega) (20) rfl (by omega) (by omega) dX10_init_217 (fun H1 locs1 hnew hz1 oq hS => ?_)
  have hO := hO.k (oq _ (by omega))
  have hsz := hz1.trans hsz
  have hC := hC.k (oq _ (by omega))
  have hU := hU.k (oq _ (by omega))
  have hDn := hDn.k (oq _ (by omega))
  have hW := hW.k (oq _ (by omega))
  have hBs := hBs.k (oq _ (by omega))
  have hCh := hCh.k (oq _ (by omega))
  have hNx := hNx.k (oq _ (by omega))
  have hf := hf.k (oq _ (by omega))
  have hg := hg.k (oq _ (by omega))
  have hh := hh.k (oq _ (by omega))
  have hP := hnew
  clear hnew oq hz1
  refine lv_dup hx hb dX10_init_218 rfl ?_
  refine pw_bipush hx hb dX10_init_219 ?_
  refine pw_bipush hx hb dX10_init_221 ?_
  refine pw_iast hx hb hK hP hS (by (try dsimp only); omega) (21) rfl (by omega) (by omega) dX10_init_223 (fun H1 locs1 hnew hz1 oq hS => ?_)
  have hO := hO.k (oq _ (by omega))
  have hsz := hz1.trans hsz
  have hC := hC.k (oq _ (by omega))
  have hU := hU.k (oq _ (by omega))
  have hDn := hDn.k (oq _ (by omega))
  have hW := hW.k (oq _ (by omega))
  have hBs := hBs.k (oq _ (by omega))
  have hCh := hCh.k (oq _ (by omega))
  have hNx := hNx.k (oq _ (by omega))
  have hf := hf.k (oq _ (by omega))
  have hg := hg.k (oq _ (by omega))
  have hh := hh.k (oq _ (by omega))
  have hP := hnew
  clear hnew oq hz1
  refine lv_dup hx hb dX10_init_224 rfl ?_
  refine pw_bipush hx hb dX10_init_225 ?_
  refine pw_bipush hx hb dX10_init_227 ?_
  refine pw_iast hx hb hK hP hS (by (try dsimp only); omega) (22) rfl (by omega) (by omega) dX10_init_229 (fun H1 locs1 hnew hz1 oq hS => ?_)
  have hO := hO.k (oq _ (by omega))
  have hsz := hz1.trans hsz
  have hC := hC.k (oq _ (by omega))
  have hU := hU.k (oq _ (by omega))
  have hDn := hDn.k (oq _ (by omega))
  have hW := hW.k (oq _ (by omega))
  have hBs := hBs.k (oq _ (by omega))
  have hCh := hCh.k (oq _ (by omega))
  have hNx := hNx.k (oq _ (by omega))
  have hf := hf.k (oq _ (by omega))
  have hg := hg.k (oq _ (by omega))
  have hh := hh.k (oq _ (by omega))
  have hP := hnew
  clear hnew oq hz1
  refine lv_dup hx hb dX10_init_230 rfl ?_
  refine pw_bipush hx hb dX10_init_231 ?_
  refine pw_bipush hx hb dX10_init_233 ?_
  refine pw_iast hx hb hK hP hS (by (try dsimp only); omega) (23) rfl (by omega) (by omega) dX10_init_235 (fun H1 locs1 hnew hz1 oq hS => ?_)
  have hO := hO.k (oq _ (by omega))
  have hsz := hz1.trans hsz
  have hC := hC.k (oq _ (by omega))
  have hU := hU.k (oq _ (by omega))
  have hDn := hDn.k (oq _ (by omega))
  have hW := hW.k (oq _ (by omega))
  have hBs := hBs.k (oq _ (by omega))
  have hCh := hCh.k (oq _ (by omega))
  have hNx := hNx.k (oq _ (by omega))
  have hf := hf.k (oq _ (by omega))
  have hg := hg.k (oq _ (by omega))
  have hh := hh.k (oq _ (by omega))
  have hP := hnew
  clear hnew oq hz1
  refine lv_dup hx hb dX10_init_236 rfl ?_
  refine pw_bipush hx hb dX10_init_237 ?_
  refine pw_bipush hx hb dX10_init_239 ?_
  refine pw_iast hx hb hK hP hS (by (try dsimp only); omega) (24) rfl (by omega) (by omega) dX10_init_241 (fun H1 locs1 hnew hz1 oq hS => ?_)
  have hO := hO.k (oq _ (by omega))
  have hsz := hz1.trans hsz
  have hC := hC.k (oq _ (by omega))
  have hU := hU.k (oq _ (by omega))
  have hDn := hDn.k (oq _ (by omega))
  have hW := hW.k (oq _ (by omega))
  have hBs := hBs.k (oq _ (by omega))
  have hCh := hCh.k (oq _ (by omega))
  have hNx := hNx.k (oq _ (by omega))
  have hf := hf.k (oq _ (by omega))
  have hg := hg.k (oq _ (by omega))
  have hh := hh.k (oq _ (by omega))
  have hP := hnew
  clear hnew oq hz1
  refine lv_dup hx hb dX10_init_242 rfl ?_
  refine pw_bipush hx hb dX10_init_243 ?_
  refine pw_bipush hx hb dX10_init_245 ?_
  refine pw_iast hx hb hK hP hS (by (try dsimp only); omega) (25) rfl (by omega) (by omega) dX10_init_247 (fun H1 locs1 hnew hz1 oq hS => ?_)
  have hO := hO.k (oq _ (by omega))
  have hsz := hz1.trans hsz
  have hC := hC.k (oq _ (by omega))
  have hU := hU.k (oq _ (by omega))
  have hDn := hDn.k (oq _ (by omega))
  have hW := hW.k (oq _ (by omega))
  have hBs := hBs.k (oq _ (by omega))
  have hCh := hCh.k (oq _ (by omega))
  have hNx := hNx.k (oq _ (by omega))
  have hf := hf.k (oq _ (by omega))
  have hg := hg.k (oq _ (by omega))
  have hh := hh.k (oq _ (by omega))
  have hP := hnew
  clear hnew oq hz1
  refine lv_dup hx hb dX10_init_248 rfl ?_
  refine pw_bipush hx hb dX10_init_249 ?_
  refine pw_bipush hx hb dX10_init_251 ?_
  refine pw_iast hx hb hK hP hS (by (try dsimp only); omega) (26) rfl (by omega) (by omega) dX10_init_253 (fun H1 locs1 hnew hz1 oq hS => ?_)
  have hO := hO.k (oq _ (by omega))
  have hsz := hz1.trans hsz
  have hC := hC.k (oq _ (by omega))
  have hU := hU.k (oq _ (by omega))
  have hDn := hDn.k (oq _ (by omega))
  have hW := hW.k (oq _ (by omega))
  have hBs := hBs.k (oq _ (by omega))
  have hCh := hCh.k (oq _ (by omega))
  have hNx := hNx.k (oq _ (by omega))
  have hf := hf.k (oq _ (by omega))
  have hg := hg.k (oq _ (by omega))
  have hh := hh.k (oq _ (by omega))
  have hP := hnew
  clear hnew oq hz1
  refine lv_dup hx hb dX10_init_254 rfl ?_
  refine pw_bipush hx hb dX10_init_255 ?_
  refine pw_bipush hx hb dX10_init_257 ?_
  refine pw_iast hx hb hK hP hS (by (try dsimp only); omega) (27) rfl (by omega) (by omega) dX10_init_259 (fun H1 locs1 hnew hz1 oq hS => ?_)
  have hO := hO.k (oq _ (by omega))
  have hsz := hz1.trans hsz
  have hC := hC.k (oq _ (by omega))
  have hU := hU.k (oq _ (by omega))
  have hDn := hDn.k (oq _ (by omega))
  have hW := hW.k (oq _ (by omega))
  have hBs := hBs.k (oq _ (by omega))
  have hCh := hCh.k (oq _ (by omega))
  have hNx := hNx.k (oq _ (by omega))
  have hf := hf.k (oq _ (by omega))
  have hg := hg.k (oq _ (by omega))
  have hh := hh.k (oq _ (by omega))
  have hP := hnew
  clear hnew oq hz1
  refine lv_dup hx hb dX10_init_260 rfl ?_
  refine pw_bipush hx hb dX10_init_261 ?_
  refine pw_bipush hx hb dX10_init_263 ?_
  refine pw_iast hx hb hK hP hS (by (try dsimp only); omega) (28) rfl (by omega) (by omega) dX10_init_265 (fun H1 locs1 hnew hz1 oq hS => ?_)
  have hO := hO.k (oq _ (by omega))
  have hsz := hz1.trans hsz
  have hC := hC.k (oq _ (by omega))
  have hU := hU.k (oq _ (by omega))
  have hDn := hDn.k (oq _ (by omega))
  have hW := hW.k (oq _ (by omega))
  have hBs := hBs.k (oq _ (by omega))
  have hCh := hCh.k (oq _ (by omega))
  have hNx := hNx.k (oq _ (by omega))
  have hf := hf.k (oq _ (by omega))
  have hg := hg.k (oq _ (by omega))
  have hh := hh.k (oq _ (by omega))
  have hP := hnew
  clear hnew oq hz1
  refine lv_dup hx hb dX10_init_266 rfl ?_
  refine pw_bipush hx hb dX10_init_267 ?_
  refine pw_bipush hx hb dX10_init_269 ?_
  refine pw_iast hx hb hK hP hS (by (try dsimp only); omega) (29) rfl (by omega) (by omega) dX10_init_271 (fun H1 locs1 hnew hz1 oq hS => ?_)
  have hO := hO.k (oq _ (by omega))
  have hsz := hz1.trans hsz
  have hC := hC.k (oq _ (by omega))
  have hU := hU.k (oq _ (by omega))
  have hDn := hDn.k (oq _ (by omega))
  have hW := hW.k (oq _ (by omega))
  have hBs := hBs.k (oq _ (by omega))
  have hCh := hCh.k (oq _ (by omega))
  have hNx := hNx.k (oq _ (by omega))
  have hf := hf.k (oq _ (by omega))
  have hg := hg.k (oq _ (by omega))
  have hh := hh.k (oq _ (by omega))
  have hP := hnew
  clear hnew oq hz1
  refine pw_putF (C := RX10) (T := TX10) (N := 20) hx hb hts hin10 tyX10 tyX10_ok nmX10 hown hK hO hS (by (try dsimp only); omega) rfl 16 (by decide) lk_47 rfl rfl hini rfl rfl rfl (by show _ < 20; decide) dX10_init_272 (fun H1 locs1 hnew hz1 oq hS => ?_)
  have hsz := hz1.trans hsz
  have hC := hC.k (oq _ (by omega))
  have hU := hU.k (oq _ (by omega))
  have hDn := hDn.k (oq _ (by omega))
  have hW := hW.k (oq _ (by omega))
  have hBs := hBs.k (oq _ (by omega))
  have hCh := hCh.k (oq _ (by omega))
  have hNx := hNx.k (oq _ (by omega))
  have hf := hf.k (oq _ (by omega))
  have hg := hg.k (oq _ (by omega))
  have hh := hh.k (oq _ (by omega))
  have hP := hP.k (oq _ (by omega))
  have hO : OA D (r0) 10 [.int (iI (0)), .int (iI (0)), .ref (r0 + 1), .ref (r0 + 2), .ref (r0 + 3), .ref (r0 + 4), .int (iI (1)), .int (iI (2)), .int (iI (0)), .int (iI (0)), .ref (r0 + 5), .ref (r0 + 6), .ref (r0 + 7), .ref (r0 + 8), .ref (r0 + 9), .ref (r0 + 10), .ref (r0 + 11), .null, .null, .int (iI (0))] H1 := hnew
  clear hnew oq hz1
  refine lv_aload_n hx hb dX10_init_275 rfl (lv_at hl 0 rfl) ?_
  refine pw_bipush hx hb dX10_init_276 ?_
  refine pw_newi hx hb ka_int hK hS (30) rfl (by omega) (by show _ ≤ 13; omega) (by show _ ≤ 5586; omega) dX10_init_278 (fun H1 hnew hz1 oq hS => ?_)
  have hO := hO.k (oq _ hO.lt)
  have hC := hC.k (oq _ hC.lt)
  have hU := hU.k (oq _ hU.lt)
  have hDn := hDn.k (oq _ hDn.lt)
  have hW := hW.k (oq _ hW.lt)
  have hBs := hBs.k (oq _ hBs.lt)
  have hCh := hCh.k (oq _ hCh.lt)
  have hNx := hNx.k (oq _ hNx.lt)
  have hf := hf.k (oq _ hf.lt)
  have hg := hg.k (oq _ hg.lt)
  have hh := hh.k (oq _ hh.lt)
  have hP := hP.k (oq _ hP.lt)
  have hsz1 : H1.size = r0 + 13 := by omega
  rw [hsz] at hnew ⊢
  clear hz1 oq hsz
  have hsz := hsz1
  clear hsz1
  have hOw := hnew
  clear hnew
  refine pw_putF (C := RX10) (T := TX10) (N := 20) hx hb hts hin10 tyX10 tyX10_ok nmX10 hown hK hO hS (by (try dsimp only); omega) rfl 17 (by decide) lk_50 rfl rfl hini rfl rfl rfl (by show _ < 20; decide) dX10_init_280 (fun H1 locs1 hnew hz1 oq hS => ?_)
  have hsz := hz1.trans hsz
  have hC := hC.k (oq _ (by omega))
  have hU := hU.k (oq _ (by omega))
  have hDn := hDn.k (oq _ (by omega))
  have hW := hW.k (oq _ (by omega))
  have hBs := hBs.k (oq _ (by omega))
  have hCh := hCh.k (oq _ (by omega))
  have hNx := hNx.k (oq _ (by omega))
  have hf := hf.k (oq _ (by omega))
  have hg := hg.k (oq _ (by omega))
  have hh := hh.k (oq _ (by omega))
  have hP := hP.k (oq _ (by omega))
  have hOw := hOw.k (oq _ (by omega))
  have hO : OA D (r0) 10 [.int (iI (0)), .int (iI (0)), .ref (r0 + 1), .ref (r0 + 2), .ref (r0 + 3), .ref (r0 + 4), .int (iI (1)), .int (iI (2)), .int (iI (0)), .int (iI (0)), .ref (r0 + 5), .ref (r0 + 6), .ref (r0 + 7), .ref (r0 + 8), .ref (r0 + 9), .ref (r0 + 10), .ref (r0 + 11), .ref (r0 + 12), .null, .int (iI (0))] H1 := hnew
  clear hnew oq hz1
  refine lv_aload_n hx hb dX10_init_283 rfl (lv_at hl 0 rfl) ?_
  refine pw_bipush hx hb dX10_init_284 ?_
  refine pw_newi hx hb ka_int hK hS (30) rfl (by omega) (by show _ ≤ 13; omega) (by show _ ≤ 5586; omega) dX10_init_286 (fun H1 hnew hz1 oq hS => ?_)
  have hO := hO.k (oq _ hO.lt)
  have hC := hC.k (oq _ hC.lt)
  have hU := hU.k (oq _ hU.lt)
  have hDn := hDn.k (oq _ hDn.lt)
  have hW := hW.k (oq _ hW.lt)
  have hBs := hBs.k (oq _ hBs.lt)
  have hCh := hCh.k (oq _ hCh.lt)
  have hNx := hNx.k (oq _ hNx.lt)
  have hf := hf.k (oq _ hf.lt)
  have hg := hg.k (oq _ hg.lt)
  have hh := hh.k (oq _ hh.lt)
  have hP := hP.k (oq _ hP.lt)
  have hOw := hOw.k (oq _ hOw.lt)
  have hsz1 : H1.size = r0 + 14 := by omega
  rw [hsz] at hnew ⊢
  clear hz1 oq hsz
  have hsz := hsz1
  clear hsz1
  have hTg := hnew
  clear hnew
  refine pw_putF (C := RX10) (T := TX10) (N := 20) hx hb hts hin10 tyX10 tyX10_ok nmX10 hown hK hO hS (by (try dsimp only); omega) rfl 18 (by decide) lk_53 rfl rfl hini rfl rfl rfl (by show _ < 20; decide) dX10_init_288 (fun H1 locs1 hnew hz1 oq hS => ?_)
  have hsz := hz1.trans hsz
  have hC := hC.k (oq _ (by omega))
  have hU := hU.k (oq _ (by omega))
  have hDn := hDn.k (oq _ (by omega))
  have hW := hW.k (oq _ (by omega))
  have hBs := hBs.k (oq _ (by omega))
  have hCh := hCh.k (oq _ (by omega))
  have hNx := hNx.k (oq _ (by omega))
  have hf := hf.k (oq _ (by omega))
  have hg := hg.k (oq _ (by omega))
  have hh := hh.k (oq _ (by omega))
  have hP := hP.k (oq _ (by omega))
  have hOw := hOw.k (oq _ (by omega))
  have hTg := hTg.k (oq _ (by omega))
  have hO : OA D (r0) 10 [.int (iI (0)), .int (iI (0)), .ref (r0 + 1), .ref (r0 + 2), .ref (r0 + 3), .ref (r0 + 4), .int (iI (1)), .int (iI (2)), .int (iI (0)), .int (iI (0)), .ref (r0 + 5), .ref (r0 + 6), .ref (r0 + 7), .ref (r0 + 8), .ref (r0 + 9), .ref (r0 + 10), .ref (r0 + 11), .ref (r0 + 12), .ref (r0 + 13), .int (iI (0))] H1 := hnew
  clear hnew oq hz1
  refine pw_cs (cells' := 13) (slots' := 5586) (by omega) (by omega) ?_
  have hP2 : IA E (r0 + 11) 30 prm _ := hP.up (fun j hj => by revert j; decide +kernel)
  exact pw_vret hx hb hr hlocks hS ⟨⟨0, 0, 0, fun _ => 0, fun _ => 0, fun _ => 0, fun _ => 0, fun _ => 0, fun _ => 0, fun _ => 0, fun _ => 0, fun _ => 0, hO, hC, hU, hDn, hW, hBs, hCh, hNx, bn_zero hf hg hh, hP2, hOw, hTg, RI0 σ0_ok (fun s k _ hk => absurd hk (Nat.not_lt_zero _))⟩, hsz⟩ dX10_init_291
