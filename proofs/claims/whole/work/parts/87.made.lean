/-! constructors: PolicyWorks, PolicyWorksModel -/
theorem bn_zero {E : Nat → ClassId} {r0 : Nat} {H : Heap} (h1 : IA E (r0 + 8) 5120 (fun _ => 0) H) (h2 : IA E (r0 + 9) 80 (fun _ => 0) H) (h3 : IA E (r0 + 10) 80 (fun _ => 0) H) : BN E r0 (fun _ => 0) H := ⟨_, _, _, ⟨h1, h2, h3⟩, fun c hc => ⟨0, ⟨by omega, by show (0 : Int).natAbs < 268435456 ^ 0; decide, fun h => absurd h (by omega)⟩, rfl, fun k hk => absurd hk (by omega), rfl⟩⟩
set_option maxHeartbeats 4000000 in
set_option maxRecDepth 100000 in
/-- PolicyWorks(), behind its loop -/
theorem c_PolicyI_tail (l : Launch) (D : va_G) (E : Nat → ClassId) (a : Nat) {p : Program} {e : Env} {s : State} {m : MethodId} {args : Array Value} {below : List Frame} {meth : Method} {c : Code} (hx : p.tables.exec = Jvm.exec) (hb : c.code = cX9_init) (hr : meth.sig.returnType = none) (hml : c.maxLocals = 2) (hts : ∀ w ∈ wsX9_init, w.before args s = true) (hown : s.vm.findClass RX9 = some m.cls) (hlocks : meth.locks = false) (hini : meth.name = "<init>") (hK : KK D E s) (hAO : AOs s) : ∀ (k : Nat) (f : Nat → Option Nat) (H : Heap) (locs : List Loc) (ls : Array Slot), k = 4 → (∀ j, j < k → f j = some (a + 500 + 16 * j)) → OA D a 9 [.ref (a + 1), .ref (a + 52), .ref (a + 317), .ref (a + 326), .ref (a + 482), .ref (a + 498), .ref (a + 499), .null, .null, .null, .null, .null, .null, .int (iI (0))] H → MO D E (a + 1) σ0 H → EQ D E (a + 52) (fun _ _ => 0) (fun _ => 0) H → CH D E (a + 317) (a + 317 + 1) (a + 317 + 4) 0 1 0 1 H → LD D E (a + 326) 0 (fun _ _ => 0) (fun _ => 0) (fun _ _ => 0) H → RW D E (a + 482) 8 (fun _ => 0) 0 H → IA E (a + 498) 6 (fun _ => 0) H → QA E 4 (a + 499) 4 f H → RWS D E (a + 500) 8 k H → H.size = a + 500 + 16 * k → va_S (fun q => a ≤ q) s.heap H locs → lv_has ls 2 [(0, .ref (a)), (1, .int (iI ((k : Int))))] → W p l e ({ frames := 4, cells := 582, slots := 4463, locals := 84 } : Room) s m args below meth c H locs (499 + 16 * k) (3892 + k * 85) (MQ below (pw_Q rvV (fun _ H => PO D E a σ0 0 H ∧ H.size = a + 583) (fun q => a ≤ q)) args s (582) (4463) (fun q => a ≤ q)) (F0 m 79 ls []) := by
  have lk_54 := hts (.fieldLink RX9 54 "PolicyWorks" "worthKnown" "[Z") (by decide +kernel)
  have lk_58 := hts (.fieldLink RX9 58 "PolicyWorks" "trial" "[I") (by decide +kernel)
  have lk_64 := hts (.fieldLink RX9 64 "PolicyWorks" "told" "LPolicyWorks$Fraction;") (by decide +kernel)
  have lk_71 := hts (.fieldLink RX9 71 "PolicyWorks" "left" "LPolicyWorks$Whole;") (by decide +kernel)
  have lk_75 := hts (.fieldLink RX9 75 "PolicyWorks" "right" "LPolicyWorks$Whole;") (by decide +kernel)
  have lk_78 := hts (.fieldLink RX9 78 "PolicyWorks" "factor" "LPolicyWorks$Whole;") (by decide +kernel)
  have lk_81 := hts (.fieldLink RX9 81 "PolicyWorks" "rounds" "I") (by decide +kernel)
  have hin9 : ∀ w ∈ wsX90, w ∈ wsX9_init := by decide +kernel
  have hin3 : ∀ w ∈ wsX30, w ∈ wsX9_init := by decide +kernel
  have hin8 : ∀ w ∈ wsX80, w ∈ wsX9_init := by decide +kernel
  have ka_boolean := hts (.arrayClass .boolean) (by decide +kernel)
  have ka_int := hts (.arrayClass .int) (by decide +kernel)
  have ki_3 := hts (.instantiable RX3 5) (by decide +kernel)
  have ki_8 := hts (.instantiable RX8 3) (by decide +kernel)
  have kl_61 := hts (.classLink RX9 61 RX3) (by decide +kernel)
  have kl_68 := hts (.classLink RX9 68 RX8) (by decide +kernel)
  have km_63 := hts (.methodLink RX9 63 yX3_init) (by decide +kernel)
  have km_70 := hts (.methodLink RX9 70 yX8_init) (by decide +kernel)
  have kn_3 := hts (.instanceMethod yX3_init) (by decide +kernel)
  have kn_8 := hts (.instanceMethod yX8_init) (by decide +kernel)
  have kz_3 := hts (.initialized RX3) (by decide +kernel)
  have kz_8 := hts (.initialized RX8) (by decide +kernel)
  intro k f H locs ls ek hf hO hMd hEq hCh hLd hRw hBp hQ hRS hsz hS hl
  subst ek
  refine lv_iload_n hx hb dX9_init_79 rfl (lv_at hl 1 rfl) ?_
  refine pw_iconst hx hb dX9_init_80 ?_
  refine pw_icmp_ge (tgt := 105) hx hb dX9_init_81 (by decide) (fun c_81 => ?_) (fun c_81 => absurd c_81 (by omega))
  refine lv_aload_n hx hb dX9_init_105 rfl (lv_at hl 0 rfl) ?_
  refine pw_iconst hx hb dX9_init_106 ?_
  refine pw_asi (((4 : Nat) : Int)) rfl ?_
  refine pw_newz hx hb ka_boolean hK hS (4) rfl (by omega) (by show _ ≤ 582; omega) (by show _ ≤ 4463; omega) dX9_init_107 (fun H1 hnew hz1 oq hS => ?_)
  replace hO := hO.k (oq _ hO.lt)
  replace hMd := hMd.k (fun q h1 h2 h3 => (oq _ h3))
  replace hEq := hEq.k (fun q h1 h2 h3 => (oq _ h3))
  replace hCh := hCh.k (fun q h1 h2 h3 => (oq _ h3))
  replace hLd := hLd.k (fun q h1 h2 h3 => (oq _ h3))
  replace hRw := hRw.k (fun q h1 h2 h3 => (oq _ h3))
  replace hBp := hBp.k (oq _ hBp.lt)
  replace hQ := hQ.k (oq _ hQ.lt)
  replace hRS := hRS.k (fun q h1 h2 h3 => (oq _ h3))
  have hsz1 : H1.size = a + 565 := by omega
  rw [hsz] at hnew ⊢
  clear hz1 oq hsz
  have hsz := hsz1
  clear hsz1
  have hZ := hnew
  clear hnew
  refine pw_putF (C := RX9) (T := TX9) (N := 14) hx hb hts hin9 tyX9 tyX9_ok nmX9 hown hK hO hS (by (try dsimp only); omega) rfl 7 (by decide) lk_54 rfl rfl hini rfl rfl rfl (by show _ < 14; decide) dX9_init_109 (fun H1 locs1 hnew hz1 oq hS => ?_)
  replace hMd := hMd.k (fun q h1 h2 h3 => (oq _ (by omega)))
  replace hEq := hEq.k (fun q h1 h2 h3 => (oq _ (by omega)))
  replace hCh := hCh.k (fun q h1 h2 h3 => (oq _ (by omega)))
  replace hLd := hLd.k (fun q h1 h2 h3 => (oq _ (by omega)))
  replace hRw := hRw.k (fun q h1 h2 h3 => (oq _ (by omega)))
  replace hBp := hBp.k (oq _ (by omega))
  replace hQ := hQ.k (oq _ (by omega))
  replace hRS := hRS.k (fun q h1 h2 h3 => (oq _ (by omega)))
  replace hsz := hz1.trans hsz
  replace hZ := hZ.k (oq _ (by omega))
  replace hO : OA D (a) 9 [.ref (a + 1), .ref (a + 52), .ref (a + 317), .ref (a + 326), .ref (a + 482), .ref (a + 498), .ref (a + 499), .ref (a + 564), .null, .null, .null, .null, .null, .int (iI (0))] H1 := hnew
  clear hnew oq hz1
  refine lv_aload_n hx hb dX9_init_112 rfl (lv_at hl 0 rfl) ?_
  refine pw_bipush hx hb dX9_init_113 ?_
  refine pw_newi hx hb ka_int hK hS (6) rfl (by omega) (by show _ ≤ 582; omega) (by show _ ≤ 4463; omega) dX9_init_115 (fun H1 hnew hz1 oq hS => ?_)
  replace hO := hO.k (oq _ hO.lt)
  replace hMd := hMd.k (fun q h1 h2 h3 => (oq _ h3))
  replace hEq := hEq.k (fun q h1 h2 h3 => (oq _ h3))
  replace hCh := hCh.k (fun q h1 h2 h3 => (oq _ h3))
  replace hLd := hLd.k (fun q h1 h2 h3 => (oq _ h3))
  replace hRw := hRw.k (fun q h1 h2 h3 => (oq _ h3))
  replace hBp := hBp.k (oq _ hBp.lt)
  replace hQ := hQ.k (oq _ hQ.lt)
  replace hRS := hRS.k (fun q h1 h2 h3 => (oq _ h3))
  replace hZ := hZ.k (oq _ hZ.lt)
  have hsz1 : H1.size = a + 566 := by omega
  rw [hsz] at hnew ⊢
  clear hz1 oq hsz
  have hsz := hsz1
  clear hsz1
  have hT := hnew
  clear hnew
  refine pw_putF (C := RX9) (T := TX9) (N := 14) hx hb hts hin9 tyX9 tyX9_ok nmX9 hown hK hO hS (by (try dsimp only); omega) rfl 8 (by decide) lk_58 rfl rfl hini rfl rfl rfl (by show _ < 14; decide) dX9_init_117 (fun H1 locs1 hnew hz1 oq hS => ?_)
  replace hMd := hMd.k (fun q h1 h2 h3 => (oq _ (by omega)))
  replace hEq := hEq.k (fun q h1 h2 h3 => (oq _ (by omega)))
  replace hCh := hCh.k (fun q h1 h2 h3 => (oq _ (by omega)))
  replace hLd := hLd.k (fun q h1 h2 h3 => (oq _ (by omega)))
  replace hRw := hRw.k (fun q h1 h2 h3 => (oq _ (by omega)))
  replace hBp := hBp.k (oq _ (by omega))
  replace hQ := hQ.k (oq _ (by omega))
  replace hRS := hRS.k (fun q h1 h2 h3 => (oq _ (by omega)))
  replace hsz := hz1.trans hsz
  replace hZ := hZ.k (oq _ (by omega))
  replace hT := hT.k (oq _ (by omega))
  replace hO : OA D (a) 9 [.ref (a + 1), .ref (a + 52), .ref (a + 317), .ref (a + 326), .ref (a + 482), .ref (a + 498), .ref (a + 499), .ref (a + 564), .ref (a + 565), .null, .null, .null, .null, .int (iI (0))] H1 := hnew
  clear hnew oq hz1
  refine lv_aload_n hx hb dX9_init_120 rfl (lv_at hl 0 rfl) ?_
  refine pw_new (C := RX3) (T := TX3) (N := 5) (ci := 3) hx hb hts hin3 tyX3 tyX3_ok hown kl_61 ki_3 kz_3 hK hS rfl [.null, .null, .null, .null, .null] (fun j hj => by match j, hj with | 0, _ => rfl | 1, _ => rfl | 2, _ => rfl | 3, _ => rfl | 4, _ => rfl) (by show _ ≤ 582; omega) (by show _ ≤ 4463; omega) dX9_init_121 (fun H1 hnew hz1 oq hS => ?_)
  replace hO := hO.k (oq _ hO.lt)
  replace hMd := hMd.k (fun q h1 h2 h3 => (oq _ h3))
  replace hEq := hEq.k (fun q h1 h2 h3 => (oq _ h3))
  replace hCh := hCh.k (fun q h1 h2 h3 => (oq _ h3))
  replace hLd := hLd.k (fun q h1 h2 h3 => (oq _ h3))
  replace hRw := hRw.k (fun q h1 h2 h3 => (oq _ h3))
  replace hBp := hBp.k (oq _ hBp.lt)
  replace hQ := hQ.k (oq _ hQ.lt)
  replace hRS := hRS.k (fun q h1 h2 h3 => (oq _ h3))
  replace hZ := hZ.k (oq _ hZ.lt)
  replace hT := hT.k (oq _ hT.lt)
  have hsz1 : H1.size = a + 567 := by omega
  rw [hsz] at hnew ⊢
  clear hz1 oq hsz
  have hsz := hsz1
  clear hsz1
  have hFr := hnew
  clear hnew
  refine lv_dup hx hb dX9_init_124 rfl ?_
  refine pw_callI (As := []) (rest := [.ref (a + 566), .ref (a)]) ⟨hx, hb, hml, hown, hts⟩ (c_FractionI l D E (a + 566)) (cwI 0 hts gX9_init_X3_init rfl rfl rfl kz_3 km_63 kn_3 rfl (by decide +kernel) ⟨Nat.le_of_ble_eq_true rfl, Nat.le_of_ble_eq_true rfl⟩) hK (⟨hFr, hsz⟩) rfl hl.1 rfl (Nat.le_of_ble_eq_true rfl) dX9_init_125 ⟨by show _ ≤ 582; omega, by show _ ≤ 4463; omega⟩ hS (fun q h => by (try dsimp only at h); (try dsimp only); omega) (fun H1 locs1 ⟨hFr, hsz⟩ hz1 hk1 hS => ?_)
  replace hO := hO.k (hk1 _ hO.lt (by (try dsimp only); omega))
  replace hMd := hMd.k (fun q h1 h2 h3 => (hk1 _ h3 (by (try dsimp only); omega)))
  replace hEq := hEq.k (fun q h1 h2 h3 => (hk1 _ h3 (by (try dsimp only); omega)))
  replace hCh := hCh.k (fun q h1 h2 h3 => (hk1 _ h3 (by (try dsimp only); omega)))
  replace hLd := hLd.k (fun q h1 h2 h3 => (hk1 _ h3 (by (try dsimp only); omega)))
  replace hRw := hRw.k (fun q h1 h2 h3 => (hk1 _ h3 (by (try dsimp only); omega)))
  replace hBp := hBp.k (hk1 _ hBp.lt (by (try dsimp only); omega))
  replace hQ := hQ.k (hk1 _ hQ.lt (by (try dsimp only); omega))
  replace hRS := hRS.k (fun q h1 h2 h3 => (hk1 _ h3 (by (try dsimp only); omega)))
  replace hZ := hZ.k (hk1 _ hZ.lt (by (try dsimp only); omega))
  replace hT := hT.k (hk1 _ hT.lt (by (try dsimp only); omega))
  clear hz1 hk1
  refine pw_putF (C := RX9) (T := TX9) (N := 14) hx hb hts hin9 tyX9 tyX9_ok nmX9 hown hK hO hS (by (try dsimp only); omega) rfl 9 (by decide) lk_64 rfl rfl hini rfl rfl rfl (by show _ < 14; decide) dX9_init_128 (fun H1 locs1 hnew hz1 oq hS => ?_)
  replace hMd := hMd.k (fun q h1 h2 h3 => (oq _ (by omega)))
  replace hEq := hEq.k (fun q h1 h2 h3 => (oq _ (by omega)))
  replace hCh := hCh.k (fun q h1 h2 h3 => (oq _ (by omega)))
  replace hLd := hLd.k (fun q h1 h2 h3 => (oq _ (by omega)))
  replace hRw := hRw.k (fun q h1 h2 h3 => (oq _ (by omega)))
  replace hBp := hBp.k (oq _ (by omega))
  replace hQ := hQ.k (oq _ (by omega))
  replace hRS := hRS.k (fun q h1 h2 h3 => (oq _ (by omega)))
  replace hsz := hz1.trans hsz
  replace hZ := hZ.k (oq _ (by omega))
  replace hT := hT.k (oq _ (by omega))
  replace hFr := hFr.k (fun q h1 h2 h3 => (oq _ (by omega)))
  replace hO : OA D (a) 9 [.ref (a + 1), .ref (a + 52), .ref (a + 317), .ref (a + 326), .ref (a + 482), .ref (a + 498), .ref (a + 499), .ref (a + 564), .ref (a + 565), .ref (a + 566), .null, .null, .null, .int (iI (0))] H1 := hnew
  clear hnew oq hz1
  refine lv_aload_n hx hb dX9_init_131 rfl (lv_at hl 0 rfl) ?_
  refine pw_new (C := RX8) (T := TX8) (N := 3) (ci := 8) hx hb hts hin8 tyX8 tyX8_ok hown kl_68 ki_8 kz_8 hK hS rfl [.null, .int (iI (0)), .int (iI (0))] (fun j hj => by match j, hj with | 0, _ => rfl | 1, _ => rfl | 2, _ => rfl) (by show _ ≤ 582; omega) (by show _ ≤ 4463; omega) dX9_init_132 (fun H1 hnew hz1 oq hS => ?_)
  replace hO := hO.k (oq _ hO.lt)
  replace hMd := hMd.k (fun q h1 h2 h3 => (oq _ h3))
  replace hEq := hEq.k (fun q h1 h2 h3 => (oq _ h3))
  replace hCh := hCh.k (fun q h1 h2 h3 => (oq _ h3))
  replace hLd := hLd.k (fun q h1 h2 h3 => (oq _ h3))
  replace hRw := hRw.k (fun q h1 h2 h3 => (oq _ h3))
  replace hBp := hBp.k (oq _ hBp.lt)
  replace hQ := hQ.k (oq _ hQ.lt)
  replace hRS := hRS.k (fun q h1 h2 h3 => (oq _ h3))
  replace hZ := hZ.k (oq _ hZ.lt)
  replace hT := hT.k (oq _ hT.lt)
  replace hFr := hFr.k (fun q h1 h2 h3 => (oq _ h3))
  have hsz1 : H1.size = a + 578 := by omega
  rw [hsz] at hnew ⊢
  clear hz1 oq hsz
  have hsz := hsz1
  clear hsz1
  have hX0 := hnew
  clear hnew
  refine lv_dup hx hb dX9_init_135 rfl ?_
  refine pw_bipush hx hb dX9_init_136 ?_
  refine pw_asi (((24 : Nat) : Int)) rfl ?_
  refine pw_callI (As := [.int (iI (((24 : Nat) : Int)))]) (rest := [.ref (a + 577), .ref (a)]) ⟨hx, hb, hml, hown, hts⟩ (c_WholeI l D E (a + 577) (24) (by omega)) (cwI 1 hts gX9_init_X8_init rfl rfl rfl kz_8 km_70 kn_8 rfl (by decide +kernel) ⟨Nat.le_of_ble_eq_true rfl, Nat.le_of_ble_eq_true rfl⟩) hK (⟨hX0, hsz⟩) rfl hl.1 rfl (Nat.le_of_ble_eq_true rfl) dX9_init_138 ⟨by show _ ≤ 582; omega, by show _ ≤ 4463; omega⟩ hS (fun q h => by (try dsimp only at h); (try dsimp only); omega) (fun H1 locs1 ⟨hX0, hsz⟩ hz1 hk1 hS => ?_)
  replace hO := hO.k (hk1 _ hO.lt (by (try dsimp only); omega))
  replace hMd := hMd.k (fun q h1 h2 h3 => (hk1 _ h3 (by (try dsimp only); omega)))
  replace hEq := hEq.k (fun q h1 h2 h3 => (hk1 _ h3 (by (try dsimp only); omega)))
  replace hCh := hCh.k (fun q h1 h2 h3 => (hk1 _ h3 (by (try dsimp only); omega)))
  replace hLd := hLd.k (fun q h1 h2 h3 => (hk1 _ h3 (by (try dsimp only); omega)))
  replace hRw := hRw.k (fun q h1 h2 h3 => (hk1 _ h3 (by (try dsimp only); omega)))
  replace hBp := hBp.k (hk1 _ hBp.lt (by (try dsimp only); omega))
  replace hQ := hQ.k (hk1 _ hQ.lt (by (try dsimp only); omega))
  replace hRS := hRS.k (fun q h1 h2 h3 => (hk1 _ h3 (by (try dsimp only); omega)))
  replace hZ := hZ.k (hk1 _ hZ.lt (by (try dsimp only); omega))
  replace hT := hT.k (hk1 _ hT.lt (by (try dsimp only); omega))
  replace hFr := hFr.k (fun q h1 h2 h3 => (hk1 _ h3 (by (try dsimp only); omega)))
  clear hz1 hk1
  refine pw_putF (C := RX9) (T := TX9) (N := 14) hx hb hts hin9 tyX9 tyX9_ok nmX9 hown hK hO hS (by (try dsimp only); omega) rfl 10 (by decide) lk_71 rfl rfl hini rfl rfl rfl (by show _ < 14; decide) dX9_init_141 (fun H1 locs1 hnew hz1 oq hS => ?_)
  replace hMd := hMd.k (fun q h1 h2 h3 => (oq _ (by omega)))
  replace hEq := hEq.k (fun q h1 h2 h3 => (oq _ (by omega)))
  replace hCh := hCh.k (fun q h1 h2 h3 => (oq _ (by omega)))
  replace hLd := hLd.k (fun q h1 h2 h3 => (oq _ (by omega)))
  replace hRw := hRw.k (fun q h1 h2 h3 => (oq _ (by omega)))
  replace hBp := hBp.k (oq _ (by omega))
  replace hQ := hQ.k (oq _ (by omega))
  replace hRS := hRS.k (fun q h1 h2 h3 => (oq _ (by omega)))
  replace hsz := hz1.trans hsz
  replace hZ := hZ.k (oq _ (by omega))
  replace hT := hT.k (oq _ (by omega))
  replace hFr := hFr.k (fun q h1 h2 h3 => (oq _ (by omega)))
  replace hX0 := hX0.k (oq _ (by omega)) (oq _ (by omega))
  replace hO : OA D (a) 9 [.ref (a + 1), .ref (a + 52), .ref (a + 317), .ref (a + 326), .ref (a + 482), .ref (a + 498), .ref (a + 499), .ref (a + 564), .ref (a + 565), .ref (a + 566), .ref (a + 577), .null, .null, .int (iI (0))] H1 := hnew
  clear hnew oq hz1
  refine lv_aload_n hx hb dX9_init_144 rfl (lv_at hl 0 rfl) ?_
  refine pw_new (C := RX8) (T := TX8) (N := 3) (ci := 8) hx hb hts hin8 tyX8 tyX8_ok hown kl_68 ki_8 kz_8 hK hS rfl [.null, .int (iI (0)), .int (iI (0))] (fun j hj => by match j, hj with | 0, _ => rfl | 1, _ => rfl | 2, _ => rfl) (by show _ ≤ 582; omega) (by show _ ≤ 4463; omega) dX9_init_145 (fun H1 hnew hz1 oq hS => ?_)
  replace hO := hO.k (oq _ hO.lt)
  replace hMd := hMd.k (fun q h1 h2 h3 => (oq _ h3))
  replace hEq := hEq.k (fun q h1 h2 h3 => (oq _ h3))
  replace hCh := hCh.k (fun q h1 h2 h3 => (oq _ h3))
  replace hLd := hLd.k (fun q h1 h2 h3 => (oq _ h3))
  replace hRw := hRw.k (fun q h1 h2 h3 => (oq _ h3))
  replace hBp := hBp.k (oq _ hBp.lt)
  replace hQ := hQ.k (oq _ hQ.lt)
  replace hRS := hRS.k (fun q h1 h2 h3 => (oq _ h3))
  replace hZ := hZ.k (oq _ hZ.lt)
  replace hT := hT.k (oq _ hT.lt)
  replace hFr := hFr.k (fun q h1 h2 h3 => (oq _ h3))
  replace hX0 := hX0.k (oq _ (by have := hX0.lt; omega)) (oq _ hX0.lt)
  have hsz1 : H1.size = a + 580 := by omega
  rw [hsz] at hnew ⊢
  clear hz1 oq hsz
  have hsz := hsz1
  clear hsz1
  have hX1 := hnew
  clear hnew
  refine lv_dup hx hb dX9_init_148 rfl ?_
  refine pw_bipush hx hb dX9_init_149 ?_
  refine pw_asi (((24 : Nat) : Int)) rfl ?_
  refine pw_callI (As := [.int (iI (((24 : Nat) : Int)))]) (rest := [.ref (a + 579), .ref (a)]) ⟨hx, hb, hml, hown, hts⟩ (c_WholeI l D E (a + 579) (24) (by omega)) (cwI 1 hts gX9_init_X8_init rfl rfl rfl kz_8 km_70 kn_8 rfl (by decide +kernel) ⟨Nat.le_of_ble_eq_true rfl, Nat.le_of_ble_eq_true rfl⟩) hK (⟨hX1, hsz⟩) rfl hl.1 rfl (Nat.le_of_ble_eq_true rfl) dX9_init_151 ⟨by show _ ≤ 582; omega, by show _ ≤ 4463; omega⟩ hS (fun q h => by (try dsimp only at h); (try dsimp only); omega) (fun H1 locs1 ⟨hX1, hsz⟩ hz1 hk1 hS => ?_)
  replace hO := hO.k (hk1 _ hO.lt (by (try dsimp only); omega))
  replace hMd := hMd.k (fun q h1 h2 h3 => (hk1 _ h3 (by (try dsimp only); omega)))
  replace hEq := hEq.k (fun q h1 h2 h3 => (hk1 _ h3 (by (try dsimp only); omega)))
  replace hCh := hCh.k (fun q h1 h2 h3 => (hk1 _ h3 (by (try dsimp only); omega)))
  replace hLd := hLd.k (fun q h1 h2 h3 => (hk1 _ h3 (by (try dsimp only); omega)))
  replace hRw := hRw.k (fun q h1 h2 h3 => (hk1 _ h3 (by (try dsimp only); omega)))
  replace hBp := hBp.k (hk1 _ hBp.lt (by (try dsimp only); omega))
  replace hQ := hQ.k (hk1 _ hQ.lt (by (try dsimp only); omega))
  replace hRS := hRS.k (fun q h1 h2 h3 => (hk1 _ h3 (by (try dsimp only); omega)))
  replace hZ := hZ.k (hk1 _ hZ.lt (by (try dsimp only); omega))
  replace hT := hT.k (hk1 _ hT.lt (by (try dsimp only); omega))
  replace hFr := hFr.k (fun q h1 h2 h3 => (hk1 _ h3 (by (try dsimp only); omega)))
  replace hX0 := hX0.k (hk1 _ (by have := hX0.lt; omega) (by (try dsimp only); omega)) (hk1 _ hX0.lt (by (try dsimp only); omega))
  clear hz1 hk1
  refine pw_putF (C := RX9) (T := TX9) (N := 14) hx hb hts hin9 tyX9 tyX9_ok nmX9 hown hK hO hS (by (try dsimp only); omega) rfl 11 (by decide) lk_75 rfl rfl hini rfl rfl rfl (by show _ < 14; decide) dX9_init_154 (fun H1 locs1 hnew hz1 oq hS => ?_)
  replace hMd := hMd.k (fun q h1 h2 h3 => (oq _ (by omega)))
  replace hEq := hEq.k (fun q h1 h2 h3 => (oq _ (by omega)))
  replace hCh := hCh.k (fun q h1 h2 h3 => (oq _ (by omega)))
  replace hLd := hLd.k (fun q h1 h2 h3 => (oq _ (by omega)))
  replace hRw := hRw.k (fun q h1 h2 h3 => (oq _ (by omega)))
  replace hBp := hBp.k (oq _ (by omega))
  replace hQ := hQ.k (oq _ (by omega))
  replace hRS := hRS.k (fun q h1 h2 h3 => (oq _ (by omega)))
  replace hsz := hz1.trans hsz
  replace hZ := hZ.k (oq _ (by omega))
  replace hT := hT.k (oq _ (by omega))
  replace hFr := hFr.k (fun q h1 h2 h3 => (oq _ (by omega)))
  replace hX0 := hX0.k (oq _ (by omega)) (oq _ (by omega))
  replace hX1 := hX1.k (oq _ (by omega)) (oq _ (by omega))
  replace hO : OA D (a) 9 [.ref (a + 1), .ref (a + 52), .ref (a + 317), .ref (a + 326), .ref (a + 482), .ref (a + 498), .ref (a + 499), .ref (a + 564), .ref (a + 565), .ref (a + 566), .ref (a + 577), .ref (a + 579), .null, .int (iI (0))] H1 := hnew
  clear hnew oq hz1
  refine lv_aload_n hx hb dX9_init_157 rfl (lv_at hl 0 rfl) ?_
  refine pw_new (C := RX8) (T := TX8) (N := 3) (ci := 8) hx hb hts hin8 tyX8 tyX8_ok hown kl_68 ki_8 kz_8 hK hS rfl [.null, .int (iI (0)), .int (iI (0))] (fun j hj => by match j, hj with | 0, _ => rfl | 1, _ => rfl | 2, _ => rfl) (by show _ ≤ 582; omega) (by show _ ≤ 4463; omega) dX9_init_158 (fun H1 hnew hz1 oq hS => ?_)
  replace hO := hO.k (oq _ hO.lt)
  replace hMd := hMd.k (fun q h1 h2 h3 => (oq _ h3))
  replace hEq := hEq.k (fun q h1 h2 h3 => (oq _ h3))
  replace hCh := hCh.k (fun q h1 h2 h3 => (oq _ h3))
  replace hLd := hLd.k (fun q h1 h2 h3 => (oq _ h3))
  replace hRw := hRw.k (fun q h1 h2 h3 => (oq _ h3))
  replace hBp := hBp.k (oq _ hBp.lt)
  replace hQ := hQ.k (oq _ hQ.lt)
  replace hRS := hRS.k (fun q h1 h2 h3 => (oq _ h3))
  replace hZ := hZ.k (oq _ hZ.lt)
  replace hT := hT.k (oq _ hT.lt)
  replace hFr := hFr.k (fun q h1 h2 h3 => (oq _ h3))
  replace hX0 := hX0.k (oq _ (by have := hX0.lt; omega)) (oq _ hX0.lt)
  replace hX1 := hX1.k (oq _ (by have := hX1.lt; omega)) (oq _ hX1.lt)
  have hsz1 : H1.size = a + 582 := by omega
  rw [hsz] at hnew ⊢
  clear hz1 oq hsz
  have hsz := hsz1
  clear hsz1
  have hX2 := hnew
  clear hnew
  refine lv_dup hx hb dX9_init_161 rfl ?_
  refine pw_bipush hx hb dX9_init_162 ?_
  refine pw_asi (((24 : Nat) : Int)) rfl ?_
  refine pw_callI (As := [.int (iI (((24 : Nat) : Int)))]) (rest := [.ref (a + 581), .ref (a)]) ⟨hx, hb, hml, hown, hts⟩ (c_WholeI l D E (a + 581) (24) (by omega)) (cwI 1 hts gX9_init_X8_init rfl rfl rfl kz_8 km_70 kn_8 rfl (by decide +kernel) ⟨Nat.le_of_ble_eq_true rfl, Nat.le_of_ble_eq_true rfl⟩) hK (⟨hX2, hsz⟩) rfl hl.1 rfl (Nat.le_of_ble_eq_true rfl) dX9_init_164 ⟨by show _ ≤ 582; omega, by show _ ≤ 4463; omega⟩ hS (fun q h => by (try dsimp only at h); (try dsimp only); omega) (fun H1 locs1 ⟨hX2, hsz⟩ hz1 hk1 hS => ?_)
  replace hO := hO.k (hk1 _ hO.lt (by (try dsimp only); omega))
  replace hMd := hMd.k (fun q h1 h2 h3 => (hk1 _ h3 (by (try dsimp only); omega)))
  replace hEq := hEq.k (fun q h1 h2 h3 => (hk1 _ h3 (by (try dsimp only); omega)))
  replace hCh := hCh.k (fun q h1 h2 h3 => (hk1 _ h3 (by (try dsimp only); omega)))
  replace hLd := hLd.k (fun q h1 h2 h3 => (hk1 _ h3 (by (try dsimp only); omega)))
  replace hRw := hRw.k (fun q h1 h2 h3 => (hk1 _ h3 (by (try dsimp only); omega)))
  replace hBp := hBp.k (hk1 _ hBp.lt (by (try dsimp only); omega))
  replace hQ := hQ.k (hk1 _ hQ.lt (by (try dsimp only); omega))
  replace hRS := hRS.k (fun q h1 h2 h3 => (hk1 _ h3 (by (try dsimp only); omega)))
  replace hZ := hZ.k (hk1 _ hZ.lt (by (try dsimp only); omega))
  replace hT := hT.k (hk1 _ hT.lt (by (try dsimp only); omega))
  replace hFr := hFr.k (fun q h1 h2 h3 => (hk1 _ h3 (by (try dsimp only); omega)))
  replace hX0 := hX0.k (hk1 _ (by have := hX0.lt; omega) (by (try dsimp only); omega)) (hk1 _ hX0.lt (by (try dsimp only); omega))
  replace hX1 := hX1.k (hk1 _ (by have := hX1.lt; omega) (by (try dsimp only); omega)) (hk1 _ hX1.lt (by (try dsimp only); omega))
  clear hz1 hk1
  refine pw_putF (C := RX9) (T := TX9) (N := 14) hx hb hts hin9 tyX9 tyX9_ok nmX9 hown hK hO hS (by (try dsimp only); omega) rfl 12 (by decide) lk_78 rfl rfl hini rfl rfl rfl (by show _ < 14; decide) dX9_init_167 (fun H1 locs1 hnew hz1 oq hS => ?_)
  replace hMd := hMd.k (fun q h1 h2 h3 => (oq _ (by omega)))
  replace hEq := hEq.k (fun q h1 h2 h3 => (oq _ (by omega)))
  replace hCh := hCh.k (fun q h1 h2 h3 => (oq _ (by omega)))
  replace hLd := hLd.k (fun q h1 h2 h3 => (oq _ (by omega)))
  replace hRw := hRw.k (fun q h1 h2 h3 => (oq _ (by omega)))
  replace hBp := hBp.k (oq _ (by omega))
  replace hQ := hQ.k (oq _ (by omega))
  replace hRS := hRS.k (fun q h1 h2 h3 => (oq _ (by omega)))
  replace hsz := hz1.trans hsz
  replace hZ := hZ.k (oq _ (by omega))
  replace hT := hT.k (oq _ (by omega))
  replace hFr := hFr.k (fun q h1 h2 h3 => (oq _ (by omega)))
  replace hX0 := hX0.k (oq _ (by omega)) (oq _ (by omega))
  replace hX1 := hX1.k (oq _ (by omega)) (oq _ (by omega))
  replace hX2 := hX2.k (oq _ (by omega)) (oq _ (by omega))
  replace hO : OA D (a) 9 [.ref (a + 1), .ref (a + 52), .ref (a + 317), .ref (a + 326), .ref (a + 482), .ref (a + 498), .ref (a + 499), .ref (a + 564), .ref (a + 565), .ref (a + 566), .ref (a + 577), .ref (a + 579), .ref (a + 581), .int (iI (0))] H1 := hnew
  clear hnew oq hz1
  refine lv_aload_n hx hb dX9_init_170 rfl (lv_at hl 0 rfl) ?_
  refine pw_iconst hx hb dX9_init_171 ?_
  refine pw_put (C := RX9) (T := TX9) (N := 14) hx hb hts hin9 tyX9 tyX9_ok nmX9 hown hK hO hS (by (try dsimp only); omega) rfl 13 (by decide) lk_81 rfl rfl rfl rfl (by show _ < 14; decide) dX9_init_172 (fun H1 locs1 hnew hz1 oq hS => ?_)
  replace hMd := hMd.k (fun q h1 h2 h3 => (oq _ (by omega)))
  replace hEq := hEq.k (fun q h1 h2 h3 => (oq _ (by omega)))
  replace hCh := hCh.k (fun q h1 h2 h3 => (oq _ (by omega)))
  replace hLd := hLd.k (fun q h1 h2 h3 => (oq _ (by omega)))
  replace hRw := hRw.k (fun q h1 h2 h3 => (oq _ (by omega)))
  replace hBp := hBp.k (oq _ (by omega))
  replace hQ := hQ.k (oq _ (by omega))
  replace hRS := hRS.k (fun q h1 h2 h3 => (oq _ (by omega)))
  replace hsz := hz1.trans hsz
  replace hZ := hZ.k (oq _ (by omega))
  replace hT := hT.k (oq _ (by omega))
  replace hFr := hFr.k (fun q h1 h2 h3 => (oq _ (by omega)))
  replace hX0 := hX0.k (oq _ (by omega)) (oq _ (by omega))
  replace hX1 := hX1.k (oq _ (by omega)) (oq _ (by omega))
  replace hX2 := hX2.k (oq _ (by omega)) (oq _ (by omega))
  replace hO : OA D (a) 9 [.ref (a + 1), .ref (a + 52), .ref (a + 317), .ref (a + 326), .ref (a + 482), .ref (a + 498), .ref (a + 499), .ref (a + 564), .ref (a + 565), .ref (a + 566), .ref (a + 577), .ref (a + 579), .ref (a + 581), .int (iI (0))] H1 := hnew
  clear hnew oq hz1
  refine pw_cs (cells' := 582) (slots' := 4463) (by omega) (by omega) ?_
  exact pw_vret hx hb hr hlocks hS ⟨⟨fun _ => 0, 0, fun _ => 0, fun _ _ => 0, fun _ => 0, fun _ => 0, 0, fun _ _ => 0, fun _ => 0, fun _ _ => 0, ⟨hO, hMd, ⟨_, _, hEq⟩, ⟨_, _, _, _, _, _, hCh⟩, hLd, hRw, hBp, hQ.up (fun j hj => hf j hj), fun k hk _ => hRS k hk, hZ, ⟨_, hT⟩, ⟨_, _, _, _, _, hFr⟩, ⟨_, hX0⟩, ⟨_, hX1⟩, ⟨_, hX2⟩⟩, INV0 σ0_ok⟩, hsz⟩ dX9_init_175
set_option maxHeartbeats 4000000 in
set_option maxRecDepth 100000 in
/-- PolicyWorks(), its loop -/
theorem c_PolicyI_loop (l : Launch) (D : va_G) (E : Nat → ClassId) (a : Nat) {p : Program} {e : Env} {s : State} {m : MethodId} {args : Array Value} {below : List Frame} {meth : Method} {c : Code} (hx : p.tables.exec = Jvm.exec) (hb : c.code = cX9_init) (hr : meth.sig.returnType = none) (hml : c.maxLocals = 2) (hts : ∀ w ∈ wsX9_init, w.before args s = true) (hown : s.vm.findClass RX9 = some m.cls) (hlocks : meth.locks = false) (hini : meth.name = "<init>") (hK : KK D E s) (hAO : AOs s) : ∀ (kk k : Nat) (f : Nat → Option Nat) (H : Heap) (locs : List Loc) (ls : Array Slot), k + kk = 4 → (∀ j, j < k → f j = some (a + 500 + 16 * j)) → OA D a 9 [.ref (a + 1), .ref (a + 52), .ref (a + 317), .ref (a + 326), .ref (a + 482), .ref (a + 498), .ref (a + 499), .null, .null, .null, .null, .null, .null, .int (iI (0))] H → MO D E (a + 1) σ0 H → EQ D E (a + 52) (fun _ _ => 0) (fun _ => 0) H → CH D E (a + 317) (a + 317 + 1) (a + 317 + 4) 0 1 0 1 H → LD D E (a + 326) 0 (fun _ _ => 0) (fun _ => 0) (fun _ _ => 0) H → RW D E (a + 482) 8 (fun _ => 0) 0 H → IA E (a + 498) 6 (fun _ => 0) H → QA E 4 (a + 499) 4 f H → RWS D E (a + 500) 8 k H → H.size = a + 500 + 16 * k → va_S (fun q => a ≤ q) s.heap H locs → lv_has ls 2 [(0, .ref (a)), (1, .int (iI ((k : Int))))] → W p l e ({ frames := 4, cells := 582, slots := 4463, locals := 84 } : Room) s m args below meth c H locs (499 + 16 * k) (3892 + k * 85) (MQ below (pw_Q rvV (fun _ H => PO D E a σ0 0 H ∧ H.size = a + 583) (fun q => a ≤ q)) args s (582) (4463) (fun q => a ≤ q)) (F0 m 79 ls []) := by
  have lk_50 := hts (.fieldLink RX9 50 "PolicyWorks" "worths" "[LPolicyWorks$Row;") (by decide +kernel)
  have hin9 : ∀ w ∈ wsX90, w ∈ wsX9_init := by decide +kernel
  have hin7 : ∀ w ∈ wsX70, w ∈ wsX9_init := by decide +kernel
  have ki_7 := hts (.instantiable RX7 2) (by decide +kernel)
  have kl_37 := hts (.classLink RX9 37 RX7) (by decide +kernel)
  have km_39 := hts (.methodLink RX9 39 yX7_init) (by decide +kernel)
  have kn_7 := hts (.instanceMethod yX7_init) (by decide +kernel)
  have kz_7 := hts (.initialized RX7) (by decide +kernel)
  intro kk
  induction kk with
  | zero =>
    intro k f H locs ls hk hf hO hMd hEq hCh hLd hRw hBp hQ hRS hsz hS hl
    exact c_PolicyI_tail l D E a hx hb hr hml hts hown hlocks hini hK hAO k f H locs ls (by omega) hf hO hMd hEq hCh hLd hRw hBp hQ hRS hsz hS hl
  | succ kk ih =>
    intro k f H locs ls hk hf hO hMd hEq hCh hLd hRw hBp hQ hRS hsz hS hl
    refine lv_iload_n hx hb dX9_init_79 rfl (lv_at hl 1 rfl) ?_
    refine pw_iconst hx hb dX9_init_80 ?_
    refine pw_icmp_ge (tgt := 105) hx hb dX9_init_81 (by decide) (fun c_81 => absurd c_81 (by omega)) (fun c_81 => ?_)
    refine lv_aload_n hx hb dX9_init_84 rfl (lv_at hl 0 rfl) ?_
    refine pw_get (C := RX9) (T := TX9) (N := 14) hx hb hts hin9 hown hK hO rfl 6 (by decide) lk_50 rfl rfl dX9_init_85 ?_
    refine lv_iload_n hx hb dX9_init_88 rfl (lv_at hl 1 rfl) ?_
    refine pw_new (C := RX7) (T := TX7) (N := 2) (ci := 7) hx hb hts hin7 tyX7 tyX7_ok hown kl_37 ki_7 kz_7 hK hS rfl [.null, .null] (fun j hj => by match j, hj with | 0, _ => rfl | 1, _ => rfl) (by show _ ≤ 582; omega) (by show _ ≤ 4463; omega) dX9_init_89 (fun H1 hnew hz1 oq hS => ?_)
    replace hO := hO.k (oq _ hO.lt)
    replace hMd := hMd.k (fun q h1 h2 h3 => (oq _ h3))
    replace hEq := hEq.k (fun q h1 h2 h3 => (oq _ h3))
    replace hCh := hCh.k (fun q h1 h2 h3 => (oq _ h3))
    replace hLd := hLd.k (fun q h1 h2 h3 => (oq _ h3))
    replace hRw := hRw.k (fun q h1 h2 h3 => (oq _ h3))
    replace hBp := hBp.k (oq _ hBp.lt)
    replace hQ := hQ.k (oq _ hQ.lt)
    replace hRS := hRS.k (fun q h1 h2 h3 => (oq _ h3))
    have hsz1 : H1.size = a + 500 + 16 * k + 1 := by omega
    rw [hsz] at hnew ⊢
    clear hz1 oq hsz
    have hsz := hsz1
    clear hsz1
    have hW := hnew
    clear hnew
    refine lv_dup hx hb dX9_init_92 rfl ?_
    refine pw_bipush hx hb dX9_init_93 ?_
    refine pw_asi (((8 : Nat) : Int)) rfl ?_
    refine pw_callIN (As := [.int (iI (((8 : Nat) : Int)))]) (rest := [.ref (a + 500 + 16 * k), .int (iI ((k : Int))), .ref (a + 499)]) ⟨hx, hb, hml, hown, hts⟩ (c_RowI l D E (a + 500 + 16 * k) 8 (by omega)) (cwI 1 hts gX9_init_X7_init rfl rfl rfl kz_7 km_39 kn_7 rfl (by decide +kernel) ⟨Nat.le_of_ble_eq_true rfl, Nat.le_of_ble_eq_true rfl⟩) hK hAO (⟨hW, hsz⟩) rfl hl.1 rfl (Nat.le_of_ble_eq_true rfl) dX9_init_95 ⟨by show _ ≤ 582; omega, by show _ ≤ 4463; omega⟩ hS (fun q h => by (try dsimp only at h); (try dsimp only); omega) (fun H1 locs1 ⟨hW, hsz⟩ hz1 hk1 hS => ?_)
    replace hO := hO.k (hk1 _ hO.lt (by (try dsimp only); omega))
    replace hMd := hMd.k (fun q h1 h2 h3 => (hk1 _ h3 (by (try dsimp only); omega)))
    replace hEq := hEq.k (fun q h1 h2 h3 => (hk1 _ h3 (by (try dsimp only); omega)))
    replace hCh := hCh.k (fun q h1 h2 h3 => (hk1 _ h3 (by (try dsimp only); omega)))
    replace hLd := hLd.k (fun q h1 h2 h3 => (hk1 _ h3 (by (try dsimp only); omega)))
    replace hRw := hRw.k (fun q h1 h2 h3 => (hk1 _ h3 (by (try dsimp only); omega)))
    replace hBp := hBp.k (hk1 _ hBp.lt (by (try dsimp only); omega))
    replace hQ := hQ.k (hk1 _ hQ.lt (by (try dsimp only); omega))
    replace hRS := hRS.k (fun q h1 h2 h3 => (hk1 _ h3 (by (try dsimp only); omega)))
    clear hz1 hk1
    refine pw_qast hx hb hK hQ rfl hS (by (try dsimp only); omega) (hW.1) rfl (k) rfl (by omega) (by omega) dX9_init_98 (fun H1 locs1 hnew hz1 oq hS => ?_)
    replace hO := hO.k (oq _ (by omega))
    replace hMd := hMd.k (fun q h1 h2 h3 => (oq _ (by omega)))
    replace hEq := hEq.k (fun q h1 h2 h3 => (oq _ (by omega)))
    replace hCh := hCh.k (fun q h1 h2 h3 => (oq _ (by omega)))
    replace hLd := hLd.k (fun q h1 h2 h3 => (oq _ (by omega)))
    replace hRw := hRw.k (fun q h1 h2 h3 => (oq _ (by omega)))
    replace hBp := hBp.k (oq _ (by omega))
    replace hRS := hRS.k (fun q h1 h2 h3 => (oq _ (by omega)))
    replace hsz := hz1.trans hsz
    replace hW := hW.k (fun q h1 h2 h3 => (oq _ (by omega)))
    have hQ := hnew
    clear hnew oq hz1
    refine lv_iinc (v := iI (((k + 1 : Nat) : Int))) (lv' := [(1, .int (iI (((k + 1 : Nat) : Int)))), (0, .ref (a))]) hx hb dX9_init_99 hl (k := 1) rfl (by show iI _ + iI _ = _; exact (iI_add _ _).trans (by first | rfl | (congr 1; omega))) (by decide) rfl (fun ls hl => ?_)
    refine lv_goto (tgt := 79) hx hb dX9_init_102 (by decide) ?_
    refine pw_cs (cells' := 499 + 16 * (k + 1)) (slots' := 3892 + (k + 1) * 85) (by omega) (by omega) ?_
    exact ih (k + 1) _ _ _ _ (by omega) (uq_ext hf rfl) hO hMd hEq hCh hLd hRw hBp hQ (hRS.up hW) (by omega) hS (lv_sub hl [1, 0] rfl)
set_option maxHeartbeats 4000000 in
set_option maxRecDepth 100000 in
/-- PolicyWorks() -/
theorem c_PolicyI (l : Launch) (D : va_G) (E : Nat → ClassId) (a : Nat) : pw_N rvV l D E yX9_init wsX9_init ({ frames := 4, cells := 582, slots := 4463, locals := 84 } : Room) [.ref (a)] (fun H => OA D (a) 9 [.null, .null, .null, .null, .null, .null, .null, .null, .null, .null, .null, .null, .null, .int (iI (0))] H ∧ H.size = a + 1) (fun _ H => PO D E a σ0 0 H ∧ H.size = a + 583) (fun q => a ≤ q) (582) (4463) := by
  refine pw_Nof (cc := cX9_init) (maxL := 2) (ret := none) (by decide +kernel) rfl (Nat.le_of_ble_eq_true rfl) ?_
  intro p e s m args below meth c hx hb hr hml hts hown hlocks hini hK hAO ⟨hO, hsz⟩ ls hl
  have hown : s.vm.findClass RX9 = some m.cls := hown
  have hl : lv_has ls 2 [(0, .ref (a))] := hl
  have hS : va_S (fun q => a ≤ q) s.heap s.heap [] := va_S.rf
  have lk_10 := hts (.fieldLink RX9 10 "PolicyWorks" "model" "LPolicyWorks$Model;") (by decide +kernel)
  have lk_19 := hts (.fieldLink RX9 19 "PolicyWorks" "equations" "LPolicyWorks$Equations;") (by decide +kernel)
  have lk_26 := hts (.fieldLink RX9 26 "PolicyWorks" "chooser" "LPolicyWorks$Chooser;") (by decide +kernel)
  have lk_33 := hts (.fieldLink RX9 33 "PolicyWorks" "ladder" "LPolicyWorks$Ladder;") (by decide +kernel)
  have lk_42 := hts (.fieldLink RX9 42 "PolicyWorks" "bestValues" "LPolicyWorks$Row;") (by decide +kernel)
  have lk_46 := hts (.fieldLink RX9 46 "PolicyWorks" "bestPolicy" "[I") (by decide +kernel)
  have lk_50 := hts (.fieldLink RX9 50 "PolicyWorks" "worths" "[LPolicyWorks$Row;") (by decide +kernel)
  have hin9 : ∀ w ∈ wsX90, w ∈ wsX9_init := by decide +kernel
  have hin1 : ∀ w ∈ wsX10, w ∈ wsX9_init := by decide +kernel
  have hin2 : ∀ w ∈ wsX20, w ∈ wsX9_init := by decide +kernel
  have hin5 : ∀ w ∈ wsX50, w ∈ wsX9_init := by decide +kernel
  have hin6 : ∀ w ∈ wsX60, w ∈ wsX9_init := by decide +kernel
  have hin7 : ∀ w ∈ wsX70, w ∈ wsX9_init := by decide +kernel
  have ka_int := hts (.arrayClass .int) (by decide +kernel)
  have ki_1 := hts (.instantiable RX1 3) (by decide +kernel)
  have ki_2 := hts (.instantiable RX2 2) (by decide +kernel)
  have ki_5 := hts (.instantiable RX5 3) (by decide +kernel)
  have ki_6 := hts (.instantiable RX6 5) (by decide +kernel)
  have ki_7 := hts (.instantiable RX7 2) (by decide +kernel)
  have kl_16 := hts (.classLink RX9 16 RX2) (by decide +kernel)
  have kl_23 := hts (.classLink RX9 23 RX1) (by decide +kernel)
  have kl_30 := hts (.classLink RX9 30 RX5) (by decide +kernel)
  have kl_37 := hts (.classLink RX9 37 RX7) (by decide +kernel)
  have kl_7 := hts (.classLink RX9 7 RX6) (by decide +kernel)
  have km_18 := hts (.methodLink RX9 18 yX2_init) (by decide +kernel)
  have km_25 := hts (.methodLink RX9 25 yX1_init) (by decide +kernel)
  have km_32 := hts (.methodLink RX9 32 yX5_init) (by decide +kernel)
  have km_39 := hts (.methodLink RX9 39 yX7_init) (by decide +kernel)
  have km_9 := hts (.methodLink RX9 9 yX6_init) (by decide +kernel)
  have kn_1 := hts (.instanceMethod yX1_init) (by decide +kernel)
  have kn_2 := hts (.instanceMethod yX2_init) (by decide +kernel)
  have kn_5 := hts (.instanceMethod yX5_init) (by decide +kernel)
  have kn_6 := hts (.instanceMethod yX6_init) (by decide +kernel)
  have kn_7 := hts (.instanceMethod yX7_init) (by decide +kernel)
  have ko_1 := hts (.methodLink RX9 1 objectInit) (by decide +kernel)
  have ko_2 := hts (.instanceMethod objectInit) (by decide +kernel)
  have ko_3 := hts (.code objectInit ⟨#[0xb1]⟩ 1 none) (by decide +kernel)
  have kz_1 := hts (.initialized RX1) (by decide +kernel)
  have kz_2 := hts (.initialized RX2) (by decide +kernel)
  have kz_5 := hts (.initialized RX5) (by decide +kernel)
  have kz_6 := hts (.initialized RX6) (by decide +kernel)
  have kz_7 := hts (.initialized RX7) (by decide +kernel)
  have loop := c_PolicyI_loop l D E a hx hb hr hml hts hown hlocks hini hK hAO (below := below) (e := e)
  refine lv_aload_n hx hb dX9_init_0 rfl (lv_at hl 0 rfl) ?_
  refine pw_objI hx hb hml hown ko_1 ko_2 ko_3 hl.1 dX9_init_1 ⟨Nat.le_of_ble_eq_true rfl, Nat.le_of_ble_eq_true rfl⟩ ?_
  refine lv_aload_n hx hb dX9_init_4 rfl (lv_at hl 0 rfl) ?_
  refine pw_new (C := RX6) (T := TX6) (N := 5) (ci := 6) hx hb hts hin6 tyX6 tyX6_ok hown kl_7 ki_6 kz_6 hK hS rfl [.null, .null, .int (iI (0)), .int (iI (0)), .int (iI (0))] (fun j hj => by match j, hj with | 0, _ => rfl | 1, _ => rfl | 2, _ => rfl | 3, _ => rfl | 4, _ => rfl) (by show _ ≤ 582; omega) (by show _ ≤ 4463; omega) dX9_init_5 (fun H1 hnew hz1 oq hS => ?_)
  replace hO := hO.k (oq _ hO.lt)
  have hsz1 : H1.size = a + 2 := by omega
  rw [hsz] at hnew ⊢
  clear hz1 oq hsz
  have hsz := hsz1
  clear hsz1
  have hMd := hnew
  clear hnew
  refine lv_dup hx hb dX9_init_8 rfl ?_
  refine pw_callIN (As := []) (rest := [.ref (a + 1), .ref (a)]) ⟨hx, hb, hml, hown, hts⟩ (c_ModelI l D E (a + 1)) (cwI 0 hts gX9_init_X6_init rfl rfl rfl kz_6 km_9 kn_6 rfl (by decide +kernel) ⟨Nat.le_of_ble_eq_true rfl, Nat.le_of_ble_eq_true rfl⟩) hK hAO (⟨hMd, hsz⟩) rfl hl.1 rfl (Nat.le_of_ble_eq_true rfl) dX9_init_9 ⟨by show _ ≤ 582; omega, by show _ ≤ 4463; omega⟩ hS (fun q h => by (try dsimp only at h); (try dsimp only); omega) (fun H1 locs1 ⟨hMd, hsz⟩ hz1 hk1 hS => ?_)
  replace hO := hO.k (hk1 _ hO.lt (by (try dsimp only); omega))
  clear hz1 hk1
  refine pw_putF (C := RX9) (T := TX9) (N := 14) hx hb hts hin9 tyX9 tyX9_ok nmX9 hown hK hO hS (by (try dsimp only); omega) rfl 0 (by decide) lk_10 rfl rfl hini rfl rfl rfl (by show _ < 14; decide) dX9_init_12 (fun H1 locs1 hnew hz1 oq hS => ?_)
  replace hsz := hz1.trans hsz
  replace hMd := hMd.k (fun q h1 h2 h3 => (oq _ (by omega)))
  replace hO : OA D (a) 9 [.ref (a + 1), .null, .null, .null, .null, .null, .null, .null, .null, .null, .null, .null, .null, .int (iI (0))] H1 := hnew
  clear hnew oq hz1
  refine lv_aload_n hx hb dX9_init_15 rfl (lv_at hl 0 rfl) ?_
  refine pw_new (C := RX2) (T := TX2) (N := 2) (ci := 2) hx hb hts hin2 tyX2 tyX2_ok hown kl_16 ki_2 kz_2 hK hS rfl [.null, .null] (fun j hj => by match j, hj with | 0, _ => rfl | 1, _ => rfl) (by show _ ≤ 582; omega) (by show _ ≤ 4463; omega) dX9_init_16 (fun H1 hnew hz1 oq hS => ?_)
  replace hO := hO.k (oq _ hO.lt)
  replace hMd := hMd.k (fun q h1 h2 h3 => (oq _ h3))
  have hsz1 : H1.size = a + 53 := by omega
  rw [hsz] at hnew ⊢
  clear hz1 oq hsz
  have hsz := hsz1
  clear hsz1
  have hEq := hnew
  clear hnew
  refine lv_dup hx hb dX9_init_19 rfl ?_
  refine pw_callIN (As := []) (rest := [.ref (a + 52), .ref (a)]) ⟨hx, hb, hml, hown, hts⟩ (c_EquationsI l D E (a + 52)) (cwI 0 hts gX9_init_X2_init rfl rfl rfl kz_2 km_18 kn_2 rfl (by decide +kernel) ⟨Nat.le_of_ble_eq_true rfl, Nat.le_of_ble_eq_true rfl⟩) hK hAO (⟨hEq, hsz⟩) rfl hl.1 rfl (Nat.le_of_ble_eq_true rfl) dX9_init_20 ⟨by show _ ≤ 582; omega, by show _ ≤ 4463; omega⟩ hS (fun q h => by (try dsimp only at h); (try dsimp only); omega) (fun H1 locs1 ⟨hEq, hsz⟩ hz1 hk1 hS => ?_)
  replace hO := hO.k (hk1 _ hO.lt (by (try dsimp only); omega))
  replace hMd := hMd.k (fun q h1 h2 h3 => (hk1 _ h3 (by (try dsimp only); omega)))
  clear hz1 hk1
  refine pw_putF (C := RX9) (T := TX9) (N := 14) hx hb hts hin9 tyX9 tyX9_ok nmX9 hown hK hO hS (by (try dsimp only); omega) rfl 1 (by decide) lk_19 rfl rfl hini rfl rfl rfl (by show _ < 14; decide) dX9_init_23 (fun H1 locs1 hnew hz1 oq hS => ?_)
  replace hsz := hz1.trans hsz
  replace hMd := hMd.k (fun q h1 h2 h3 => (oq _ (by omega)))
  replace hEq := hEq.k (fun q h1 h2 h3 => (oq _ (by omega)))
  replace hO : OA D (a) 9 [.ref (a + 1), .ref (a + 52), .null, .null, .null, .null, .null, .null, .null, .null, .null, .null, .null, .int (iI (0))] H1 := hnew
  clear hnew oq hz1
  refine lv_aload_n hx hb dX9_init_26 rfl (lv_at hl 0 rfl) ?_
  refine pw_new (C := RX1) (T := TX1) (N := 3) (ci := 1) hx hb hts hin1 tyX1 tyX1_ok hown kl_23 ki_1 kz_1 hK hS rfl [.null, .null, .null] (fun j hj => by match j, hj with | 0, _ => rfl | 1, _ => rfl | 2, _ => rfl) (by show _ ≤ 582; omega) (by show _ ≤ 4463; omega) dX9_init_27 (fun H1 hnew hz1 oq hS => ?_)
  replace hO := hO.k (oq _ hO.lt)
  replace hMd := hMd.k (fun q h1 h2 h3 => (oq _ h3))
  replace hEq := hEq.k (fun q h1 h2 h3 => (oq _ h3))
  have hsz1 : H1.size = a + 318 := by omega
  rw [hsz] at hnew ⊢
  clear hz1 oq hsz
  have hsz := hsz1
  clear hsz1
  have hCh := hnew
  clear hnew
  refine lv_dup hx hb dX9_init_30 rfl ?_
  refine pw_callI (As := []) (rest := [.ref (a + 317), .ref (a)]) ⟨hx, hb, hml, hown, hts⟩ (c_ChooserI l D E (a + 317)) (cwI 0 hts gX9_init_X1_init rfl rfl rfl kz_1 km_25 kn_1 rfl (by decide +kernel) ⟨Nat.le_of_ble_eq_true rfl, Nat.le_of_ble_eq_true rfl⟩) hK (⟨hCh, hsz⟩) rfl hl.1 rfl (Nat.le_of_ble_eq_true rfl) dX9_init_31 ⟨by show _ ≤ 582; omega, by show _ ≤ 4463; omega⟩ hS (fun q h => by (try dsimp only at h); (try dsimp only); omega) (fun H1 locs1 ⟨hCh, hsz⟩ hz1 hk1 hS => ?_)
  replace hO := hO.k (hk1 _ hO.lt (by (try dsimp only); omega))
  replace hMd := hMd.k (fun q h1 h2 h3 => (hk1 _ h3 (by (try dsimp only); omega)))
  replace hEq := hEq.k (fun q h1 h2 h3 => (hk1 _ h3 (by (try dsimp only); omega)))
  clear hz1 hk1
  refine pw_putF (C := RX9) (T := TX9) (N := 14) hx hb hts hin9 tyX9 tyX9_ok nmX9 hown hK hO hS (by (try dsimp only); omega) rfl 2 (by decide) lk_26 rfl rfl hini rfl rfl rfl (by show _ < 14; decide) dX9_init_34 (fun H1 locs1 hnew hz1 oq hS => ?_)
  replace hsz := hz1.trans hsz
  replace hMd := hMd.k (fun q h1 h2 h3 => (oq _ (by omega)))
  replace hEq := hEq.k (fun q h1 h2 h3 => (oq _ (by omega)))
  replace hCh := hCh.k (fun q h1 h2 h3 => (oq _ (by omega)))
  replace hO : OA D (a) 9 [.ref (a + 1), .ref (a + 52), .ref (a + 317), .null, .null, .null, .null, .null, .null, .null, .null, .null, .null, .int (iI (0))] H1 := hnew
  clear hnew oq hz1
  refine lv_aload_n hx hb dX9_init_37 rfl (lv_at hl 0 rfl) ?_
  refine pw_new (C := RX5) (T := TX5) (N := 3) (ci := 5) hx hb hts hin5 tyX5 tyX5_ok hown kl_30 ki_5 kz_5 hK hS rfl [.null, .null, .int (iI (0))] (fun j hj => by match j, hj with | 0, _ => rfl | 1, _ => rfl | 2, _ => rfl) (by show _ ≤ 582; omega) (by show _ ≤ 4463; omega) dX9_init_38 (fun H1 hnew hz1 oq hS => ?_)
  replace hO := hO.k (oq _ hO.lt)
  replace hMd := hMd.k (fun q h1 h2 h3 => (oq _ h3))
  replace hEq := hEq.k (fun q h1 h2 h3 => (oq _ h3))
  replace hCh := hCh.k (fun q h1 h2 h3 => (oq _ h3))
  have hsz1 : H1.size = a + 327 := by omega
  rw [hsz] at hnew ⊢
  clear hz1 oq hsz
  have hsz := hsz1
  clear hsz1
  have hLd := hnew
  clear hnew
  refine lv_dup hx hb dX9_init_41 rfl ?_
  refine pw_callIN (As := []) (rest := [.ref (a + 326), .ref (a)]) ⟨hx, hb, hml, hown, hts⟩ (c_LadderI l D E (a + 326)) (cwI 0 hts gX9_init_X5_init rfl rfl rfl kz_5 km_32 kn_5 rfl (by decide +kernel) ⟨Nat.le_of_ble_eq_true rfl, Nat.le_of_ble_eq_true rfl⟩) hK hAO (⟨hLd, hsz⟩) rfl hl.1 rfl (Nat.le_of_ble_eq_true rfl) dX9_init_42 ⟨by show _ ≤ 582; omega, by show _ ≤ 4463; omega⟩ hS (fun q h => by (try dsimp only at h); (try dsimp only); omega) (fun H1 locs1 ⟨hLd, hsz⟩ hz1 hk1 hS => ?_)
  replace hO := hO.k (hk1 _ hO.lt (by (try dsimp only); omega))
  replace hMd := hMd.k (fun q h1 h2 h3 => (hk1 _ h3 (by (try dsimp only); omega)))
  replace hEq := hEq.k (fun q h1 h2 h3 => (hk1 _ h3 (by (try dsimp only); omega)))
  replace hCh := hCh.k (fun q h1 h2 h3 => (hk1 _ h3 (by (try dsimp only); omega)))
  clear hz1 hk1
  refine pw_putF (C := RX9) (T := TX9) (N := 14) hx hb hts hin9 tyX9 tyX9_ok nmX9 hown hK hO hS (by (try dsimp only); omega) rfl 3 (by decide) lk_33 rfl rfl hini rfl rfl rfl (by show _ < 14; decide) dX9_init_45 (fun H1 locs1 hnew hz1 oq hS => ?_)
  replace hsz := hz1.trans hsz
  replace hMd := hMd.k (fun q h1 h2 h3 => (oq _ (by omega)))
  replace hEq := hEq.k (fun q h1 h2 h3 => (oq _ (by omega)))
  replace hCh := hCh.k (fun q h1 h2 h3 => (oq _ (by omega)))
  replace hLd := hLd.k (fun q h1 h2 h3 => (oq _ (by omega)))
  replace hO : OA D (a) 9 [.ref (a + 1), .ref (a + 52), .ref (a + 317), .ref (a + 326), .null, .null, .null, .null, .null, .null, .null, .null, .null, .int (iI (0))] H1 := hnew
  clear hnew oq hz1
  refine lv_aload_n hx hb dX9_init_48 rfl (lv_at hl 0 rfl) ?_
  refine pw_new (C := RX7) (T := TX7) (N := 2) (ci := 7) hx hb hts hin7 tyX7 tyX7_ok hown kl_37 ki_7 kz_7 hK hS rfl [.null, .null] (fun j hj => by match j, hj with | 0, _ => rfl | 1, _ => rfl) (by show _ ≤ 582; omega) (by show _ ≤ 4463; omega) dX9_init_49 (fun H1 hnew hz1 oq hS => ?_)
  replace hO := hO.k (oq _ hO.lt)
  replace hMd := hMd.k (fun q h1 h2 h3 => (oq _ h3))
  replace hEq := hEq.k (fun q h1 h2 h3 => (oq _ h3))
  replace hCh := hCh.k (fun q h1 h2 h3 => (oq _ h3))
  replace hLd := hLd.k (fun q h1 h2 h3 => (oq _ h3))
  have hsz1 : H1.size = a + 483 := by omega
  rw [hsz] at hnew ⊢
  clear hz1 oq hsz
  have hsz := hsz1
  clear hsz1
  have hRw := hnew
  clear hnew
  refine lv_dup hx hb dX9_init_52 rfl ?_
  refine pw_bipush hx hb dX9_init_53 ?_
  refine pw_asi (((8 : Nat) : Int)) rfl ?_
  refine pw_callIN (As := [.int (iI (((8 : Nat) : Int)))]) (rest := [.ref (a + 482), .ref (a)]) ⟨hx, hb, hml, hown, hts⟩ (c_RowI l D E (a + 482) 8 (by omega)) (cwI 1 hts gX9_init_X7_init rfl rfl rfl kz_7 km_39 kn_7 rfl (by decide +kernel) ⟨Nat.le_of_ble_eq_true rfl, Nat.le_of_ble_eq_true rfl⟩) hK hAO (⟨hRw, hsz⟩) rfl hl.1 rfl (Nat.le_of_ble_eq_true rfl) dX9_init_55 ⟨by show _ ≤ 582; omega, by show _ ≤ 4463; omega⟩ hS (fun q h => by (try dsimp only at h); (try dsimp only); omega) (fun H1 locs1 ⟨hRw, hsz⟩ hz1 hk1 hS => ?_)
  replace hO := hO.k (hk1 _ hO.lt (by (try dsimp only); omega))
  replace hMd := hMd.k (fun q h1 h2 h3 => (hk1 _ h3 (by (try dsimp only); omega)))
  replace hEq := hEq.k (fun q h1 h2 h3 => (hk1 _ h3 (by (try dsimp only); omega)))
  replace hCh := hCh.k (fun q h1 h2 h3 => (hk1 _ h3 (by (try dsimp only); omega)))
  replace hLd := hLd.k (fun q h1 h2 h3 => (hk1 _ h3 (by (try dsimp only); omega)))
  clear hz1 hk1
  refine pw_putF (C := RX9) (T := TX9) (N := 14) hx hb hts hin9 tyX9 tyX9_ok nmX9 hown hK hO hS (by (try dsimp only); omega) rfl 4 (by decide) lk_42 rfl rfl hini rfl rfl rfl (by show _ < 14; decide) dX9_init_58 (fun H1 locs1 hnew hz1 oq hS => ?_)
  replace hsz := hz1.trans hsz
  replace hMd := hMd.k (fun q h1 h2 h3 => (oq _ (by omega)))
  replace hEq := hEq.k (fun q h1 h2 h3 => (oq _ (by omega)))
  replace hCh := hCh.k (fun q h1 h2 h3 => (oq _ (by omega)))
  replace hLd := hLd.k (fun q h1 h2 h3 => (oq _ (by omega)))
  replace hRw := hRw.k (fun q h1 h2 h3 => (oq _ (by omega)))
  replace hO : OA D (a) 9 [.ref (a + 1), .ref (a + 52), .ref (a + 317), .ref (a + 326), .ref (a + 482), .null, .null, .null, .null, .null, .null, .null, .null, .int (iI (0))] H1 := hnew
  clear hnew oq hz1
  refine lv_aload_n hx hb dX9_init_61 rfl (lv_at hl 0 rfl) ?_
  refine pw_bipush hx hb dX9_init_62 ?_
  refine pw_newi hx hb ka_int hK hS (6) rfl (by omega) (by show _ ≤ 582; omega) (by show _ ≤ 4463; omega) dX9_init_64 (fun H1 hnew hz1 oq hS => ?_)
  replace hO := hO.k (oq _ hO.lt)
  replace hMd := hMd.k (fun q h1 h2 h3 => (oq _ h3))
  replace hEq := hEq.k (fun q h1 h2 h3 => (oq _ h3))
  replace hCh := hCh.k (fun q h1 h2 h3 => (oq _ h3))
  replace hLd := hLd.k (fun q h1 h2 h3 => (oq _ h3))
  replace hRw := hRw.k (fun q h1 h2 h3 => (oq _ h3))
  have hsz1 : H1.size = a + 499 := by omega
  rw [hsz] at hnew ⊢
  clear hz1 oq hsz
  have hsz := hsz1
  clear hsz1
  have hBp := hnew
  clear hnew
  refine pw_putF (C := RX9) (T := TX9) (N := 14) hx hb hts hin9 tyX9 tyX9_ok nmX9 hown hK hO hS (by (try dsimp only); omega) rfl 5 (by decide) lk_46 rfl rfl hini rfl rfl rfl (by show _ < 14; decide) dX9_init_66 (fun H1 locs1 hnew hz1 oq hS => ?_)
  replace hsz := hz1.trans hsz
  replace hMd := hMd.k (fun q h1 h2 h3 => (oq _ (by omega)))
  replace hEq := hEq.k (fun q h1 h2 h3 => (oq _ (by omega)))
  replace hCh := hCh.k (fun q h1 h2 h3 => (oq _ (by omega)))
  replace hLd := hLd.k (fun q h1 h2 h3 => (oq _ (by omega)))
  replace hRw := hRw.k (fun q h1 h2 h3 => (oq _ (by omega)))
  replace hBp := hBp.k (oq _ (by omega))
  replace hO : OA D (a) 9 [.ref (a + 1), .ref (a + 52), .ref (a + 317), .ref (a + 326), .ref (a + 482), .ref (a + 498), .null, .null, .null, .null, .null, .null, .null, .int (iI (0))] H1 := hnew
  clear hnew oq hz1
  refine lv_aload_n hx hb dX9_init_69 rfl (lv_at hl 0 rfl) ?_
  refine pw_iconst hx hb dX9_init_70 ?_
  refine pw_asi (((4 : Nat) : Int)) rfl ?_
  refine pw_newq (C := RX7) hx hb hown kl_37 hAO.2.1 hK hS 4 rfl (4) rfl (by omega) (by show _ ≤ 582; omega) (by show _ ≤ 4463; omega) dX9_init_71 (fun H1 hnew hz1 oq hS => ?_)
  replace hO := hO.k (oq _ hO.lt)
  replace hMd := hMd.k (fun q h1 h2 h3 => (oq _ h3))
  replace hEq := hEq.k (fun q h1 h2 h3 => (oq _ h3))
  replace hCh := hCh.k (fun q h1 h2 h3 => (oq _ h3))
  replace hLd := hLd.k (fun q h1 h2 h3 => (oq _ h3))
  replace hRw := hRw.k (fun q h1 h2 h3 => (oq _ h3))
  replace hBp := hBp.k (oq _ hBp.lt)
  have hsz1 : H1.size = a + 500 := by omega
  rw [hsz] at hnew ⊢
  clear hz1 oq hsz
  have hsz := hsz1
  clear hsz1
  have hQ := hnew
  clear hnew
  refine pw_putF (C := RX9) (T := TX9) (N := 14) hx hb hts hin9 tyX9 tyX9_ok nmX9 hown hK hO hS (by (try dsimp only); omega) rfl 6 (by decide) lk_50 rfl rfl hini rfl rfl rfl (by show _ < 14; decide) dX9_init_74 (fun H1 locs1 hnew hz1 oq hS => ?_)
  replace hsz := hz1.trans hsz
  replace hMd := hMd.k (fun q h1 h2 h3 => (oq _ (by omega)))
  replace hEq := hEq.k (fun q h1 h2 h3 => (oq _ (by omega)))
  replace hCh := hCh.k (fun q h1 h2 h3 => (oq _ (by omega)))
  replace hLd := hLd.k (fun q h1 h2 h3 => (oq _ (by omega)))
  replace hRw := hRw.k (fun q h1 h2 h3 => (oq _ (by omega)))
  replace hBp := hBp.k (oq _ (by omega))
  replace hQ := hQ.k (oq _ (by omega))
  replace hO : OA D (a) 9 [.ref (a + 1), .ref (a + 52), .ref (a + 317), .ref (a + 326), .ref (a + 482), .ref (a + 498), .ref (a + 499), .null, .null, .null, .null, .null, .null, .int (iI (0))] H1 := hnew
  clear hnew oq hz1
  refine pw_iconst hx hb dX9_init_77 ?_
  refine pw_asi (((0 : Nat) : Int)) rfl ?_
  refine lv_istore_n (lv' := [(1, .int (iI (((0 : Nat) : Int)))), (0, .ref (a))]) hx hb dX9_init_78 rfl hl (by decide) rfl (fun ls hl => ?_)
  refine pw_cs (cells' := 499 + 16 * 0) (slots' := 3892 + 0 * 85) (by omega) (by omega) ?_
  exact loop 4 0 _ _ _ _ (by omega) (fun j hj => by omega) hO hMd hEq hCh hLd hRw hBp hQ (fun j hj => by omega) (by omega) hS (lv_sub hl [1, 0] rfl)
