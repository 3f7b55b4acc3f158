/-! the reference: plus, other sign -/
set_option maxHeartbeats 4000000 in
set_option maxRecDepth 100000 in
theorem r_plusS (l : Launch) (D : va_G) (E : Nat → ClassId) (r0 : Nat) (o f g h : Nat → Int) (a b : Nat) (u how : Int) (ha : a < 80) (hb0 : b < 80) (hab : b ≠ a) {n m0 : Nat} {w : Int} (hrk : rk u.natAbs n) (hrk2 : rk w.natAbs m0) (hgb : g b = (m0 : Int)) (hDb : DG f b w.natAbs m0) (hsa : h a = u.sign) (hn : n ≤ 63) (hm0 : m0 ≤ 63) (hsu : -1 ≤ u.sign ∧ u.sign ≤ 1) (hsw : -1 ≤ w.sign ∧ w.sign ≤ 1) (hxN : u.natAbs < 268435456 ^ (max n m0)) (hyN : w.natAbs < 268435456 ^ (max n m0)) {p : Program} {e : Env} {s : State} {m : MethodId} {args : Array Value} {below : List Frame} {meth : Method} {c : Code} (hx : p.tables.exec = Jvm.exec) (hb : c.code = cX10_plus) (hr : meth.sig.returnType = none) (hml : c.maxLocals = 10) (hts : ∀ w ∈ wsX10_plus, w.before args s = true) (hown : s.vm.findClass RX10 = some m.cls) (hlocks : meth.locks = false) (hK : KK D E s) : ¬ (u.sign = 0 ∨ u.sign = w.sign) → w.sign ≠ 0 → ∀ Z : Nat, (0 ≤ cz u.natAbs w.natAbs → u.natAbs = w.natAbs + Z) → (cz u.natAbs w.natAbs < 0 → w.natAbs = u.natAbs + Z) → ∀ (kk k bw : Nat) (f1 g1 : Nat → Int) (H : Heap) (locs : List Loc) (ls : Array Slot), k + kk = (max n m0 : Nat) → bw = (if 0 ≤ cz u.natAbs w.natAbs then ca w.natAbs Z k else ca u.natAbs Z k) → DG f1 a (Z) k → (∀ j, k ≤ j → j < n → f1 (64 * a + j) = (bd u.natAbs j : Int)) → (∀ q, q < 64 * a ∨ 64 * a + 64 ≤ q → f1 q = f q) → g1 a = ((max n k : Nat) : Int) → (∀ c, c ≠ a → g1 c = g c) → RO D r0 o H → IA E (r0 + 8) 5120 f1 H → IA E (r0 + 9) 80 g1 H → IA E (r0 + 10) 80 h H → va_S (fun q => q = r0 + 8 ∨ q = r0 + 9 ∨ q = r0 + 10) s.heap H locs → lv_has ls 10 [(0, .ref (r0)), (1, .int (iI ((a : Int)))), (2, .int (iI ((b : Int)))), (3, .int (iI (how))), (4, .int (iI (w.sign))), (5, .int (iI (((max n m0 : Nat) : Int)))), (6, .int (iI (cz u.natAbs w.natAbs))), (7, .int (iI ((bw : Int)))), (8, .int (iI ((k : Int))))] → W p l e ({ frames := 1, cells := 0, slots := 0, locals := 23 } : Room) s m args below meth c H locs (0) (0) (MQ below (pw_Q rvV (fun _ H => NP E r0 a (u + w) f g h H) (fun q => q = r0 + 8 ∨ q = r0 + 9 ∨ q = r0 + 10)) args s (0) (0) (fun q => q = r0 + 8 ∨ q = r0 + 9 ∨ q = r0 + 10)) (F0 m 207 ls []) := by
  have lk_38 := hts (.fieldLink RX10 38 "PolicyWorksModel" "limbs" "[I") (by decide +kernel)
  have lk_41 := hts (.fieldLink RX10 41 "PolicyWorksModel" "lengths" "[I") (by decide +kernel)
  have lk_44 := hts (.fieldLink RX10 44 "PolicyWorksModel" "signs" "[I") (by decide +kernel)
  have kc_68 := hts (.constant RX10 68 (268435455)) (by decide +kernel)
  have kc_73 := hts (.constant RX10 73 (268435456)) (by decide +kernel)
  have hin10 : ∀ w ∈ wsX100, w ∈ wsX10_plus := by decide +kernel
  intro hopp hw0 Z hZ1 hZ2 kk
  obtain ⟨ho1, ho2⟩ := add_opp (Z := Z) hopp hw0
  have hczb := cz_b u.natAbs w.natAbs
  induction kk with
  | zero =>
    intro k bw f1 g1 H locs ls hk hbw hD hup hof hg1 hgo hO hf hg hh hS hl
    have ek : k = (max n m0 : Nat) := by omega
    subst ek
    refine lv_iload hx hb dX10_plus_207 (lv_at hl 8 rfl) ?_
    refine lv_iload hx hb dX10_plus_209 (lv_at hl 5 rfl) ?_
    refine pw_icmp_ge (tgt := 332) hx hb dX10_plus_211 (by decide) (fun c_211 => ?_) (fun c_211 => absurd c_211 (by omega))
    refine lv_aload_n hx hb dX10_plus_332 rfl (lv_at hl 0 rfl) ?_
    refine pw_get (C := RX10) (T := TX10) (N := 20) hx hb hts hin10 hown hK hO rfl 15 (by decide) lk_44 rfl rfl dX10_plus_333 ?_
    refine lv_iload_n hx hb dX10_plus_336 rfl (lv_at hl 1 rfl) ?_
    refine lv_iload hx hb dX10_plus_337 (lv_at hl 6 rfl) ?_
    refine pw_if_lt (tgt := 351) hx hb dX10_plus_339 (by decide) (fun c_339 => ?_) (fun c_339 => ?_)
    · have hZe := hZ2 (by omega)
      have hab2 := ho2 hZe
      refine lv_iload hx hb dX10_plus_351 (lv_at hl 4 rfl) ?_
      refine pw_iast hx hb hK hh hS (Or.inr (Or.inr rfl)) (a) rfl (by omega) (by omega) dX10_plus_353 (fun H1 locs1 hnew hz1 oq hS => ?_)
      have hO := hO.k (oq _ (by omega))
      have hf := hf.k (oq _ (by omega))
      have hg := hg.k (oq _ (by omega))
      have hh := hnew
      clear hnew oq hz1
      refine lv_aload_n hx hb dX10_plus_354 rfl (lv_at hl 0 rfl) ?_
      refine lv_iload_n hx hb dX10_plus_355 rfl (lv_at hl 1 rfl) ?_
      refine lv_iload hx hb dX10_plus_356 (lv_at hl 5 rfl) ?_
      refine pw_callVv (As := [.int (iI ((a : Int))), .int (iI (((max n m0 : Nat) : Int)))]) (rest := []) ⟨hx, hb, hml, hown, hts⟩ (r_trim l D E r0 o f1 g1 (ud h a w.sign) a ((max n m0 : Nat)) (Z) (u + w) ha (by omega) (by omega) hD hab2.1 (fun h0 => by rw [ud_s]; exact hab2.2 h0)) (cwV 2 hts gX10_plus_X10_trim rfl rfl rfl (by decide +kernel) ⟨Nat.le_of_ble_eq_true rfl, Nat.le_of_ble_eq_true rfl⟩) hK hO rfl ⟨hO, hf, hg, hh⟩ rfl hl.1 rfl (Nat.le_of_ble_eq_true rfl) dX10_plus_358 ⟨Nat.zero_le _, Nat.zero_le _⟩ hS (fun q h => h) (fun H1 locs1 hNP hz1 hk1 hS => ?_)
      have hO := hO.k (hk1 _ hO.lt (by (try dsimp only); omega))
      exact pw_vret hx hb hr hlocks hS (hNP.tr ⟨hof, fun c hc => ⟨hgo c hc, ud_n _ _ hc⟩⟩) dX10_plus_361
    · have hZe := hZ1 (by omega)
      have hab2 := ho1 hZe
      refine lv_aload_n hx hb dX10_plus_342 rfl (lv_at hl 0 rfl) ?_
      refine pw_get (C := RX10) (T := TX10) (N := 20) hx hb hts hin10 hown hK hO rfl 15 (by decide) lk_44 rfl rfl dX10_plus_343 ?_
      refine lv_iload_n hx hb dX10_plus_346 rfl (lv_at hl 1 rfl) ?_
      refine pw_iald hx hb hK hh (a) rfl (by omega) (by omega) dX10_plus_347 ?_
      refine pw_asi (u.sign) hsa ?_
      refine lv_goto (tgt := 353) hx hb dX10_plus_348 (by decide) ?_
      refine pw_iast hx hb hK hh hS (Or.inr (Or.inr rfl)) (a) rfl (by omega) (by omega) dX10_plus_353 (fun H1 locs1 hnew hz1 oq hS => ?_)
      have hO := hO.k (oq _ (by omega))
      have hf := hf.k (oq _ (by omega))
      have hg := hg.k (oq _ (by omega))
      have hh := hnew
      clear hnew oq hz1
      refine lv_aload_n hx hb dX10_plus_354 rfl (lv_at hl 0 rfl) ?_
      refine lv_iload_n hx hb dX10_plus_355 rfl (lv_at hl 1 rfl) ?_
      refine lv_iload hx hb dX10_plus_356 (lv_at hl 5 rfl) ?_
      refine pw_callVv (As := [.int (iI ((a : Int))), .int (iI (((max n m0 : Nat) : Int)))]) (rest := []) ⟨hx, hb, hml, hown, hts⟩ (r_trim l D E r0 o f1 g1 (ud h a u.sign) a ((max n m0 : Nat)) (Z) (u + w) ha (by omega) (by omega) hD hab2.1 (fun h0 => by rw [ud_s]; exact hab2.2 h0)) (cwV 2 hts gX10_plus_X10_trim rfl rfl rfl (by decide +kernel) ⟨Nat.le_of_ble_eq_true rfl, Nat.le_of_ble_eq_true rfl⟩) hK hO rfl ⟨hO, hf, hg, hh⟩ rfl hl.1 rfl (Nat.le_of_ble_eq_true rfl) dX10_plus_358 ⟨Nat.zero_le _, Nat.zero_le _⟩ hS (fun q h => h) (fun H1 locs1 hNP hz1 hk1 hS => ?_)
      have hO := hO.k (hk1 _ hO.lt (by (try dsimp only); omega))
      exact pw_vret hx hb hr hlocks hS (hNP.tr ⟨hof, fun c hc => ⟨hgo c hc, ud_n _ _ hc⟩⟩) dX10_plus_361
  | succ kk ih =>
    intro k bw f1 g1 H locs ls hk hbw hD hup hof hg1 hgo hO hf hg hh hS hl
    have b1 := bd_lt u.natAbs k
    have b2 := bd_lt w.natAbs k
    have b3 := bd_lt Z k
    refine lv_iload hx hb dX10_plus_207 (lv_at hl 8 rfl) ?_
    refine lv_iload hx hb dX10_plus_209 (lv_at hl 5 rfl) ?_
    refine pw_icmp_ge (tgt := 332) hx hb dX10_plus_211 (by decide) (fun c_211 => absurd c_211 (by omega)) (fun c_211 => ?_)
    refine lv_iload hx hb dX10_plus_214 (lv_at hl 6 rfl) ?_
    refine pw_if_lt (tgt := 237) hx hb dX10_plus_216 (by decide) (fun c_216 => ?_) (fun c_216 => ?_)
    · rw [if_neg (by omega)] at hbw
      have es := sb_step (hZ2 c_216) k
      have b4 := ca_le u.natAbs Z k
      have b5 := ca_le u.natAbs Z (k + 1)
      refine lv_aload_n hx hb dX10_plus_237 rfl (lv_at hl 0 rfl) ?_
      refine lv_iload_n hx hb dX10_plus_238 rfl (lv_at hl 2 rfl) ?_
      refine lv_iload hx hb dX10_plus_239 (lv_at hl 8 rfl) ?_
      refine pw_callVi (As := [.int (iI ((b : Int))), .int (iI ((k : Int)))]) (rest := []) ⟨hx, hb, hml, hown, hts⟩ (r_limb l D E r0 o f1 g1 h b k (m0) hb0 (by omega) (by omega) ((hgo b hab).trans hgb)) (cwV 2 hts gX10_plus_X10_limb rfl rfl rfl (by decide +kernel) ⟨Nat.le_of_ble_eq_true rfl, Nat.le_of_ble_eq_true rfl⟩) hK hO rfl ⟨hO, hf, hg, hh⟩ rfl hl.1 rfl (Nat.le_of_ble_eq_true rfl) dX10_plus_241 ⟨Nat.zero_le _, Nat.zero_le _⟩ hS (fun q h => h.elim) (fun z H1 locs1 hz hz1 hk1 hS => ?_)
      have hO := hO.k (hk1 _ hO.lt (fun h => h))
      have hf := hf.k (hk1 _ hf.lt (fun h => h))
      have hg := hg.k (hk1 _ hg.lt (fun h => h))
      have hh := hh.k (hk1 _ hh.lt (fun h => h))
      have hz : z = (bd w.natAbs k : Int) := by
        by_cases e : k < m0
        · rw [hz, if_pos (by omega)]; exact (hof _ (by omega)).trans (hDb k e)
        · rw [hz, if_neg (by omega), bd_0 (Nat.lt_of_lt_of_le hrk2.2.1 (rb_mono (by omega)))]; rfl
      subst hz
      refine lv_aload_n hx hb dX10_plus_244 rfl (lv_at hl 0 rfl) ?_
      refine lv_iload_n hx hb dX10_plus_245 rfl (lv_at hl 1 rfl) ?_
      refine lv_iload hx hb dX10_plus_246 (lv_at hl 8 rfl) ?_
      refine pw_callVi (As := [.int (iI ((a : Int))), .int (iI ((k : Int)))]) (rest := [.int (iI ((bd w.natAbs k : Int)))]) ⟨hx, hb, hml, hown, hts⟩ (r_limb l D E r0 o f1 g1 h a k (max n k) ha (by omega) (by omega) hg1) (cwV 2 hts gX10_plus_X10_limb rfl rfl rfl (by decide +kernel) ⟨Nat.le_of_ble_eq_true rfl, Nat.le_of_ble_eq_true rfl⟩) hK hO rfl ⟨hO, hf, hg, hh⟩ rfl hl.1 rfl (Nat.le_of_ble_eq_true rfl) dX10_plus_248 ⟨Nat.zero_le _, Nat.zero_le _⟩ hS (fun q h => h.elim) (fun z H1 locs1 hz hz1 hk1 hS => ?_)
      have hO := hO.k (hk1 _ hO.lt (fun h => h))
      have hf := hf.k (hk1 _ hf.lt (fun h => h))
      have hg := hg.k (hk1 _ hg.lt (fun h => h))
      have hh := hh.k (hk1 _ hh.lt (fun h => h))
      have hz : z = (bd u.natAbs k : Int) := by
        by_cases e : k < n
        · rw [hz, if_pos (by omega)]; exact hup k (Nat.le_refl k) e
        · rw [hz, if_neg (by omega), bd_0 (Nat.lt_of_lt_of_le hrk.2.1 (rb_mono (by omega)))]; rfl
      subst hz
      refine pw_isub hx hb dX10_plus_251 ?_
      refine lv_iload hx hb dX10_plus_252 (lv_at hl 7 rfl) ?_
      refine pw_isub hx hb dX10_plus_254 ?_
      refine lv_istore (lv' := [(9, .int (iI ((((bd w.natAbs k : Int)) - ((bd u.natAbs k : Int))) - ((bw : Int))))), (0, .ref (r0)), (1, .int (iI ((a : Int)))), (2, .int (iI ((b : Int)))), (3, .int (iI (how))), (4, .int (iI (w.sign))), (5, .int (iI (((max n m0 : Nat) : Int)))), (6, .int (iI (cz u.natAbs w.natAbs))), (7, .int (iI ((bw : Int)))), (8, .int (iI ((k : Int))))]) hx hb dX10_plus_255 hl (by decide) rfl (fun ls hl => ?_)
      refine lv_iload hx hb dX10_plus_257 (lv_at hl 0 rfl) ?_
      refine pw_if_ge (tgt := 266) hx hb dX10_plus_259 (by decide) (fun c_259 => ?_) (fun c_259 => ?_)
      · refine pw_iconst hx hb dX10_plus_266 ?_
        refine pw_asi (((0 : Nat) : Int)) rfl ?_
        refine lv_istore (lv' := [(7, .int (iI (((0 : Nat) : Int)))), (9, .int (iI ((((bd w.natAbs k : Int)) - ((bd u.natAbs k : Int))) - ((bw : Int))))), (0, .ref (r0)), (1, .int (iI ((a : Int)))), (2, .int (iI ((b : Int)))), (3, .int (iI (how))), (4, .int (iI (w.sign))), (5, .int (iI (((max n m0 : Nat) : Int)))), (6, .int (iI (cz u.natAbs w.natAbs))), (8, .int (iI ((k : Int))))]) hx hb dX10_plus_267 hl (by decide) rfl (fun ls hl => ?_)
        refine lv_aload_n hx hb dX10_plus_269 rfl (lv_at hl 2 rfl) ?_
        refine pw_get (C := RX10) (T := TX10) (N := 20) hx hb hts hin10 hown hK hO rfl 13 (by decide) lk_38 rfl rfl dX10_plus_270 ?_
        refine pw_bipush hx hb dX10_plus_273 ?_
        refine lv_iload_n hx hb dX10_plus_275 rfl (lv_at hl 3 rfl) ?_
        refine pw_imul hx hb dX10_plus_276 ?_
        refine lv_iload hx hb dX10_plus_277 (lv_at hl 9 rfl) ?_
        refine pw_iadd hx hb dX10_plus_279 ?_
        refine lv_iload hx hb dX10_plus_280 (lv_at hl 1 rfl) ?_
        refine lv_iload hx hb dX10_plus_282 (lv_at hl 0 rfl) ?_
        refine pw_iconst hx hb dX10_plus_284 ?_
        refine pw_icmp_ne (tgt := 293) hx hb dX10_plus_285 (by decide) (fun c_285 => ?_) (fun c_285 => absurd c_285 (by omega))
        refine pw_iconst hx hb dX10_plus_293 ?_
        refine pw_iadd hx hb dX10_plus_294 ?_
        refine pw_asi ((bd Z k : Int)) (by omega) ?_
        refine pw_iast hx hb hK hf hS (Or.inl rfl) (((64) * ((a))) + ((k))) (by omega) (by omega) (by omega) dX10_plus_295 (fun H1 locs1 hnew hz1 oq hS => ?_)
        have hO := hO.k (oq _ (by omega))
        have hg := hg.k (oq _ (by omega))
        have hh := hh.k (oq _ (by omega))
        have hf := hnew
        clear hnew oq hz1
        refine lv_aload_n hx hb dX10_plus_296 rfl (lv_at hl 2 rfl) ?_
        refine pw_get (C := RX10) (T := TX10) (N := 20) hx hb hts hin10 hown hK hO rfl 14 (by decide) lk_41 rfl rfl dX10_plus_297 ?_
        refine lv_iload_n hx hb dX10_plus_300 rfl (lv_at hl 3 rfl) ?_
        refine lv_aload_n hx hb dX10_plus_301 rfl (lv_at hl 2 rfl) ?_
        refine pw_get (C := RX10) (T := TX10) (N := 20) hx hb hts hin10 hown hK hO rfl 14 (by decide) lk_41 rfl rfl dX10_plus_302 ?_
        refine lv_iload_n hx hb dX10_plus_305 rfl (lv_at hl 3 rfl) ?_
        refine pw_iald hx hb hK hg (a) rfl (by omega) (by omega) dX10_plus_306 ?_
        refine pw_asi (((max n k : Nat) : Int)) hg1 ?_
        refine lv_iload hx hb dX10_plus_307 (lv_at hl 9 rfl) ?_
        refine pw_icmp_gt (tgt := 319) hx hb dX10_plus_309 (by decide) (fun c_309 => ?_) (fun c_309 => ?_)
        · refine lv_aload_n hx hb dX10_plus_319 rfl (lv_at hl 2 rfl) ?_
          refine pw_get (C := RX10) (T := TX10) (N := 20) hx hb hts hin10 hown hK hO rfl 14 (by decide) lk_41 rfl rfl dX10_plus_320 ?_
          refine lv_iload_n hx hb dX10_plus_323 rfl (lv_at hl 3 rfl) ?_
          refine pw_iald hx hb hK hg (a) rfl (by omega) (by omega) dX10_plus_324 ?_
          refine pw_asi (((max n (k + 1) : Nat) : Int)) (by rw [hg1]; omega) ?_
          refine pw_iast hx hb hK hg hS (Or.inr (Or.inl rfl)) (a) rfl (by omega) (by omega) dX10_plus_325 (fun H1 locs1 hnew hz1 oq hS => ?_)
          have hO := hO.k (oq _ (by omega))
          have hf := hf.k (oq _ (by omega))
          have hh := hh.k (oq _ (by omega))
          have hg := hnew
          clear hnew oq hz1
          refine lv_iinc (v := iI (((k + 1 : Nat) : Int))) (lv' := [(8, .int (iI (((k + 1 : Nat) : Int)))), (7, .int (iI (((0 : Nat) : Int)))), (9, .int (iI ((((bd w.natAbs k : Int)) - ((bd u.natAbs k : Int))) - ((bw : Int))))), (0, .ref (r0)), (1, .int (iI ((a : Int)))), (2, .int (iI ((b : Int)))), (3, .int (iI (how))), (4, .int (iI (w.sign))), (5, .int (iI (((max n m0 : Nat) : Int)))), (6, .int (iI (cz u.natAbs w.natAbs)))]) hx hb dX10_plus_326 hl (k := 9) rfl (by show iI _ + iI _ = _; exact (iI_add _ _).trans (by first | rfl | (congr 1; omega))) (by decide) rfl (fun ls hl => ?_)
          refine lv_goto (tgt := 207) hx hb dX10_plus_329 (by decide) ?_
          exact ih (k + 1) 0 _ _ _ _ _ (by omega) (by rw [if_neg (by omega)]; omega) (hD.up rfl) (fun j h1 h2 => by rw [ud_n _ _ (by omega)]; exact hup j (by omega) h2) (ud_o (by omega) hof) (ud_s _ _ _) (fun c hc => by rw [ud_n _ _ hc]; exact hgo c hc) hO hf hg hh hS (lv_sub hl [3, 4, 5, 6, 7, 8, 9, 1, 0] rfl)
        · refine lv_iload hx hb dX10_plus_312 (lv_at hl 9 rfl) ?_
          refine pw_iconst hx hb dX10_plus_314 ?_
          refine pw_iadd hx hb dX10_plus_315 ?_
          refine pw_asi (((max n (k + 1) : Nat) : Int)) (by omega) ?_
          refine lv_goto (tgt := 325) hx hb dX10_plus_316 (by decide) ?_
          refine pw_iast hx hb hK hg hS (Or.inr (Or.inl rfl)) (a) rfl (by omega) (by omega) dX10_plus_325 (fun H1 locs1 hnew hz1 oq hS => ?_)
          have hO := hO.k (oq _ (by omega))
          have hf := hf.k (oq _ (by omega))
          have hh := hh.k (oq _ (by omega))
          have hg := hnew
          clear hnew oq hz1
          refine lv_iinc (v := iI (((k + 1 : Nat) : Int))) (lv' := [(8, .int (iI (((k + 1 : Nat) : Int)))), (7, .int (iI (((0 : Nat) : Int)))), (9, .int (iI ((((bd w.natAbs k : Int)) - ((bd u.natAbs k : Int))) - ((bw : Int))))), (0, .ref (r0)), (1, .int (iI ((a : Int)))), (2, .int (iI ((b : Int)))), (3, .int (iI (how))), (4, .int (iI (w.sign))), (5, .int (iI (((max n m0 : Nat) : Int)))), (6, .int (iI (cz u.natAbs w.natAbs)))]) hx hb dX10_plus_326 hl (k := 9) rfl (by show iI _ + iI _ = _; exact (iI_add _ _).trans (by first | rfl | (congr 1; omega))) (by decide) rfl (fun ls hl => ?_)
          refine lv_goto (tgt := 207) hx hb dX10_plus_329 (by decide) ?_
          exact ih (k + 1) 0 _ _ _ _ _ (by omega) (by rw [if_neg (by omega)]; omega) (hD.up rfl) (fun j h1 h2 => by rw [ud_n _ _ (by omega)]; exact hup j (by omega) h2) (ud_o (by omega) hof) (ud_s _ _ _) (fun c hc => by rw [ud_n _ _ hc]; exact hgo c hc) hO hf hg hh hS (lv_sub hl [3, 4, 5, 6, 7, 8, 9, 1, 0] rfl)
      · refine pw_iconst hx hb dX10_plus_262 ?_
        refine pw_asi (((1 : Nat) : Int)) rfl ?_
        refine lv_goto (tgt := 267) hx hb dX10_plus_263 (by decide) ?_
        refine lv_istore (lv' := [(7, .int (iI (((1 : Nat) : Int)))), (9, .int (iI ((((bd w.natAbs k : Int)) - ((bd u.natAbs k : Int))) - ((bw : Int))))), (0, .ref (r0)), (1, .int (iI ((a : Int)))), (2, .int (iI ((b : Int)))), (3, .int (iI (how))), (4, .int (iI (w.sign))), (5, .int (iI (((max n m0 : Nat) : Int)))), (6, .int (iI (cz u.natAbs w.natAbs))), (8, .int (iI ((k : Int))))]) hx hb dX10_plus_267 hl (by decide) rfl (fun ls hl => ?_)
        refine lv_aload_n hx hb dX10_plus_269 rfl (lv_at hl 2 rfl) ?_
        refine pw_get (C := RX10) (T := TX10) (N := 20) hx hb hts hin10 hown hK hO rfl 13 (by decide) lk_38 rfl rfl dX10_plus_270 ?_
        refine pw_bipush hx hb dX10_plus_273 ?_
        refine lv_iload_n hx hb dX10_plus_275 rfl (lv_at hl 3 rfl) ?_
        refine pw_imul hx hb dX10_plus_276 ?_
        refine lv_iload hx hb dX10_plus_277 (lv_at hl 9 rfl) ?_
        refine pw_iadd hx hb dX10_plus_279 ?_
        refine lv_iload hx hb dX10_plus_280 (lv_at hl 1 rfl) ?_
        refine lv_iload hx hb dX10_plus_282 (lv_at hl 0 rfl) ?_
        refine pw_iconst hx hb dX10_plus_284 ?_
        refine pw_icmp_ne (tgt := 293) hx hb dX10_plus_285 (by decide) (fun c_285 => absurd c_285 (by omega)) (fun c_285 => ?_)
        refine pw_ldc (z := 268435456) hx hb hown kc_73 (by decide +kernel) dX10_plus_288 ?_
        refine lv_goto (tgt := 294) hx hb dX10_plus_290 (by decide) ?_
        refine pw_iadd hx hb dX10_plus_294 ?_
        refine pw_asi ((bd Z k : Int)) (by omega) ?_
        refine pw_iast hx hb hK hf hS (Or.inl rfl) (((64) * ((a))) + ((k))) (by omega) (by omega) (by omega) dX10_plus_295 (fun H1 locs1 hnew hz1 oq hS => ?_)
        have hO := hO.k (oq _ (by omega))
        have hg := hg.k (oq _ (by omega))
        have hh := hh.k (oq _ (by omega))
        have hf := hnew
        clear hnew oq hz1
        refine lv_aload_n hx hb dX10_plus_296 rfl (lv_at hl 2 rfl) ?_
        refine pw_get (C := RX10) (T := TX10) (N := 20) hx hb hts hin10 hown hK hO rfl 14 (by decide) lk_41 rfl rfl dX10_plus_297 ?_
        refine lv_iload_n hx hb dX10_plus_300 rfl (lv_at hl 3 rfl) ?_
        refine lv_aload_n hx hb dX10_plus_301 rfl (lv_at hl 2 rfl) ?_
        refine pw_get (C := RX10) (T := TX10) (N := 20) hx hb hts hin10 hown hK hO rfl 14 (by decide) lk_41 rfl rfl dX10_plus_302 ?_
        refine lv_iload_n hx hb dX10_plus_305 rfl (lv_at hl 3 rfl) ?_
        refine pw_iald hx hb hK hg (a) rfl (by omega) (by omega) dX10_plus_306 ?_
        refine pw_asi (((max n k : Nat) : Int)) hg1 ?_
        refine lv_iload hx hb dX10_plus_307 (lv_at hl 9 rfl) ?_
        refine pw_icmp_gt (tgt := 319) hx hb dX10_plus_309 (by decide) (fun c_309 => ?_) (fun c_309 => ?_)
        · refine lv_aload_n hx hb dX10_plus_319 rfl (lv_at hl 2 rfl) ?_
          refine pw_get (C := RX10) (T := TX10) (N := 20) hx hb hts hin10 hown hK hO rfl 14 (by decide) lk_41 rfl rfl dX10_plus_320 ?_
          refine lv_iload_n hx hb dX10_plus_323 rfl (lv_at hl 3 rfl) ?_
          refine pw_iald hx hb hK hg (a) rfl (by omega) (by omega) dX10_plus_324 ?_
          refine pw_asi (((max n (k + 1) : Nat) : Int)) (by rw [hg1]; omega) ?_
          refine pw_iast hx hb hK hg hS (Or.inr (Or.inl rfl)) (a) rfl (by omega) (by omega) dX10_plus_325 (fun H1 locs1 hnew hz1 oq hS => ?_)
          have hO := hO.k (oq _ (by omega))
          have hf := hf.k (oq _ (by omega))
          have hh := hh.k (oq _ (by omega))
          have hg := hnew
          clear hnew oq hz1
          refine lv_iinc (v := iI (((k + 1 : Nat) : Int))) (lv' := [(8, .int (iI (((k + 1 : Nat) : Int)))), (7, .int (iI (((1 : Nat) : Int)))), (9, .int (iI ((((bd w.natAbs k : Int)) - ((bd u.natAbs k : Int))) - ((bw : Int))))), (0, .ref (r0)), (1, .int (iI ((a : Int)))), (2, .int (iI ((b : Int)))), (3, .int (iI (how))), (4, .int (iI (w.sign))), (5, .int (iI (((max n m0 : Nat) : Int)))), (6, .int (iI (cz u.natAbs w.natAbs)))]) hx hb dX10_plus_326 hl (k := 9) rfl (by show iI _ + iI _ = _; exact (iI_add _ _).trans (by first | rfl | (congr 1; omega))) (by decide) rfl (fun ls hl => ?_)
          refine lv_goto (tgt := 207) hx hb dX10_plus_329 (by decide) ?_
          exact ih (k + 1) 1 _ _ _ _ _ (by omega) (by rw [if_neg (by omega)]; omega) (hD.up rfl) (fun j h1 h2 => by rw [ud_n _ _ (by omega)]; exact hup j (by omega) h2) (ud_o (by omega) hof) (ud_s _ _ _) (fun c hc => by rw [ud_n _ _ hc]; exact hgo c hc) hO hf hg hh hS (lv_sub hl [3, 4, 5, 6, 7, 8, 9, 1, 0] rfl)
        · refine lv_iload hx hb dX10_plus_312 (lv_at hl 9 rfl) ?_
          refine pw_iconst hx hb dX10_plus_314 ?_
          refine pw_iadd hx hb dX10_plus_315 ?_
          refine pw_asi (((max n (k + 1) : Nat) : Int)) (by omega) ?_
          refine lv_goto (tgt := 325) hx hb dX10_plus_316 (by decide) ?_
          refine pw_iast hx hb hK hg hS (Or.inr (Or.inl rfl)) (a) rfl (by omega) (by omega) dX10_plus_325 (fun H1 locs1 hnew hz1 oq hS => ?_)
          have hO := hO.k (oq _ (by omega))
          have hf := hf.k (oq _ (by omega))
          have hh := hh.k (oq _ (by omega))
          have hg := hnew
          clear hnew oq hz1
          refine lv_iinc (v := iI (((k + 1 : Nat) : Int))) (lv' := [(8, .int (iI (((k + 1 : Nat) : Int)))), (7, .int (iI (((1 : Nat) : Int)))), (9, .int (iI ((((bd w.natAbs k : Int)) - ((bd u.natAbs k : Int))) - ((bw : Int))))), (0, .ref (r0)), (1, .int (iI ((a : Int)))), (2, .int (iI ((b : Int)))), (3, .int (iI (how))), (4, .int (iI (w.sign))), (5, .int (iI (((max n m0 : Nat) : Int)))), (6, .int (iI (cz u.natAbs w.natAbs)))]) hx hb dX10_plus_326 hl (k := 9) rfl (by show iI _ + iI _ = _; exact (iI_add _ _).trans (by first | rfl | (congr 1; omega))) (by decide) rfl (fun ls hl => ?_)
          refine lv_goto (tgt := 207) hx hb dX10_plus_329 (by decide) ?_
          exact ih (k + 1) 1 _ _ _ _ _ (by omega) (by rw [if_neg (by omega)]; omega) (hD.up rfl) (fun j h1 h2 => by rw [ud_n _ _ (by omega)]; exact hup j (by omega) h2) (ud_o (by omega) hof) (ud_s _ _ _) (fun c hc => by rw [ud_n _ _ hc]; exact hgo c hc) hO hf hg hh hS (lv_sub hl [3, 4, 5, 6, 7, 8, 9, 1, 0] rfl)
    · rw [if_pos c_216] at hbw
      have es := sb_step (hZ1 c_216) k
      have b4 := ca_le w.natAbs Z k
      have b5 := ca_le w.natAbs Z (k + 1)
      refine lv_aload_n hx hb dX10_plus_219 rfl (lv_at hl 0 rfl) ?_
      refine lv_iload_n hx hb dX10_plus_220 rfl (lv_at hl 1 rfl) ?_
      refine lv_iload hx hb dX10_plus_221 (lv_at hl 8 rfl) ?_
      refine pw_callVi (As := [.int (iI ((a : Int))), .int (iI ((k : Int)))]) (rest := []) ⟨hx, hb, hml, hown, hts⟩ (r_limb l D E r0 o f1 g1 h a k (max n k) ha (by omega) (by omega) hg1) (cwV 2 hts gX10_plus_X10_limb rfl rfl rfl (by decide +kernel) ⟨Nat.le_of_ble_eq_true rfl, Nat.le_of_ble_eq_true rfl⟩) hK hO rfl ⟨hO, hf, hg, hh⟩ rfl hl.1 rfl (Nat.le_of_ble_eq_true rfl) dX10_plus_223 ⟨Nat.zero_le _, Nat.zero_le _⟩ hS (fun q h => h.elim) (fun z H1 locs1 hz hz1 hk1 hS => ?_)
      have hO := hO.k (hk1 _ hO.lt (fun h => h))
      have hf := hf.k (hk1 _ hf.lt (fun h => h))
      have hg := hg.k (hk1 _ hg.lt (fun h => h))
      have hh := hh.k (hk1 _ hh.lt (fun h => h))
      have hz : z = (bd u.natAbs k : Int) := by
        by_cases e : k < n
        · rw [hz, if_pos (by omega)]; exact hup k (Nat.le_refl k) e
        · rw [hz, if_neg (by omega), bd_0 (Nat.lt_of_lt_of_le hrk.2.1 (rb_mono (by omega)))]; rfl
      subst hz
      refine lv_aload_n hx hb dX10_plus_226 rfl (lv_at hl 0 rfl) ?_
      refine lv_iload_n hx hb dX10_plus_227 rfl (lv_at hl 2 rfl) ?_
      refine lv_iload hx hb dX10_plus_228 (lv_at hl 8 rfl) ?_
      refine pw_callVi (As := [.int (iI ((b : Int))), .int (iI ((k : Int)))]) (rest := [.int (iI ((bd u.natAbs k : Int)))]) ⟨hx, hb, hml, hown, hts⟩ (r_limb l D E r0 o f1 g1 h b k (m0) hb0 (by omega) (by omega) ((hgo b hab).trans hgb)) (cwV 2 hts gX10_plus_X10_limb rfl rfl rfl (by decide +kernel) ⟨Nat.le_of_ble_eq_true rfl, Nat.le_of_ble_eq_true rfl⟩) hK hO rfl ⟨hO, hf, hg, hh⟩ rfl hl.1 rfl (Nat.le_of_ble_eq_true rfl) dX10_plus_230 ⟨Nat.zero_le _, Nat.zero_le _⟩ hS (fun q h => h.elim) (fun z H1 locs1 hz hz1 hk1 hS => ?_)
      have hO := hO.k (hk1 _ hO.lt (fun h => h))
      have hf := hf.k (hk1 _ hf.lt (fun h => h))
      have hg := hg.k (hk1 _ hg.lt (fun h => h))
      have hh := hh.k (hk1 _ hh.lt (fun h => h))
      have hz : z = (bd w.natAbs k : Int) := by
        by_cases e : k < m0
        · rw [hz, if_pos (by omega)]; exact (hof _ (by omega)).trans (hDb k e)
        · rw [hz, if_neg (by omega), bd_0 (Nat.lt_of_lt_of_le hrk2.2.1 (rb_mono (by omega)))]; rfl
      subst hz
      refine pw_isub hx hb dX10_plus_233 ?_
      refine lv_goto (tgt := 252) hx hb dX10_plus_234 (by decide) ?_
      refine lv_iload hx hb dX10_plus_252 (lv_at hl 7 rfl) ?_
      refine pw_isub hx hb dX10_plus_254 ?_
      refine lv_istore (lv' := [(9, .int (iI ((((bd u.natAbs k : Int)) - ((bd w.natAbs k : Int))) - ((bw : Int))))), (0, .ref (r0)), (1, .int (iI ((a : Int)))), (2, .int (iI ((b : Int)))), (3, .int (iI (how))), (4, .int (iI (w.sign))), (5, .int (iI (((max n m0 : Nat) : Int)))), (6, .int (iI (cz u.natAbs w.natAbs))), (7, .int (iI ((bw : Int)))), (8, .int (iI ((k : Int))))]) hx hb dX10_plus_255 hl (by decide) rfl (fun ls hl => ?_)
      refine lv_iload hx hb dX10_plus_257 (lv_at hl 0 rfl) ?_
      refine pw_if_ge (tgt := 266) hx hb dX10_plus_259 (by decide) (fun c_259 => ?_) (fun c_259 => ?_)
      · refine pw_iconst hx hb dX10_plus_266 ?_
        refine pw_asi (((0 : Nat) : Int)) rfl ?_
        refine lv_istore (lv' := [(7, .int (iI (((0 : Nat) : Int)))), (9, .int (iI ((((bd u.natAbs k : Int)) - ((bd w.natAbs k : Int))) - ((bw : Int))))), (0, .ref (r0)), (1, .int (iI ((a : Int)))), (2, .int (iI ((b : Int)))), (3, .int (iI (how))), (4, .int (iI (w.sign))), (5, .int (iI (((max n m0 : Nat) : Int)))), (6, .int (iI (cz u.natAbs w.natAbs))), (8, .int (iI ((k : Int))))]) hx hb dX10_plus_267 hl (by decide) rfl (fun ls hl => ?_)
        refine lv_aload_n hx hb dX10_plus_269 rfl (lv_at hl 2 rfl) ?_
        refine pw_get (C := RX10) (T := TX10) (N := 20) hx hb hts hin10 hown hK hO rfl 13 (by decide) lk_38 rfl rfl dX10_plus_270 ?_
        refine pw_bipush hx hb dX10_plus_273 ?_
        refine lv_iload_n hx hb dX10_plus_275 rfl (lv_at hl 3 rfl) ?_
        refine pw_imul hx hb dX10_plus_276 ?_
        refine lv_iload hx hb dX10_plus_277 (lv_at hl 9 rfl) ?_
        refine pw_iadd hx hb dX10_plus_279 ?_
        refine lv_iload hx hb dX10_plus_280 (lv_at hl 1 rfl) ?_
        refine lv_iload hx hb dX10_plus_282 (lv_at hl 0 rfl) ?_
        refine pw_iconst hx hb dX10_plus_284 ?_
        refine pw_icmp_ne (tgt := 293) hx hb dX10_plus_285 (by decide) (fun c_285 => ?_) (fun c_285 => absurd c_285 (by omega))
        refine pw_iconst hx hb dX10_plus_293 ?_
        refine pw_iadd hx hb dX10_plus_294 ?_
        refine pw_asi ((bd Z k : Int)) (by omega) ?_
        refine pw_iast hx hb hK hf hS (Or.inl rfl) (((64) * ((a))) + ((k))) (by omega) (by omega) (by omega) dX10_plus_295 (fun H1 locs1 hnew hz1 oq hS => ?_)
        have hO := hO.k (oq _ (by omega))
        have hg := hg.k (oq _ (by omega))
        have hh := hh.k (oq _ (by omega))
        have hf := hnew
        clear hnew oq hz1
        refine lv_aload_n hx hb dX10_plus_296 rfl (lv_at hl 2 rfl) ?_
        refine pw_get (C := RX10) (T := TX10) (N := 20) hx hb hts hin10 hown hK hO rfl 14 (by decide) lk_41 rfl rfl dX10_plus_297 ?_
        refine lv_iload_n hx hb dX10_plus_300 rfl (lv_at hl 3 rfl) ?_
        refine lv_aload_n hx hb dX10_plus_301 rfl (lv_at hl 2 rfl) ?_
        refine pw_get (C := RX10) (T := TX10) (N := 20) hx hb hts hin10 hown hK hO rfl 14 (by decide) lk_41 rfl rfl dX10_plus_302 ?_
        refine lv_iload_n hx hb dX10_plus_305 rfl (lv_at hl 3 rfl) ?_
        refine pw_iald hx hb hK hg (a) rfl (by omega) (by omega) dX10_plus_306 ?_
        refine pw_asi (((max n k : Nat) : Int)) hg1 ?_
        refine lv_iload hx hb dX10_plus_307 (lv_at hl 9 rfl) ?_
        refine pw_icmp_gt (tgt := 319) hx hb dX10_plus_309 (by decide) (fun c_309 => ?_) (fun c_309 => ?_)
        · refine lv_aload_n hx hb dX10_plus_319 rfl (lv_at hl 2 rfl) ?_
          refine pw_get (C := RX10) (T := TX10) (N := 20) hx hb hts hin10 hown hK hO rfl 14 (by decide) lk_41 rfl rfl dX10_plus_320 ?_
          refine lv_iload_n hx hb dX10_plus_323 rfl (lv_at hl 3 rfl) ?_
          refine pw_iald hx hb hK hg (a) rfl (by omega) (by omega) dX10_plus_324 ?_
          refine pw_asi (((max n (k + 1) : Nat) : Int)) (by rw [hg1]; omega) ?_
          refine pw_iast hx hb hK hg hS (Or.inr (Or.inl rfl)) (a) rfl (by omega) (by omega) dX10_plus_325 (fun H1 locs1 hnew hz1 oq hS => ?_)
          have hO := hO.k (oq _ (by omega))
          have hf := hf.k (oq _ (by omega))
          have hh := hh.k (oq _ (by omega))
          have hg := hnew
          clear hnew oq hz1
          refine lv_iinc (v := iI (((k + 1 : Nat) : Int))) (lv' := [(8, .int (iI (((k + 1 : Nat) : Int)))), (7, .int (iI (((0 : Nat) : Int)))), (9, .int (iI ((((bd u.natAbs k : Int)) - ((bd w.natAbs k : Int))) - ((bw : Int))))), (0, .ref (r0)), (1, .int (iI ((a : Int)))), (2, .int (iI ((b : Int)))), (3, .int (iI (how))), (4, .int (iI (w.sign))), (5, .int (iI (((max n m0 : Nat) : Int)))), (6, .int (iI (cz u.natAbs w.natAbs)))]) hx hb dX10_plus_326 hl (k := 9) rfl (by show iI _ + iI _ = _; exact (iI_add _ _).trans (by first | rfl | (congr 1; omega))) (by decide) rfl (fun ls hl => ?_)
          refine lv_goto (tgt := 207) hx hb dX10_plus_329 (by decide) ?_
          exact ih (k + 1) 0 _ _ _ _ _ (by omega) (by rw [if_pos c_216]; omega) (hD.up rfl) (fun j h1 h2 => by rw [ud_n _ _ (by omega)]; exact hup j (by omega) h2) (ud_o (by omega) hof) (ud_s _ _ _) (fun c hc => by rw [ud_n _ _ hc]; exact hgo c hc) hO hf hg hh hS (lv_sub hl [3, 4, 5, 6, 7, 8, 9, 1, 0] rfl)
        · refine lv_iload hx hb dX10_plus_312 (lv_at hl 9 rfl) ?_
          refine pw_iconst hx hb dX10_plus_314 ?_
          refine pw_iadd hx hb dX10_plus_315 ?_
          refine pw_asi (((max n (k + 1) : Nat) : Int)) (by omega) ?_
          refine lv_goto (tgt := 325) hx hb dX10_plus_316 (by decide) ?_
          refine pw_iast hx hb hK hg hS (Or.inr (Or.inl rfl)) (a) rfl (by omega) (by omega) dX10_plus_325 (fun H1 locs1 hnew hz1 oq hS => ?_)
          have hO := hO.k (oq _ (by omega))
          have hf := hf.k (oq _ (by omega))
          have hh := hh.k (oq _ (by omega))
          have hg := hnew
          clear hnew oq hz1
          refine lv_iinc (v := iI (((k + 1 : Nat) : Int))) (lv' := [(8, .int (iI (((k + 1 : Nat) : Int)))), (7, .int (iI (((0 : Nat) : Int)))), (9, .int (iI ((((bd u.natAbs k : Int)) - ((bd w.natAbs k : Int))) - ((bw : Int))))), (0, .ref (r0)), (1, .int (iI ((a : Int)))), (2, .int (iI ((b : Int)))), (3, .int (iI (how))), (4, .int (iI (w.sign))), (5, .int (iI (((max n m0 : Nat) : Int)))), (6, .int (iI (cz u.natAbs w.natAbs)))]) hx hb dX10_plus_326 hl (k := 9) rfl (by show iI _ + iI _ = _; exact (iI_add _ _).trans (by first | rfl | (congr 1; omega))) (by decide) rfl (fun ls hl => ?_)
          refine lv_goto (tgt := 207) hx hb dX10_plus_329 (by decide) ?_
          exact ih (k + 1) 0 _ _ _ _ _ (by omega) (by rw [if_pos c_216]; omega) (hD.up rfl) (fun j h1 h2 => by rw [ud_n _ _ (by omega)]; exact hup j (by omega) h2) (ud_o (by omega) hof) (ud_s _ _ _) (fun c hc => by rw [ud_n _ _ hc]; exact hgo c hc) hO hf hg hh hS (lv_sub hl [3, 4, 5, 6, 7, 8, 9, 1, 0] rfl)
      · refine pw_iconst hx hb dX10_plus_262 ?_
        refine pw_asi (((1 : Nat) : Int)) rfl ?_
        refine lv_goto (tgt := 267) hx hb dX10_plus_263 (by decide) ?_
        refine lv_istore (lv' := [(7, .int (iI (((1 : Nat) : Int)))), (9, .int (iI ((((bd u.natAbs k : Int)) - ((bd w.natAbs k : Int))) - ((bw : Int))))), (0, .ref (r0)), (1, .int (iI ((a : Int)))), (2, .int (iI ((b : Int)))), (3, .int (iI (how))), (4, .int (iI (w.sign))), (5, .int (iI (((max n m0 : Nat) : Int)))), (6, .int (iI (cz u.natAbs w.natAbs))), (8, .int (iI ((k : Int))))]) hx hb dX10_plus_267 hl (by decide) rfl (fun ls hl => ?_)
        refine lv_aload_n hx hb dX10_plus_269 rfl (lv_at hl 2 rfl) ?_
        refine pw_get (C := RX10) (T := TX10) (N := 20) hx hb hts hin10 hown hK hO rfl 13 (by decide) lk_38 rfl rfl dX10_plus_270 ?_
        refine pw_bipush hx hb dX10_plus_273 ?_
        refine lv_iload_n hx hb dX10_plus_275 rfl (lv_at hl 3 rfl) ?_
        refine pw_imul hx hb dX10_plus_276 ?_
        refine lv_iload hx hb dX10_plus_277 (lv_at hl 9 rfl) ?_
        refine pw_iadd hx hb dX10_plus_279 ?_
        refine lv_iload hx hb dX10_plus_280 (lv_at hl 1 rfl) ?_
        refine lv_iload hx hb dX10_plus_282 (lv_at hl 0 rfl) ?_
        refine pw_iconst hx hb dX10_plus_284 ?_
        refine pw_icmp_ne (tgt := 293) hx hb dX10_plus_285 (by decide) (fun c_285 => absurd c_285 (by omega)) (fun c_285 => ?_)
        refine pw_ldc (z := 268435456) hx hb hown kc_73 (by decide +kernel) dX10_plus_288 ?_
        refine lv_goto (tgt := 294) hx hb dX10_plus_290 (by decide) ?_
        refine pw_iadd hx hb dX10_plus_294 ?_
        refine pw_asi ((bd Z k : Int)) (by omega) ?_
        refine pw_iast hx hb hK hf hS (Or.inl rfl) (((64) * ((a))) + ((k))) (by omega) (by omega) (by omega) dX10_plus_295 (fun H1 locs1 hnew hz1 oq hS => ?_)
        have hO := hO.k (oq _ (by omega))
        have hg := hg.k (oq _ (by omega))
        have hh := hh.k (oq _ (by omega))
        have hf := hnew
        clear hnew oq hz1
        refine lv_aload_n hx hb dX10_plus_296 rfl (lv_at hl 2 rfl) ?_
        refine pw_get (C := RX10) (T := TX10) (N := 20) hx hb hts hin10 hown hK hO rfl 14 (by decide) lk_41 rfl rfl dX10_plus_297 ?_
        refine lv_iload_n hx hb dX10_plus_300 rfl (lv_at hl 3 rfl) ?_
        refine lv_aload_n hx hb dX10_plus_301 rfl (lv_at hl 2 rfl) ?_
        refine pw_get (C := RX10) (T := TX10) (N := 20) hx hb hts hin10 hown hK hO rfl 14 (by decide) lk_41 rfl rfl dX10_plus_302 ?_
        refine lv_iload_n hx hb dX10_plus_305 rfl (lv_at hl 3 rfl) ?_
        refine pw_iald hx hb hK hg (a) rfl (by omega) (by omega) dX10_plus_306 ?_
        refine pw_asi (((max n k : Nat) : Int)) hg1 ?_
        refine lv_iload hx hb dX10_plus_307 (lv_at hl 9 rfl) ?_
        refine pw_icmp_gt (tgt := 319) hx hb dX10_plus_309 (by decide) (fun c_309 => ?_) (fun c_309 => ?_)
        · refine lv_aload_n hx hb dX10_plus_319 rfl (lv_at hl 2 rfl) ?_
          refine pw_get (C := RX10) (T := TX10) (N := 20) hx hb hts hin10 hown hK hO rfl 14 (by decide) lk_41 rfl rfl dX10_plus_320 ?_
          refine lv_iload_n hx hb dX10_plus_323 rfl (lv_at hl 3 rfl) ?_
          refine pw_iald hx hb hK hg (a) rfl (by omega) (by omega) dX10_plus_324 ?_
          refine pw_asi (((max n (k + 1) : Nat) : Int)) (by rw [hg1]; omega) ?_
          refine pw_iast hx hb hK hg hS (Or.inr (Or.inl rfl)) (a) rfl (by omega) (by omega) dX10_plus_325 (fun H1 locs1 hnew hz1 oq hS => ?_)
          have hO := hO.k (oq _ (by omega))
          have hf := hf.k (oq _ (by omega))
          have hh := hh.k (oq _ (by omega))
          have hg := hnew
          clear hnew oq hz1
          refine lv_iinc (v := iI (((k + 1 : Nat) : Int))) (lv' := [(8, .int (iI (((k + 1 : Nat) : Int)))), (7, .int (iI (((1 : Nat) : Int)))), (9, .int (iI ((((bd u.natAbs k : Int)) - ((bd w.natAbs k : Int))) - ((bw : Int))))), (0, .ref (r0)), (1, .int (iI ((a : Int)))), (2, .int (iI ((b : Int)))), (3, .int (iI (how))), (4, .int (iI (w.sign))), (5, .int (iI (((max n m0 : Nat) : Int)))), (6, .int (iI (cz u.natAbs w.natAbs)))]) hx hb dX10_plus_326 hl (k := 9) rfl (by show iI _ + iI _ = _; exact (iI_add _ _).trans (by first | rfl | (congr 1; omega))) (by decide) rfl (fun ls hl => ?_)
          refine lv_goto (tgt := 207) hx hb dX10_plus_329 (by decide) ?_
          exact ih (k + 1) 1 _ _ _ _ _ (by omega) (by rw [if_pos c_216]; omega) (hD.up rfl) (fun j h1 h2 => by rw [ud_n _ _ (by omega)]; exact hup j (by omega) h2) (ud_o (by omega) hof) (ud_s _ _ _) (fun c hc => by rw [ud_n _ _ hc]; exact hgo c hc) hO hf hg hh hS (lv_sub hl [3, 4, 5, 6, 7, 8, 9, 1, 0] rfl)
        · refine lv_iload hx hb dX10_plus_312 (lv_at hl 9 rfl) ?_
          refine pw_iconst hx hb dX10_plus_314 ?_
          refine pw_iadd hx hb dX10_plus_315 ?_
          refine pw_asi (((max n (k + 1) : Nat) : Int)) (by omega) ?_
          refine lv_goto (tgt := 325) hx hb dX10_plus_316 (by decide) ?_
          refine pw_iast hx hb hK hg hS (Or.inr (Or.inl rfl)) (a) rfl (by omega) (by omega) dX10_plus_325 (fun H1 locs1 hnew hz1 oq hS => ?_)
          have hO := hO.k (oq _ (by omega))
          have hf := hf.k (oq _ (by omega))
          have hh := hh.k (oq _ (by omega))
          have hg := hnew
          clear hnew oq hz1
          refine lv_iinc (v := iI (((k + 1 : Nat) : Int))) (lv' := [(8, .int (iI (((k + 1 : Nat) : Int)))), (7, .int (iI (((1 : Nat) : Int)))), (9, .int (iI ((((bd u.natAbs k : Int)) - ((bd w.natAbs k : Int))) - ((bw : Int))))), (0, .ref (r0)), (1, .int (iI ((a : Int)))), (2, .int (iI ((b : Int)))), (3, .int (iI (how))), (4, .int (iI (w.sign))), (5, .int (iI (((max n m0 : Nat) : Int)))), (6, .int (iI (cz u.natAbs w.natAbs)))]) hx hb dX10_plus_326 hl (k := 9) rfl (by show iI _ + iI _ = _; exact (iI_add _ _).trans (by first | rfl | (congr 1; omega))) (by decide) rfl (fun ls hl => ?_)
          refine lv_goto (tgt := 207) hx hb dX10_plus_329 (by decide) ?_
          exact ih (k + 1) 1 _ _ _ _ _ (by omega) (by rw [if_pos c_216]; omega) (hD.up rfl) (fun j h1 h2 => by rw [ud_n _ _ (by omega)]; exact hup j (by omega) h2) (ud_o (by omega) hof) (ud_s _ _ _) (fun c hc => by rw [ud_n _ _ hc]; exact hgo c hc) hO hf hg hh hS (lv_sub hl [3, 4, 5, 6, 7, 8, 9, 1, 0] rfl)
