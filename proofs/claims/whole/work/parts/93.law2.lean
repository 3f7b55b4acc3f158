/-! the law's loop -/
theorem phi_uniq {G : Prop} {zf zt rn z1 z2 rn1 rn2 : Int} {σ σT σ1 σ2 : MS} (h1 : (¬ G ∧ z1 = zf ∧ σ1 = σ ∧ rn1 = rn) ∨ (G ∧ z1 = zt ∧ σ1 = σT ∧ rn1 = 0)) (h2 : (¬ G ∧ z2 = zf ∧ σ2 = σ ∧ rn2 = rn) ∨ (G ∧ z2 = zt ∧ σ2 = σT ∧ rn2 = 0)) : σ1 = σ2 ∧ rn1 = rn2 ∧ z1 = z2 := by
  rcases h1 with ⟨a, b, c, d⟩ | ⟨a, b, c, d⟩ <;> rcases h2 with ⟨a', b', c', d'⟩ | ⟨a', b', c', d'⟩
  · exact ⟨c.trans c'.symm, d.trans d'.symm, b.trans b'.symm⟩
  · exact absurd a' a
  · exact absurd a a'
  · exact ⟨c.trans c'.symm, d.trans d'.symm, b.trans b'.symm⟩
set_option maxHeartbeats 4000000 in
set_option maxRecDepth 100000 in
theorem law_state {p : Program} {e : Env} {s : State} {m : MethodId} {below : List Frame} {meth : Method} {c : Code} (l : Launch) {b L : Nat} {xs : Nat → Int32} (hL : L ≤ 2560) (C0 : lw_At p s m meth c b L xs) {D : va_G} {E : Nat → ClassId} {o0 r0 i : Nat} {σ : MS} {rn : Int} {H : Heap} {locs : List Loc} {ls : Array Slot} (hK : KK D E s) (ho : s.heap.size ≤ o0) (hro : o0 + 583 ≤ r0) (hi : i + 5 ≤ L) (hPO : PO D E o0 σ rn H) (hRP : RPO D E r0 σ rn H) (hS : va_S (fun q : Nat => s.heap.size ≤ q) s.heap H locs) (hl : lv_has ls 4 [(0, .ref (b)), (1, .ref (o0)), (2, .ref (r0)), (3, .int (iI ((i : Int))))]) (kk : ∀ (σ : MS) (rn : Int) (H : Heap) (locs : List Loc) (ls : Array Slot), PO D E o0 σ rn H → RPO D E r0 σ rn H → va_S (fun q : Nat => s.heap.size ≤ q) s.heap H locs → lv_has ls 4 [(0, .ref (b)), (1, .ref (o0)), (2, .ref (r0)), (3, .int (iI ((i : Int))))] → W p l e room_1 s m #[Value.ref b] below meth c H locs (600000) (7302250) (lw_Z below #[Value.ref b] s) (F0 m 588 ls [])) : W p l e room_1 s m #[Value.ref b] below meth c H locs (600000) (7302250) (lw_Z below #[Value.ref b] s) (F0 m 108 ls []) := by
  obtain ⟨hx, hb, hr, hml, hown, hts0, hX, hbl, hlocks, hgv⟩ := C0
  have hown : s.vm.findClass RL = some m.cls := hown
  have hts : ∀ w ∈ wsL_law, w.before #[Value.ref b] s = true := fun w hw => hts0 w (wsL_law_in w hw)
  have hbA : ¬ (fun q : Nat => s.heap.size ≤ q) b := Nat.not_le.mpr hbl
  have hok := hPO.ok.1
  have hN6 := hok.1
  refine lv_aload_n hx hb dL_law_108 rfl (lv_at hl 1 rfl) ?_
  refine pw_callVi (As := []) (rest := []) ⟨hx, hb, hml, hown, hts⟩ (c_state l D E o0 σ rn  ) (cwV 0 hts gL_law_X9_state rfl rfl rfl (by decide +kernel) ⟨Nat.le_of_ble_eq_true rfl, Nat.le_of_ble_eq_true rfl⟩) hK hPO.o.choose_spec rfl hPO rfl hl.1 rfl (Nat.le_of_ble_eq_true rfl) dL_law_109 ⟨Nat.le_of_ble_eq_true rfl, Nat.le_of_ble_eq_true rfl⟩ hS (fun q h => by (try dsimp only at h); (try dsimp only); omega) (fun z1 H1 locs1 hc1 hz1 hk1 hS => ?_)
  have hRP := hRP.k (fun q h1 h2 h3 => (hk1 _ h3 (by (try dsimp only); omega)))
  obtain ⟨σ1, rn1, hPO1, hf1⟩ : ∃ σ1 rn1, PO D E o0 σ1 rn1 H1 ∧ ((¬ (mN σ < 6) ∧ z1 = -1 ∧ σ1 = σ ∧ rn1 = rn) ∨ ((mN σ < 6) ∧ z1 = (mN σ : Int) ∧ σ1 = sS σ ∧ rn1 = 0)) := by
    rcases hc1 with ⟨a, b9, h⟩ | ⟨a, b9, h⟩
    · exact ⟨σ, rn, h, Or.inl ⟨(by omega), b9, rfl, rfl⟩⟩
    · exact ⟨sS σ, 0, h, Or.inr ⟨a, b9, rfl, rfl⟩⟩
  clear hc1
  refine lv_aload_n hx hb dL_law_112 rfl (lv_at hl 2 rfl) ?_
  refine pw_callVi (As := []) (rest := [.int (iI (z1))]) ⟨hx, hb, hml, hown, hts⟩ (r_state l D E r0 σ rn  ) (cwV 0 hts gL_law_X10_state rfl rfl rfl (by decide +kernel) ⟨Nat.le_of_ble_eq_true rfl, Nat.le_of_ble_eq_true rfl⟩) hK hRP.o.choose_spec rfl hRP rfl hl.1 rfl (Nat.le_of_ble_eq_true rfl) dL_law_113 ⟨Nat.le_of_ble_eq_true rfl, Nat.le_of_ble_eq_true rfl⟩ hS (fun q h => by (try dsimp only at h); (try dsimp only); omega) (fun z2 H1 locs1 hc2 hz1 hk1 hS => ?_)
  have hPO1 := hPO1.k (fun q h1 h2 h3 => (hk1 _ h3 (by (try dsimp only); omega)))
  obtain ⟨σ2, rn2, hRP2, hf2⟩ : ∃ σ2 rn2, RPO D E r0 σ2 rn2 H1 ∧ ((¬ (mN σ < 6) ∧ z2 = -1 ∧ σ2 = σ ∧ rn2 = rn) ∨ ((mN σ < 6) ∧ z2 = (mN σ : Int) ∧ σ2 = sS σ ∧ rn2 = 0)) := by
    rcases hc2 with ⟨a, b9, h⟩ | ⟨a, b9, h⟩
    · exact ⟨σ, rn, h, Or.inl ⟨(by omega), b9, rfl, rfl⟩⟩
    · exact ⟨sS σ, 0, h, Or.inr ⟨a, b9, rfl, rfl⟩⟩
  clear hc2
  obtain ⟨es, er, ez⟩ := phi_uniq hf1 hf2
  subst es
  subst er
  subst ez
  refine pw_icmp_same (tgt := 588) hx hb dL_law_116 (by decide) ?_
  exact kk σ1 rn1 _ _ _ hPO1 hRP2 hS (lv_sub hl [0, 1, 2, 3] rfl)
set_option maxHeartbeats 4000000 in
set_option maxRecDepth 100000 in
theorem law_action {p : Program} {e : Env} {s : State} {m : MethodId} {below : List Frame} {meth : Method} {c : Code} (l : Launch) {b L : Nat} {xs : Nat → Int32} (hL : L ≤ 2560) (C0 : lw_At p s m meth c b L xs) {D : va_G} {E : Nat → ClassId} {o0 r0 i : Nat} {σ : MS} {rn : Int} {H : Heap} {locs : List Loc} {ls : Array Slot} (hK : KK D E s) (ho : s.heap.size ≤ o0) (hro : o0 + 583 ≤ r0) (hi : i + 5 ≤ L) (hPO : PO D E o0 σ rn H) (hRP : RPO D E r0 σ rn H) (hS : va_S (fun q : Nat => s.heap.size ≤ q) s.heap H locs) (hl : lv_has ls 4 [(0, .ref (b)), (1, .ref (o0)), (2, .ref (r0)), (3, .int (iI ((i : Int))))]) (kk : ∀ (σ : MS) (rn : Int) (H : Heap) (locs : List Loc) (ls : Array Slot), PO D E o0 σ rn H → RPO D E r0 σ rn H → va_S (fun q : Nat => s.heap.size ≤ q) s.heap H locs → lv_has ls 4 [(0, .ref (b)), (1, .ref (o0)), (2, .ref (r0)), (3, .int (iI ((i : Int))))] → W p l e room_1 s m #[Value.ref b] below meth c H locs (600000) (7302250) (lw_Z below #[Value.ref b] s) (F0 m 588 ls [])) : W p l e room_1 s m #[Value.ref b] below meth c H locs (600000) (7302250) (lw_Z below #[Value.ref b] s) (F0 m 121 ls []) := by
  obtain ⟨hx, hb, hr, hml, hown, hts0, hX, hbl, hlocks, hgv⟩ := C0
  have hown : s.vm.findClass RL = some m.cls := hown
  have hts : ∀ w ∈ wsL_law, w.before #[Value.ref b] s = true := fun w hw => hts0 w (wsL_law_in w hw)
  have hbA : ¬ (fun q : Nat => s.heap.size ≤ q) b := Nat.not_le.mpr hbl
  have hok := hPO.ok.1
  have hN6 := hok.1
  refine lv_aload_n hx hb dL_law_121 rfl (lv_at hl 1 rfl) ?_
  refine lv_aload_n hx hb dL_law_122 rfl (lv_at hl 0 rfl) ?_
  refine lv_iload_n hx hb dL_law_123 rfl (lv_at hl 3 rfl) ?_
  refine pw_iconst hx hb dL_law_124 ?_
  refine pw_iadd hx hb dL_law_125 ?_
  refine pw_sld hx hb hX hbl hbA hS (i + 1) (by omega) (by omega) (by omega) dL_law_126 ?_
  refine pw_callVi (As := [.int (iI ((xs (i + 1)).toInt))]) (rest := []) ⟨hx, hb, hml, hown, hts⟩ (c_action l D E o0 σ rn ((xs (i + 1)).toInt) (iI_b (xs (i + 1))).1 (iI_b (xs (i + 1))).2) (cwV 1 hts gL_law_X9_action rfl rfl rfl (by decide +kernel) ⟨Nat.le_of_ble_eq_true rfl, Nat.le_of_ble_eq_true rfl⟩) hK hPO.o.choose_spec rfl hPO rfl hl.1 rfl (Nat.le_of_ble_eq_true rfl) dL_law_127 ⟨Nat.le_of_ble_eq_true rfl, Nat.le_of_ble_eq_true rfl⟩ hS (fun q h => by (try dsimp only at h); (try dsimp only); omega) (fun z1 H1 locs1 hc1 hz1 hk1 hS => ?_)
  have hRP := hRP.k (fun q h1 h2 h3 => (hk1 _ h3 (by (try dsimp only); omega)))
  obtain ⟨σ1, rn1, hPO1, hf1⟩ : ∃ σ1 rn1, PO D E o0 σ1 rn1 H1 ∧ ((¬ ((0 ≤ (xs (i + 1)).toInt ∧ (xs (i + 1)).toInt < (mN σ : Int)) ∧ mC σ ((xs (i + 1)).toInt).toNat < 4) ∧ z1 = -1 ∧ σ1 = σ ∧ rn1 = rn) ∨ (((0 ≤ (xs (i + 1)).toInt ∧ (xs (i + 1)).toInt < (mN σ : Int)) ∧ mC σ ((xs (i + 1)).toInt).toNat < 4) ∧ z1 = (mC σ ((xs (i + 1)).toInt).toNat : Int) ∧ σ1 = sAc σ ((xs (i + 1)).toInt).toNat ∧ rn1 = 0)) := by
    rcases hc1 with ⟨a, b9, h⟩ | ⟨a, a2, b9, h⟩
    · exact ⟨σ, rn, h, Or.inl ⟨a, b9, rfl, rfl⟩⟩
    · exact ⟨sAc σ ((xs (i + 1)).toInt).toNat, 0, h, Or.inr ⟨⟨a, a2⟩, b9, rfl, rfl⟩⟩
  clear hc1
  refine lv_aload_n hx hb dL_law_130 rfl (lv_at hl 2 rfl) ?_
  refine lv_aload_n hx hb dL_law_131 rfl (lv_at hl 0 rfl) ?_
  refine lv_iload_n hx hb dL_law_132 rfl (lv_at hl 3 rfl) ?_
  refine pw_iconst hx hb dL_law_133 ?_
  refine pw_iadd hx hb dL_law_134 ?_
  refine pw_sld hx hb hX hbl hbA hS (i + 1) (by omega) (by omega) (by omega) dL_law_135 ?_
  refine pw_callVi (As := [.int (iI ((xs (i + 1)).toInt))]) (rest := [.int (iI (z1))]) ⟨hx, hb, hml, hown, hts⟩ (r_action l D E r0 σ rn ((xs (i + 1)).toInt) (iI_b (xs (i + 1))).1 (iI_b (xs (i + 1))).2) (cwV 1 hts gL_law_X10_action rfl rfl rfl (by decide +kernel) ⟨Nat.le_of_ble_eq_true rfl, Nat.le_of_ble_eq_true rfl⟩) hK hRP.o.choose_spec rfl hRP rfl hl.1 rfl (Nat.le_of_ble_eq_true rfl) dL_law_136 ⟨Nat.le_of_ble_eq_true rfl, Nat.le_of_ble_eq_true rfl⟩ hS (fun q h => by (try dsimp only at h); (try dsimp only); omega) (fun z2 H1 locs1 hc2 hz1 hk1 hS => ?_)
  have hPO1 := hPO1.k (fun q h1 h2 h3 => (hk1 _ h3 (by (try dsimp only); omega)))
  obtain ⟨σ2, rn2, hRP2, hf2⟩ : ∃ σ2 rn2, RPO D E r0 σ2 rn2 H1 ∧ ((¬ ((0 ≤ (xs (i + 1)).toInt ∧ (xs (i + 1)).toInt < (mN σ : Int)) ∧ mC σ ((xs (i + 1)).toInt).toNat < 4) ∧ z2 = -1 ∧ σ2 = σ ∧ rn2 = rn) ∨ (((0 ≤ (xs (i + 1)).toInt ∧ (xs (i + 1)).toInt < (mN σ : Int)) ∧ mC σ ((xs (i + 1)).toInt).toNat < 4) ∧ z2 = (mC σ ((xs (i + 1)).toInt).toNat : Int) ∧ σ2 = sAc σ ((xs (i + 1)).toInt).toNat ∧ rn2 = 0)) := by
    rcases hc2 with ⟨a, b9, h⟩ | ⟨a, a2, b9, h⟩
    · exact ⟨σ, rn, h, Or.inl ⟨a, b9, rfl, rfl⟩⟩
    · exact ⟨sAc σ ((xs (i + 1)).toInt).toNat, 0, h, Or.inr ⟨⟨a, a2⟩, b9, rfl, rfl⟩⟩
  clear hc2
  obtain ⟨es, er, ez⟩ := phi_uniq hf1 hf2
  subst es
  subst er
  subst ez
  refine pw_icmp_same (tgt := 588) hx hb dL_law_139 (by decide) ?_
  exact kk σ1 rn1 _ _ _ hPO1 hRP2 hS (lv_sub hl [0, 1, 2, 3] rfl)
set_option maxHeartbeats 4000000 in
set_option maxRecDepth 100000 in
theorem law_reward {p : Program} {e : Env} {s : State} {m : MethodId} {below : List Frame} {meth : Method} {c : Code} (l : Launch) {b L : Nat} {xs : Nat → Int32} (hL : L ≤ 2560) (C0 : lw_At p s m meth c b L xs) {D : va_G} {E : Nat → ClassId} {o0 r0 i : Nat} {σ : MS} {rn : Int} {H : Heap} {locs : List Loc} {ls : Array Slot} (hK : KK D E s) (ho : s.heap.size ≤ o0) (hro : o0 + 583 ≤ r0) (hi : i + 5 ≤ L) (hPO : PO D E o0 σ rn H) (hRP : RPO D E r0 σ rn H) (hS : va_S (fun q : Nat => s.heap.size ≤ q) s.heap H locs) (hl : lv_has ls 4 [(0, .ref (b)), (1, .ref (o0)), (2, .ref (r0)), (3, .int (iI ((i : Int))))]) (kk : ∀ (σ : MS) (rn : Int) (H : Heap) (locs : List Loc) (ls : Array Slot), PO D E o0 σ rn H → RPO D E r0 σ rn H → va_S (fun q : Nat => s.heap.size ≤ q) s.heap H locs → lv_has ls 4 [(0, .ref (b)), (1, .ref (o0)), (2, .ref (r0)), (3, .int (iI ((i : Int))))] → W p l e room_1 s m #[Value.ref b] below meth c H locs (600000) (7302250) (lw_Z below #[Value.ref b] s) (F0 m 588 ls [])) : W p l e room_1 s m #[Value.ref b] below meth c H locs (600000) (7302250) (lw_Z below #[Value.ref b] s) (F0 m 144 ls []) := by
  obtain ⟨hx, hb, hr, hml, hown, hts0, hX, hbl, hlocks, hgv⟩ := C0
  have hown : s.vm.findClass RL = some m.cls := hown
  have hts : ∀ w ∈ wsL_law, w.before #[Value.ref b] s = true := fun w hw => hts0 w (wsL_law_in w hw)
  have hbA : ¬ (fun q : Nat => s.heap.size ≤ q) b := Nat.not_le.mpr hbl
  have hok := hPO.ok.1
  have hN6 := hok.1
  refine lv_aload_n hx hb dL_law_144 rfl (lv_at hl 1 rfl) ?_
  refine lv_aload_n hx hb dL_law_145 rfl (lv_at hl 0 rfl) ?_
  refine lv_iload_n hx hb dL_law_146 rfl (lv_at hl 3 rfl) ?_
  refine pw_iconst hx hb dL_law_147 ?_
  refine pw_iadd hx hb dL_law_148 ?_
  refine pw_sld hx hb hX hbl hbA hS (i + 1) (by omega) (by omega) (by omega) dL_law_149 ?_
  refine lv_aload_n hx hb dL_law_150 rfl (lv_at hl 0 rfl) ?_
  refine lv_iload_n hx hb dL_law_151 rfl (lv_at hl 3 rfl) ?_
  refine pw_iconst hx hb dL_law_152 ?_
  refine pw_iadd hx hb dL_law_153 ?_
  refine pw_sld hx hb hX hbl hbA hS (i + 2) (by omega) (by omega) (by omega) dL_law_154 ?_
  refine lv_aload_n hx hb dL_law_155 rfl (lv_at hl 0 rfl) ?_
  refine lv_iload_n hx hb dL_law_156 rfl (lv_at hl 3 rfl) ?_
  refine pw_iconst hx hb dL_law_157 ?_
  refine pw_iadd hx hb dL_law_158 ?_
  refine pw_sld hx hb hX hbl hbA hS (i + 3) (by omega) (by omega) (by omega) dL_law_159 ?_
  refine lv_aload_n hx hb dL_law_160 rfl (lv_at hl 0 rfl) ?_
  refine lv_iload_n hx hb dL_law_161 rfl (lv_at hl 3 rfl) ?_
  refine pw_iconst hx hb dL_law_162 ?_
  refine pw_iadd hx hb dL_law_163 ?_
  refine pw_sld hx hb hX hbl hbA hS (i + 4) (by omega) (by omega) (by omega) dL_law_164 ?_
  refine pw_callVi (As := [.int (iI ((xs (i + 1)).toInt)), .int (iI ((xs (i + 2)).toInt)), .int (iI ((xs (i + 3)).toInt)), .int (iI ((xs (i + 4)).toInt))]) (rest := []) ⟨hx, hb, hml, hown, hts⟩ (c_reward l D E o0 σ rn ((xs (i + 1)).toInt) ((xs (i + 2)).toInt) ((xs (i + 3)).toInt) ((xs (i + 4)).toInt) (iI_b (xs (i + 1))).1 (iI_b (xs (i + 1))).2 (iI_b (xs (i + 2))).1 (iI_b (xs (i + 2))).2 (iI_b (xs (i + 3))).1 (iI_b (xs (i + 3))).2 (iI_b (xs (i + 4))).1 (iI_b (xs (i + 4))).2) (cwV 4 hts gL_law_X9_reward rfl rfl rfl (by decide +kernel) ⟨Nat.le_of_ble_eq_true rfl, Nat.le_of_ble_eq_true rfl⟩) hK hPO.o.choose_spec rfl hPO rfl hl.1 rfl (Nat.le_of_ble_eq_true rfl) dL_law_165 ⟨Nat.le_of_ble_eq_true rfl, Nat.le_of_ble_eq_true rfl⟩ hS (fun q h => by (try dsimp only at h); (try dsimp only); omega) (fun z1 H1 locs1 hc1 hz1 hk1 hS => ?_)
  have hRP := hRP.k (fun q h1 h2 h3 => (hk1 _ h3 (by (try dsimp only); omega)))
  obtain ⟨σ1, rn1, hPO1, hf1⟩ : ∃ σ1 rn1, PO D E o0 σ1 rn1 H1 ∧ ((¬ ((0 ≤ (xs (i + 1)).toInt ∧ (xs (i + 1)).toInt < (mN σ : Int) ∧ 0 ≤ (xs (i + 2)).toInt ∧ (xs (i + 2)).toInt < (mC σ ((xs (i + 1)).toInt).toNat : Int)) ∧ (-1000 ≤ (xs (i + 3)).toInt ∧ (xs (i + 3)).toInt ≤ 1000 ∧ 1 ≤ (xs (i + 4)).toInt ∧ (xs (i + 4)).toInt ≤ 20)) ∧ z1 = 0 ∧ σ1 = σ ∧ rn1 = rn) ∨ (((0 ≤ (xs (i + 1)).toInt ∧ (xs (i + 1)).toInt < (mN σ : Int) ∧ 0 ≤ (xs (i + 2)).toInt ∧ (xs (i + 2)).toInt < (mC σ ((xs (i + 1)).toInt).toNat : Int)) ∧ (-1000 ≤ (xs (i + 3)).toInt ∧ (xs (i + 3)).toInt ≤ 1000 ∧ 1 ≤ (xs (i + 4)).toInt ∧ (xs (i + 4)).toInt ≤ 20)) ∧ z1 = 1 ∧ σ1 = sRw σ (4 * ((xs (i + 1)).toInt).toNat + ((xs (i + 2)).toInt).toNat) ((xs (i + 3)).toInt) ((xs (i + 4)).toInt).toNat ∧ rn1 = 0)) := by
    rcases hc1 with ⟨a, b9, h⟩ | ⟨a, a2, b9, h⟩
    · exact ⟨σ, rn, h, Or.inl ⟨a, b9, rfl, rfl⟩⟩
    · exact ⟨sRw σ (4 * ((xs (i + 1)).toInt).toNat + ((xs (i + 2)).toInt).toNat) ((xs (i + 3)).toInt) ((xs (i + 4)).toInt).toNat, 0, h, Or.inr ⟨⟨a, a2⟩, b9, rfl, rfl⟩⟩
  clear hc1
  refine lv_aload_n hx hb dL_law_168 rfl (lv_at hl 2 rfl) ?_
  refine lv_aload_n hx hb dL_law_169 rfl (lv_at hl 0 rfl) ?_
  refine lv_iload_n hx hb dL_law_170 rfl (lv_at hl 3 rfl) ?_
  refine pw_iconst hx hb dL_law_171 ?_
  refine pw_iadd hx hb dL_law_172 ?_
  refine pw_sld hx hb hX hbl hbA hS (i + 1) (by omega) (by omega) (by omega) dL_law_173 ?_
  refine lv_aload_n hx hb dL_law_174 rfl (lv_at hl 0 rfl) ?_
  refine lv_iload_n hx hb dL_law_175 rfl (lv_at hl 3 rfl) ?_
  refine pw_iconst hx hb dL_law_176 ?_
  refine pw_iadd hx hb dL_law_177 ?_
  refine pw_sld hx hb hX hbl hbA hS (i + 2) (by omega) (by omega) (by omega) dL_law_178 ?_
  refine lv_aload_n hx hb dL_law_179 rfl (lv_at hl 0 rfl) ?_
  refine lv_iload_n hx hb dL_law_180 rfl (lv_at hl 3 rfl) ?_
  refine pw_iconst hx hb dL_law_181 ?_
  refine pw_iadd hx hb dL_law_182 ?_
  refine pw_sld hx hb hX hbl hbA hS (i + 3) (by omega) (by omega) (by omega) dL_law_183 ?_
  refine lv_aload_n hx hb dL_law_184 rfl (lv_at hl 0 rfl) ?_
  refine lv_iload_n hx hb dL_law_185 rfl (lv_at hl 3 rfl) ?_
  refine pw_iconst hx hb dL_law_186 ?_
  refine pw_iadd hx hb dL_law_187 ?_
  refine pw_sld hx hb hX hbl hbA hS (i + 4) (by omega) (by omega) (by omega) dL_law_188 ?_
  refine pw_callVi (As := [.int (iI ((xs (i + 1)).toInt)), .int (iI ((xs (i + 2)).toInt)), .int (iI ((xs (i + 3)).toInt)), .int (iI ((xs (i + 4)).toInt))]) (rest := [.int (iI (z1))]) ⟨hx, hb, hml, hown, hts⟩ (r_reward l D E r0 σ rn ((xs (i + 1)).toInt) ((xs (i + 2)).toInt) ((xs (i + 3)).toInt) ((xs (i + 4)).toInt) (iI_b (xs (i + 1))).1 (iI_b (xs (i + 1))).2 (iI_b (xs (i + 2))).1 (iI_b (xs (i + 2))).2 (iI_b (xs (i + 3))).1 (iI_b (xs (i + 3))).2 (iI_b (xs (i + 4))).1 (iI_b (xs (i + 4))).2) (cwV 4 hts gL_law_X10_reward rfl rfl rfl (by decide +kernel) ⟨Nat.le_of_ble_eq_true rfl, Nat.le_of_ble_eq_true rfl⟩) hK hRP.o.choose_spec rfl hRP rfl hl.1 rfl (Nat.le_of_ble_eq_true rfl) dL_law_189 ⟨Nat.le_of_ble_eq_true rfl, Nat.le_of_ble_eq_true rfl⟩ hS (fun q h => by (try dsimp only at h); (try dsimp only); omega) (fun z2 H1 locs1 hc2 hz1 hk1 hS => ?_)
  have hPO1 := hPO1.k (fun q h1 h2 h3 => (hk1 _ h3 (by (try dsimp only); omega)))
  obtain ⟨σ2, rn2, hRP2, hf2⟩ : ∃ σ2 rn2, RPO D E r0 σ2 rn2 H1 ∧ ((¬ ((0 ≤ (xs (i + 1)).toInt ∧ (xs (i + 1)).toInt < (mN σ : Int) ∧ 0 ≤ (xs (i + 2)).toInt ∧ (xs (i + 2)).toInt < (mC σ ((xs (i + 1)).toInt).toNat : Int)) ∧ (-1000 ≤ (xs (i + 3)).toInt ∧ (xs (i + 3)).toInt ≤ 1000 ∧ 1 ≤ (xs (i + 4)).toInt ∧ (xs (i + 4)).toInt ≤ 20)) ∧ z2 = 0 ∧ σ2 = σ ∧ rn2 = rn) ∨ (((0 ≤ (xs (i + 1)).toInt ∧ (xs (i + 1)).toInt < (mN σ : Int) ∧ 0 ≤ (xs (i + 2)).toInt ∧ (xs (i + 2)).toInt < (mC σ ((xs (i + 1)).toInt).toNat : Int)) ∧ (-1000 ≤ (xs (i + 3)).toInt ∧ (xs (i + 3)).toInt ≤ 1000 ∧ 1 ≤ (xs (i + 4)).toInt ∧ (xs (i + 4)).toInt ≤ 20)) ∧ z2 = 1 ∧ σ2 = sRw σ (4 * ((xs (i + 1)).toInt).toNat + ((xs (i + 2)).toInt).toNat) ((xs (i + 3)).toInt) ((xs (i + 4)).toInt).toNat ∧ rn2 = 0)) := by
    rcases hc2 with ⟨a, b9, h⟩ | ⟨a, a2, b9, h⟩
    · exact ⟨σ, rn, h, Or.inl ⟨a, b9, rfl, rfl⟩⟩
    · exact ⟨sRw σ (4 * ((xs (i + 1)).toInt).toNat + ((xs (i + 2)).toInt).toNat) ((xs (i + 3)).toInt) ((xs (i + 4)).toInt).toNat, 0, h, Or.inr ⟨⟨a, a2⟩, b9, rfl, rfl⟩⟩
  clear hc2
  obtain ⟨es, er, ez⟩ := phi_uniq hf1 hf2
  subst es
  subst er
  subst ez
  refine pw_icmp_same (tgt := 588) hx hb dL_law_192 (by decide) ?_
  exact kk σ1 rn1 _ _ _ hPO1 hRP2 hS (lv_sub hl [0, 1, 2, 3] rfl)
set_option maxHeartbeats 4000000 in
set_option maxRecDepth 100000 in
theorem law_move {p : Program} {e : Env} {s : State} {m : MethodId} {below : List Frame} {meth : Method} {c : Code} (l : Launch) {b L : Nat} {xs : Nat → Int32} (hL : L ≤ 2560) (C0 : lw_At p s m meth c b L xs) {D : va_G} {E : Nat → ClassId} {o0 r0 i : Nat} {σ : MS} {rn : Int} {H : Heap} {locs : List Loc} {ls : Array Slot} (hK : KK D E s) (ho : s.heap.size ≤ o0) (hro : o0 + 583 ≤ r0) (hi : i + 5 ≤ L) (hPO : PO D E o0 σ rn H) (hRP : RPO D E r0 σ rn H) (hS : va_S (fun q : Nat => s.heap.size ≤ q) s.heap H locs) (hl : lv_has ls 4 [(0, .ref (b)), (1, .ref (o0)), (2, .ref (r0)), (3, .int (iI ((i : Int))))]) (kk : ∀ (σ : MS) (rn : Int) (H : Heap) (locs : List Loc) (ls : Array Slot), PO D E o0 σ rn H → RPO D E r0 σ rn H → va_S (fun q : Nat => s.heap.size ≤ q) s.heap H locs → lv_has ls 4 [(0, .ref (b)), (1, .ref (o0)), (2, .ref (r0)), (3, .int (iI ((i : Int))))] → W p l e room_1 s m #[Value.ref b] below meth c H locs (600000) (7302250) (lw_Z below #[Value.ref b] s) (F0 m 588 ls [])) : W p l e room_1 s m #[Value.ref b] below meth c H locs (600000) (7302250) (lw_Z below #[Value.ref b] s) (F0 m 197 ls []) := by
  obtain ⟨hx, hb, hr, hml, hown, hts0, hX, hbl, hlocks, hgv⟩ := C0
  have hown : s.vm.findClass RL = some m.cls := hown
  have hts : ∀ w ∈ wsL_law, w.before #[Value.ref b] s = true := fun w hw => hts0 w (wsL_law_in w hw)
  have hbA : ¬ (fun q : Nat => s.heap.size ≤ q) b := Nat.not_le.mpr hbl
  have hok := hPO.ok.1
  have hN6 := hok.1
  refine lv_aload_n hx hb dL_law_197 rfl (lv_at hl 1 rfl) ?_
  refine lv_aload_n hx hb dL_law_198 rfl (lv_at hl 0 rfl) ?_
  refine lv_iload_n hx hb dL_law_199 rfl (lv_at hl 3 rfl) ?_
  refine pw_iconst hx hb dL_law_200 ?_
  refine pw_iadd hx hb dL_law_201 ?_
  refine pw_sld hx hb hX hbl hbA hS (i + 1) (by omega) (by omega) (by omega) dL_law_202 ?_
  refine lv_aload_n hx hb dL_law_203 rfl (lv_at hl 0 rfl) ?_
  refine lv_iload_n hx hb dL_law_204 rfl (lv_at hl 3 rfl) ?_
  refine pw_iconst hx hb dL_law_205 ?_
  refine pw_iadd hx hb dL_law_206 ?_
  refine pw_sld hx hb hX hbl hbA hS (i + 2) (by omega) (by omega) (by omega) dL_law_207 ?_
  refine lv_aload_n hx hb dL_law_208 rfl (lv_at hl 0 rfl) ?_
  refine lv_iload_n hx hb dL_law_209 rfl (lv_at hl 3 rfl) ?_
  refine pw_iconst hx hb dL_law_210 ?_
  refine pw_iadd hx hb dL_law_211 ?_
  refine pw_sld hx hb hX hbl hbA hS (i + 3) (by omega) (by omega) (by omega) dL_law_212 ?_
  refine lv_aload_n hx hb dL_law_213 rfl (lv_at hl 0 rfl) ?_
  refine lv_iload_n hx hb dL_law_214 rfl (lv_at hl 3 rfl) ?_
  refine pw_iconst hx hb dL_law_215 ?_
  refine pw_iadd hx hb dL_law_216 ?_
  refine pw_sld hx hb hX hbl hbA hS (i + 4) (by omega) (by omega) (by omega) dL_law_217 ?_
  refine pw_callVi (As := [.int (iI ((xs (i + 1)).toInt)), .int (iI ((xs (i + 2)).toInt)), .int (iI ((xs (i + 3)).toInt)), .int (iI ((xs (i + 4)).toInt))]) (rest := []) ⟨hx, hb, hml, hown, hts⟩ (c_move l D E o0 σ rn ((xs (i + 1)).toInt) ((xs (i + 2)).toInt) ((xs (i + 3)).toInt) ((xs (i + 4)).toInt) (iI_b (xs (i + 1))).1 (iI_b (xs (i + 1))).2 (iI_b (xs (i + 2))).1 (iI_b (xs (i + 2))).2 (iI_b (xs (i + 3))).1 (iI_b (xs (i + 3))).2 (iI_b (xs (i + 4))).1 (iI_b (xs (i + 4))).2) (cwV 4 hts gL_law_X9_move rfl rfl rfl (by decide +kernel) ⟨Nat.le_of_ble_eq_true rfl, Nat.le_of_ble_eq_true rfl⟩) hK hPO.o.choose_spec rfl hPO rfl hl.1 rfl (Nat.le_of_ble_eq_true rfl) dL_law_218 ⟨Nat.le_of_ble_eq_true rfl, Nat.le_of_ble_eq_true rfl⟩ hS (fun q h => by (try dsimp only at h); (try dsimp only); omega) (fun z1 H1 locs1 hc1 hz1 hk1 hS => ?_)
  have hRP := hRP.k (fun q h1 h2 h3 => (hk1 _ h3 (by (try dsimp only); omega)))
  obtain ⟨σ1, rn1, hPO1, hf1⟩ : ∃ σ1 rn1, PO D E o0 σ1 rn1 H1 ∧ ((¬ ((0 ≤ (xs (i + 1)).toInt ∧ (xs (i + 1)).toInt < (mN σ : Int) ∧ 0 ≤ (xs (i + 2)).toInt ∧ (xs (i + 2)).toInt < (mC σ ((xs (i + 1)).toInt).toNat : Int)) ∧ (0 ≤ (xs (i + 3)).toInt ∧ (xs (i + 3)).toInt < (mN σ : Int)) ∧ 0 ≤ (xs (i + 4)).toInt ∧ (xs (i + 4)).toInt ≤ 20) ∧ z1 = 0 ∧ σ1 = σ ∧ rn1 = rn) ∨ (((0 ≤ (xs (i + 1)).toInt ∧ (xs (i + 1)).toInt < (mN σ : Int) ∧ 0 ≤ (xs (i + 2)).toInt ∧ (xs (i + 2)).toInt < (mC σ ((xs (i + 1)).toInt).toNat : Int)) ∧ (0 ≤ (xs (i + 3)).toInt ∧ (xs (i + 3)).toInt < (mN σ : Int)) ∧ 0 ≤ (xs (i + 4)).toInt ∧ (xs (i + 4)).toInt ≤ 20) ∧ z1 = 1 ∧ σ1 = sMv σ (4 * ((xs (i + 1)).toInt).toNat + ((xs (i + 2)).toInt).toNat) ((xs (i + 3)).toInt).toNat ((xs (i + 4)).toInt).toNat ∧ rn1 = 0)) := by
    rcases hc1 with ⟨a, b9, h⟩ | ⟨a, a2, a3, b9, h⟩
    · exact ⟨σ, rn, h, Or.inl ⟨a, b9, rfl, rfl⟩⟩
    · exact ⟨sMv σ (4 * ((xs (i + 1)).toInt).toNat + ((xs (i + 2)).toInt).toNat) ((xs (i + 3)).toInt).toNat ((xs (i + 4)).toInt).toNat, 0, h, Or.inr ⟨⟨a, a2, a3⟩, b9, rfl, rfl⟩⟩
  clear hc1
  refine lv_aload_n hx hb dL_law_221 rfl (lv_at hl 2 rfl) ?_
  refine lv_aload_n hx hb dL_law_222 rfl (lv_at hl 0 rfl) ?_
  refine lv_iload_n hx hb dL_law_223 rfl (lv_at hl 3 rfl) ?_
  refine pw_iconst hx hb dL_law_224 ?_
  refine pw_iadd hx hb dL_law_225 ?_
  refine pw_sld hx hb hX hbl hbA hS (i + 1) (by omega) (by omega) (by omega) dL_law_226 ?_
  refine lv_aload_n hx hb dL_law_227 rfl (lv_at hl 0 rfl) ?_
  refine lv_iload_n hx hb dL_law_228 rfl (lv_at hl 3 rfl) ?_
  refine pw_iconst hx hb dL_law_229 ?_
  refine pw_iadd hx hb dL_law_230 ?_
  refine pw_sld hx hb hX hbl hbA hS (i + 2) (by omega) (by omega) (by omega) dL_law_231 ?_
  refine lv_aload_n hx hb dL_law_232 rfl (lv_at hl 0 rfl) ?_
  refine lv_iload_n hx hb dL_law_233 rfl (lv_at hl 3 rfl) ?_
  refine pw_iconst hx hb dL_law_234 ?_
  refine pw_iadd hx hb dL_law_235 ?_
  refine pw_sld hx hb hX hbl hbA hS (i + 3) (by omega) (by omega) (by omega) dL_law_236 ?_
  refine lv_aload_n hx hb dL_law_237 rfl (lv_at hl 0 rfl) ?_
  refine lv_iload_n hx hb dL_law_238 rfl (lv_at hl 3 rfl) ?_
  refine pw_iconst hx hb dL_law_239 ?_
  refine pw_iadd hx hb dL_law_240 ?_
  refine pw_sld hx hb hX hbl hbA hS (i + 4) (by omega) (by omega) (by omega) dL_law_241 ?_
  refine pw_callVi (As := [.int (iI ((xs (i + 1)).toInt)), .int (iI ((xs (i + 2)).toInt)), .int (iI ((xs (i + 3)).toInt)), .int (iI ((xs (i + 4)).toInt))]) (rest := [.int (iI (z1))]) ⟨hx, hb, hml, hown, hts⟩ (r_move l D E r0 σ rn ((xs (i + 1)).toInt) ((xs (i + 2)).toInt) ((xs (i + 3)).toInt) ((xs (i + 4)).toInt) (iI_b (xs (i + 1))).1 (iI_b (xs (i + 1))).2 (iI_b (xs (i + 2))).1 (iI_b (xs (i + 2))).2 (iI_b (xs (i + 3))).1 (iI_b (xs (i + 3))).2 (iI_b (xs (i + 4))).1 (iI_b (xs (i + 4))).2) (cwV 4 hts gL_law_X10_move rfl rfl rfl (by decide +kernel) ⟨Nat.le_of_ble_eq_true rfl, Nat.le_of_ble_eq_true rfl⟩) hK hRP.o.choose_spec rfl hRP rfl hl.1 rfl (Nat.le_of_ble_eq_true rfl) dL_law_242 ⟨Nat.le_of_ble_eq_true rfl, Nat.le_of_ble_eq_true rfl⟩ hS (fun q h => by (try dsimp only at h); (try dsimp only); omega) (fun z2 H1 locs1 hc2 hz1 hk1 hS => ?_)
  have hPO1 := hPO1.k (fun q h1 h2 h3 => (hk1 _ h3 (by (try dsimp only); omega)))
  obtain ⟨σ2, rn2, hRP2, hf2⟩ : ∃ σ2 rn2, RPO D E r0 σ2 rn2 H1 ∧ ((¬ ((0 ≤ (xs (i + 1)).toInt ∧ (xs (i + 1)).toInt < (mN σ : Int) ∧ 0 ≤ (xs (i + 2)).toInt ∧ (xs (i + 2)).toInt < (mC σ ((xs (i + 1)).toInt).toNat : Int)) ∧ (0 ≤ (xs (i + 3)).toInt ∧ (xs (i + 3)).toInt < (mN σ : Int)) ∧ 0 ≤ (xs (i + 4)).toInt ∧ (xs (i + 4)).toInt ≤ 20) ∧ z2 = 0 ∧ σ2 = σ ∧ rn2 = rn) ∨ (((0 ≤ (xs (i + 1)).toInt ∧ (xs (i + 1)).toInt < (mN σ : Int) ∧ 0 ≤ (xs (i + 2)).toInt ∧ (xs (i + 2)).toInt < (mC σ ((xs (i + 1)).toInt).toNat : Int)) ∧ (0 ≤ (xs (i + 3)).toInt ∧ (xs (i + 3)).toInt < (mN σ : Int)) ∧ 0 ≤ (xs (i + 4)).toInt ∧ (xs (i + 4)).toInt ≤ 20) ∧ z2 = 1 ∧ σ2 = sMv σ (4 * ((xs (i + 1)).toInt).toNat + ((xs (i + 2)).toInt).toNat) ((xs (i + 3)).toInt).toNat ((xs (i + 4)).toInt).toNat ∧ rn2 = 0)) := by
    rcases hc2 with ⟨a, b9, h⟩ | ⟨a, a2, a3, b9, h⟩
    · exact ⟨σ, rn, h, Or.inl ⟨a, b9, rfl, rfl⟩⟩
    · exact ⟨sMv σ (4 * ((xs (i + 1)).toInt).toNat + ((xs (i + 2)).toInt).toNat) ((xs (i + 3)).toInt).toNat ((xs (i + 4)).toInt).toNat, 0, h, Or.inr ⟨⟨a, a2, a3⟩, b9, rfl, rfl⟩⟩
  clear hc2
  obtain ⟨es, er, ez⟩ := phi_uniq hf1 hf2
  subst es
  subst er
  subst ez
  refine pw_icmp_same (tgt := 588) hx hb dL_law_245 (by decide) ?_
  exact kk σ1 rn1 _ _ _ hPO1 hRP2 hS (lv_sub hl [0, 1, 2, 3] rfl)
set_option maxHeartbeats 4000000 in
set_option maxRecDepth 100000 in
theorem law_discount {p : Program} {e : Env} {s : State} {m : MethodId} {below : List Frame} {meth : Method} {c : Code} (l : Launch) {b L : Nat} {xs : Nat → Int32} (hL : L ≤ 2560) (C0 : lw_At p s m meth c b L xs) {D : va_G} {E : Nat → ClassId} {o0 r0 i : Nat} {σ : MS} {rn : Int} {H : Heap} {locs : List Loc} {ls : Array Slot} (hK : KK D E s) (ho : s.heap.size ≤ o0) (hro : o0 + 583 ≤ r0) (hi : i + 5 ≤ L) (hPO : PO D E o0 σ rn H) (hRP : RPO D E r0 σ rn H) (hS : va_S (fun q : Nat => s.heap.size ≤ q) s.heap H locs) (hl : lv_has ls 4 [(0, .ref (b)), (1, .ref (o0)), (2, .ref (r0)), (3, .int (iI ((i : Int))))]) (kk : ∀ (σ : MS) (rn : Int) (H : Heap) (locs : List Loc) (ls : Array Slot), PO D E o0 σ rn H → RPO D E r0 σ rn H → va_S (fun q : Nat => s.heap.size ≤ q) s.heap H locs → lv_has ls 4 [(0, .ref (b)), (1, .ref (o0)), (2, .ref (r0)), (3, .int (iI ((i : Int))))] → W p l e room_1 s m #[Value.ref b] below meth c H locs (600000) (7302250) (lw_Z below #[Value.ref b] s) (F0 m 588 ls [])) : W p l e room_1 s m #[Value.ref b] below meth c H locs (600000) (7302250) (lw_Z below #[Value.ref b] s) (F0 m 250 ls []) := by
  obtain ⟨hx, hb, hr, hml, hown, hts0, hX, hbl, hlocks, hgv⟩ := C0
  have hown : s.vm.findClass RL = some m.cls := hown
  have hts : ∀ w ∈ wsL_law, w.before #[Value.ref b] s = true := fun w hw => hts0 w (wsL_law_in w hw)
  have hbA : ¬ (fun q : Nat => s.heap.size ≤ q) b := Nat.not_le.mpr hbl
  have hok := hPO.ok.1
  have hN6 := hok.1
  refine lv_aload_n hx hb dL_law_250 rfl (lv_at hl 1 rfl) ?_
  refine lv_aload_n hx hb dL_law_251 rfl (lv_at hl 0 rfl) ?_
  refine lv_iload_n hx hb dL_law_252 rfl (lv_at hl 3 rfl) ?_
  refine pw_iconst hx hb dL_law_253 ?_
  refine pw_iadd hx hb dL_law_254 ?_
  refine pw_sld hx hb hX hbl hbA hS (i + 1) (by omega) (by omega) (by omega) dL_law_255 ?_
  refine lv_aload_n hx hb dL_law_256 rfl (lv_at hl 0 rfl) ?_
  refine lv_iload_n hx hb dL_law_257 rfl (lv_at hl 3 rfl) ?_
  refine pw_iconst hx hb dL_law_258 ?_
  refine pw_iadd hx hb dL_law_259 ?_
  refine pw_sld hx hb hX hbl hbA hS (i + 2) (by omega) (by omega) (by omega) dL_law_260 ?_
  refine pw_callVi (As := [.int (iI ((xs (i + 1)).toInt)), .int (iI ((xs (i + 2)).toInt))]) (rest := []) ⟨hx, hb, hml, hown, hts⟩ (c_discount l D E o0 σ rn ((xs (i + 1)).toInt) ((xs (i + 2)).toInt) (iI_b (xs (i + 1))).1 (iI_b (xs (i + 1))).2 (iI_b (xs (i + 2))).1 (iI_b (xs (i + 2))).2) (cwV 2 hts gL_law_X9_discount rfl rfl rfl (by decide +kernel) ⟨Nat.le_of_ble_eq_true rfl, Nat.le_of_ble_eq_true rfl⟩) hK hPO.o.choose_spec rfl hPO rfl hl.1 rfl (Nat.le_of_ble_eq_true rfl) dL_law_261 ⟨Nat.le_of_ble_eq_true rfl, Nat.le_of_ble_eq_true rfl⟩ hS (fun q h => by (try dsimp only at h); (try dsimp only); omega) (fun z1 H1 locs1 hc1 hz1 hk1 hS => ?_)
  have hRP := hRP.k (fun q h1 h2 h3 => (hk1 _ h3 (by (try dsimp only); omega)))
  obtain ⟨σ1, rn1, hPO1, hf1⟩ : ∃ σ1 rn1, PO D E o0 σ1 rn1 H1 ∧ ((¬ (0 ≤ (xs (i + 1)).toInt ∧ (xs (i + 1)).toInt < (xs (i + 2)).toInt ∧ (xs (i + 2)).toInt ≤ 20) ∧ z1 = 0 ∧ σ1 = σ ∧ rn1 = rn) ∨ ((0 ≤ (xs (i + 1)).toInt ∧ (xs (i + 1)).toInt < (xs (i + 2)).toInt ∧ (xs (i + 2)).toInt ≤ 20) ∧ z1 = 1 ∧ σ1 = sG σ ((xs (i + 1)).toInt).toNat ((xs (i + 2)).toInt).toNat ∧ rn1 = 0)) := by
    rcases hc1 with ⟨a, b9, h⟩ | ⟨a, a2, a3, b9, h⟩
    · exact ⟨σ, rn, h, Or.inl ⟨a, b9, rfl, rfl⟩⟩
    · exact ⟨sG σ ((xs (i + 1)).toInt).toNat ((xs (i + 2)).toInt).toNat, 0, h, Or.inr ⟨⟨a, a2, a3⟩, b9, rfl, rfl⟩⟩
  clear hc1
  refine lv_aload_n hx hb dL_law_264 rfl (lv_at hl 2 rfl) ?_
  refine lv_aload_n hx hb dL_law_265 rfl (lv_at hl 0 rfl) ?_
  refine lv_iload_n hx hb dL_law_266 rfl (lv_at hl 3 rfl) ?_
  refine pw_iconst hx hb dL_law_267 ?_
  refine pw_iadd hx hb dL_law_268 ?_
  refine pw_sld hx hb hX hbl hbA hS (i + 1) (by omega) (by omega) (by omega) dL_law_269 ?_
  refine lv_aload_n hx hb dL_law_270 rfl (lv_at hl 0 rfl) ?_
  refine lv_iload_n hx hb dL_law_271 rfl (lv_at hl 3 rfl) ?_
  refine pw_iconst hx hb dL_law_272 ?_
  refine pw_iadd hx hb dL_law_273 ?_
  refine pw_sld hx hb hX hbl hbA hS (i + 2) (by omega) (by omega) (by omega) dL_law_274 ?_
  refine pw_callVi (As := [.int (iI ((xs (i + 1)).toInt)), .int (iI ((xs (i + 2)).toInt))]) (rest := [.int (iI (z1))]) ⟨hx, hb, hml, hown, hts⟩ (r_discount l D E r0 σ rn ((xs (i + 1)).toInt) ((xs (i + 2)).toInt) (iI_b (xs (i + 1))).1 (iI_b (xs (i + 1))).2 (iI_b (xs (i + 2))).1 (iI_b (xs (i + 2))).2) (cwV 2 hts gL_law_X10_discount rfl rfl rfl (by decide +kernel) ⟨Nat.le_of_ble_eq_true rfl, Nat.le_of_ble_eq_true rfl⟩) hK hRP.o.choose_spec rfl hRP rfl hl.1 rfl (Nat.le_of_ble_eq_true rfl) dL_law_275 ⟨Nat.le_of_ble_eq_true rfl, Nat.le_of_ble_eq_true rfl⟩ hS (fun q h => by (try dsimp only at h); (try dsimp only); omega) (fun z2 H1 locs1 hc2 hz1 hk1 hS => ?_)
  have hPO1 := hPO1.k (fun q h1 h2 h3 => (hk1 _ h3 (by (try dsimp only); omega)))
  obtain ⟨σ2, rn2, hRP2, hf2⟩ : ∃ σ2 rn2, RPO D E r0 σ2 rn2 H1 ∧ ((¬ (0 ≤ (xs (i + 1)).toInt ∧ (xs (i + 1)).toInt < (xs (i + 2)).toInt ∧ (xs (i + 2)).toInt ≤ 20) ∧ z2 = 0 ∧ σ2 = σ ∧ rn2 = rn) ∨ ((0 ≤ (xs (i + 1)).toInt ∧ (xs (i + 1)).toInt < (xs (i + 2)).toInt ∧ (xs (i + 2)).toInt ≤ 20) ∧ z2 = 1 ∧ σ2 = sG σ ((xs (i + 1)).toInt).toNat ((xs (i + 2)).toInt).toNat ∧ rn2 = 0)) := by
    rcases hc2 with ⟨a, b9, h⟩ | ⟨a, a2, a3, b9, h⟩
    · exact ⟨σ, rn, h, Or.inl ⟨a, b9, rfl, rfl⟩⟩
    · exact ⟨sG σ ((xs (i + 1)).toInt).toNat ((xs (i + 2)).toInt).toNat, 0, h, Or.inr ⟨⟨a, a2, a3⟩, b9, rfl, rfl⟩⟩
  clear hc2
  obtain ⟨es, er, ez⟩ := phi_uniq hf1 hf2
  subst es
  subst er
  subst ez
  refine pw_icmp_same (tgt := 588) hx hb dL_law_278 (by decide) ?_
  exact kk σ1 rn1 _ _ _ hPO1 hRP2 hS (lv_sub hl [0, 1, 2, 3] rfl)
set_option maxHeartbeats 4000000 in
set_option maxRecDepth 100000 in
theorem law_solve {p : Program} {e : Env} {s : State} {m : MethodId} {below : List Frame} {meth : Method} {c : Code} (l : Launch) {b L : Nat} {xs : Nat → Int32} (hL : L ≤ 2560) (C0 : lw_At p s m meth c b L xs) {D : va_G} {E : Nat → ClassId} {o0 r0 i : Nat} {σ : MS} {rn : Int} {H : Heap} {locs : List Loc} {ls : Array Slot} (hK : KK D E s) (ho : s.heap.size ≤ o0) (hro : o0 + 583 ≤ r0) (hi : i + 5 ≤ L) (hPO : PO D E o0 σ rn H) (hRP : RPO D E r0 σ rn H) (hS : va_S (fun q : Nat => s.heap.size ≤ q) s.heap H locs) (hl : lv_has ls 4 [(0, .ref (b)), (1, .ref (o0)), (2, .ref (r0)), (3, .int (iI ((i : Int))))]) (kk : ∀ (σ : MS) (rn : Int) (H : Heap) (locs : List Loc) (ls : Array Slot), PO D E o0 σ rn H → RPO D E r0 σ rn H → va_S (fun q : Nat => s.heap.size ≤ q) s.heap H locs → lv_has ls 4 [(0, .ref (b)), (1, .ref (o0)), (2, .ref (r0)), (3, .int (iI ((i : Int))))] → W p l e room_1 s m #[Value.ref b] below meth c H locs (600000) (7302250) (lw_Z below #[Value.ref b] s) (F0 m 588 ls [])) : W p l e room_1 s m #[Value.ref b] below meth c H locs (600000) (7302250) (lw_Z below #[Value.ref b] s) (F0 m 283 ls []) := by
  obtain ⟨hx, hb, hr, hml, hown, hts0, hX, hbl, hlocks, hgv⟩ := C0
  have hown : s.vm.findClass RL = some m.cls := hown
  have hts : ∀ w ∈ wsL_law, w.before #[Value.ref b] s = true := fun w hw => hts0 w (wsL_law_in w hw)
  have hbA : ¬ (fun q : Nat => s.heap.size ≤ q) b := Nat.not_le.mpr hbl
  have hok := hPO.ok.1
  have hN6 := hok.1
  refine lv_aload_n hx hb dL_law_283 rfl (lv_at hl 1 rfl) ?_
  obtain ⟨bv, bd, bp, wn, wd, wq, kn, V, B, pk, ⟨hO, hM, hE, hCx, hLD, hRW, hBP, hQ, hWS, hZ, hT, hF, hW1, hW2, hW3⟩, hINV⟩ := hPO
  refine pw_callVi (As := []) (rest := []) ⟨hx, hb, hml, hown, hts⟩ (c_solve l D E o0 σ rn bv bd bp hINV.1 hINV.2.1) (cwV 0 hts gL_law_X9_solve rfl rfl rfl (by decide +kernel) ⟨Nat.le_of_ble_eq_true rfl, Nat.le_of_ble_eq_true rfl⟩) hK hO rfl ⟨hM, hO, hE, hCx, hRW, hBP⟩ rfl hl.1 rfl (Nat.le_of_ble_eq_true rfl) dL_law_284 ⟨Nat.le_of_ble_eq_true rfl, Nat.le_of_ble_eq_true rfl⟩ hS (fun q h => by (try dsimp only at h); (try dsimp only); omega) (fun z1 H1 locs1 hc1 hz1 hk1 hS => ?_)
  have hRP := hRP.k (fun q h1 h2 h3 => (hk1 _ h3 (by (try dsimp only); omega)))
  have hM := hM.k (fun q h1 h2 h3 => (hk1 _ h3 (by (try dsimp only); omega)))
  have hLD := hLD.k (fun q h1 h2 h3 => (hk1 _ h3 (by (try dsimp only); omega)))
  have hWS := hWS.k (fun q h1 h2 h3 => (hk1 _ h3 (by (try dsimp only); omega)))
  have hT := hT.k (fun q h1 h2 h3 => (hk1 _ h3 (by (try dsimp only); omega)))
  have hF := hF.k (fun q h1 h2 h3 => (hk1 _ h3 (by (try dsimp only); omega)))
  have hW1 := hW1.k (fun q h1 h2 h3 => (hk1 _ h3 (by (try dsimp only); omega)))
  have hW2 := hW2.k (fun q h1 h2 h3 => (hk1 _ h3 (by (try dsimp only); omega)))
  have hW3 := hW3.k (fun q h1 h2 h3 => (hk1 _ h3 (by (try dsimp only); omega)))
  have hQ := hQ.k (hk1 _ hQ.lt (by (try dsimp only); omega))
  have hZ := hZ.k (hk1 _ hZ.lt (by (try dsimp only); omega))
  obtain ⟨rn1, hPO1, hf1⟩ : ∃ rn1, PO D E o0 σ rn1 H1 ∧ ((¬ rdy σ ∧ z1 = -1 ∧ rn1 = rn) ∨ (rdy σ ∧ 0 < rn1 ∧ z1 = rn1)) := by
    rcases hc1 with ⟨a, b9, hO9, hE9, hC9, hR9, hB9⟩ | ⟨a, a2, b9, hO9, hE9, hC9, hR9, hB9⟩ | ⟨a, a2, r9, bp9, bv9, bd9, b9, a3, a4, hO9, hE9, hC9, hR9, hB9⟩
    · exact ⟨rn, ⟨_, _, _, wn, wd, wq, kn, V, B, pk, ⟨hO9, hM, hE9, hC9, hLD, hR9, hB9, hQ, hWS, hZ, hT, hF, hW1, hW2, hW3⟩, hINV⟩, Or.inl ⟨a, b9, rfl⟩⟩
    · exact ⟨rn, ⟨_, _, _, wn, wd, wq, kn, V, B, pk, ⟨hO9, hM, hE9, hC9, hLD, hR9, hB9, hQ, hWS, hZ, hT, hF, hW1, hW2, hW3⟩, hINV⟩, Or.inr ⟨a, a2, b9⟩⟩
    · have hr9 : 0 < r9 := by obtain ⟨sq, _, h9, _⟩ := a4; exact h9
      exact ⟨(r9 : Int), ⟨_, _, _, wn, wd, wq, kn, V, B, pk, ⟨hO9, hM, hE9, hC9, hLD, hR9, hB9, hQ, hWS, hZ, hT, hF, hW1, hW2, hW3⟩, ⟨hINV.1, by omega, fun _ => ⟨a, a4⟩, hINV.2.2.2⟩⟩, Or.inr ⟨a, by omega, b9⟩⟩
  clear hc1
  refine lv_aload_n hx hb dL_law_287 rfl (lv_at hl 2 rfl) ?_
  refine pw_callVi (As := []) (rest := [.int (iI (z1))]) ⟨hx, hb, hml, hown, hts⟩ (r_solve l D E r0 σ rn) (cwV 0 hts gL_law_X10_solve rfl rfl rfl (by decide +kernel) ⟨Nat.le_of_ble_eq_true rfl, Nat.le_of_ble_eq_true rfl⟩) hK hRP.o.choose_spec rfl hRP rfl hl.1 rfl (Nat.le_of_ble_eq_true rfl) dL_law_288 ⟨Nat.le_of_ble_eq_true rfl, Nat.le_of_ble_eq_true rfl⟩ hS (fun q h => by (try dsimp only at h); (try dsimp only); omega) (fun z2 H1 locs1 hc2 hz1 hk1 hS => ?_)
  have hPO1 := hPO1.k (fun q h1 h2 h3 => (hk1 _ h3 (by (try dsimp only); omega)))
  obtain ⟨rn2, hRP2, hf2⟩ : ∃ rn2, RPO D E r0 σ rn2 H1 ∧ ((¬ rdy σ ∧ z2 = -1 ∧ rn2 = rn) ∨ (rdy σ ∧ 0 < rn2 ∧ z2 = rn2)) := by
    rcases hc2 with ⟨a, b9, h⟩ | ⟨a, r9, b9, a2, h⟩
    · exact ⟨rn, h, Or.inl ⟨a, b9, rfl⟩⟩
    · exact ⟨(r9 : Int), h, Or.inr ⟨a, by omega, b9⟩⟩
  clear hc2
  obtain ⟨er, ez⟩ : rn1 = rn2 ∧ z1 = z2 := by
    rcases hf1 with ⟨a, b1, c1⟩ | ⟨a, b1, c1⟩ <;> rcases hf2 with ⟨a9, b2, c2⟩ | ⟨a9, b2, c2⟩
    · exact ⟨by rw [c1, c2], by rw [b1, b2]⟩
    · exact absurd a9 a
    · exact absurd a a9
    · obtain ⟨_, bp1, bv1, bd1, s1⟩ := hPO1.ok.2.2 b1
      obtain ⟨_, bp2, bv2, bd2, s2⟩ := hRP2.ok b2
      have e9 := (sol_uniq hok a s1 s2).1
      have e8 : rn1 = rn2 := by omega
      exact ⟨e8, by rw [c1, c2, e8]⟩
  subst er
  subst ez
  refine pw_icmp_same (tgt := 588) hx hb dL_law_291 (by decide) ?_
  exact kk σ rn1 _ _ _ hPO1 hRP2 hS (lv_sub hl [0, 1, 2, 3] rfl)
set_option maxHeartbeats 4000000 in
set_option maxRecDepth 100000 in
theorem law_policy {p : Program} {e : Env} {s : State} {m : MethodId} {below : List Frame} {meth : Method} {c : Code} (l : Launch) {b L : Nat} {xs : Nat → Int32} (hL : L ≤ 2560) (C0 : lw_At p s m meth c b L xs) {D : va_G} {E : Nat → ClassId} {o0 r0 i : Nat} {σ : MS} {rn : Int} {H : Heap} {locs : List Loc} {ls : Array Slot} (hK : KK D E s) (ho : s.heap.size ≤ o0) (hro : o0 + 583 ≤ r0) (hi : i + 5 ≤ L) (hPO : PO D E o0 σ rn H) (hRP : RPO D E r0 σ rn H) (hS : va_S (fun q : Nat => s.heap.size ≤ q) s.heap H locs) (hl : lv_has ls 4 [(0, .ref (b)), (1, .ref (o0)), (2, .ref (r0)), (3, .int (iI ((i : Int))))]) (kk : ∀ (σ : MS) (rn : Int) (H : Heap) (locs : List Loc) (ls : Array Slot), PO D E o0 σ rn H → RPO D E r0 σ rn H → va_S (fun q : Nat => s.heap.size ≤ q) s.heap H locs → lv_has ls 4 [(0, .ref (b)), (1, .ref (o0)), (2, .ref (r0)), (3, .int (iI ((i : Int))))] → W p l e room_1 s m #[Value.ref b] below meth c H locs (600000) (7302250) (lw_Z below #[Value.ref b] s) (F0 m 588 ls [])) : W p l e room_1 s m #[Value.ref b] below meth c H locs (600000) (7302250) (lw_Z below #[Value.ref b] s) (F0 m 296 ls []) := by
  obtain ⟨hx, hb, hr, hml, hown, hts0, hX, hbl, hlocks, hgv⟩ := C0
  have hown : s.vm.findClass RL = some m.cls := hown
  have hts : ∀ w ∈ wsL_law, w.before #[Value.ref b] s = true := fun w hw => hts0 w (wsL_law_in w hw)
  have hbA : ¬ (fun q : Nat => s.heap.size ≤ q) b := Nat.not_le.mpr hbl
  have hok := hPO.ok.1
  have hN6 := hok.1
  refine lv_aload_n hx hb dL_law_296 rfl (lv_at hl 1 rfl) ?_
  refine lv_aload_n hx hb dL_law_297 rfl (lv_at hl 0 rfl) ?_
  refine lv_iload_n hx hb dL_law_298 rfl (lv_at hl 3 rfl) ?_
  refine pw_iconst hx hb dL_law_299 ?_
  refine pw_iadd hx hb dL_law_300 ?_
  refine pw_sld hx hb hX hbl hbA hS (i + 1) (by omega) (by omega) (by omega) dL_law_301 ?_
  refine pw_callVi (As := [.int (iI ((xs (i + 1)).toInt))]) (rest := []) ⟨hx, hb, hml, hown, hts⟩ (c_policy l D E o0 σ rn ((xs (i + 1)).toInt) (iI_b (xs (i + 1))).1 (iI_b (xs (i + 1))).2) (cwV 1 hts gL_law_X9_policy rfl rfl rfl (by decide +kernel) ⟨Nat.le_of_ble_eq_true rfl, Nat.le_of_ble_eq_true rfl⟩) hK hPO.o.choose_spec rfl hPO rfl hl.1 rfl (Nat.le_of_ble_eq_true rfl) dL_law_302 ⟨Nat.le_of_ble_eq_true rfl, Nat.le_of_ble_eq_true rfl⟩ hS (fun q h => by (try dsimp only at h); (try dsimp only); omega) (fun z1 H1 locs1 ⟨hpsi1, hPO1⟩ hz1 hk1 hS => ?_)
  have hRP := hRP.k (fun q h1 h2 h3 => (hk1 _ h3 (by (try dsimp only); omega)))
  refine lv_aload_n hx hb dL_law_305 rfl (lv_at hl 2 rfl) ?_
  refine lv_aload_n hx hb dL_law_306 rfl (lv_at hl 0 rfl) ?_
  refine lv_iload_n hx hb dL_law_307 rfl (lv_at hl 3 rfl) ?_
  refine pw_iconst hx hb dL_law_308 ?_
  refine pw_iadd hx hb dL_law_309 ?_
  refine pw_sld hx hb hX hbl hbA hS (i + 1) (by omega) (by omega) (by omega) dL_law_310 ?_
  refine pw_callVi (As := [.int (iI ((xs (i + 1)).toInt))]) (rest := [.int (iI (z1))]) ⟨hx, hb, hml, hown, hts⟩ (r_policy l D E r0 σ rn ((xs (i + 1)).toInt) (iI_b (xs (i + 1))).1 (iI_b (xs (i + 1))).2) (cwV 1 hts gL_law_X10_policy rfl rfl rfl (by decide +kernel) ⟨Nat.le_of_ble_eq_true rfl, Nat.le_of_ble_eq_true rfl⟩) hK hRP.o.choose_spec rfl hRP rfl hl.1 rfl (Nat.le_of_ble_eq_true rfl) dL_law_311 ⟨Nat.le_of_ble_eq_true rfl, Nat.le_of_ble_eq_true rfl⟩ hS (fun q h => by (try dsimp only at h); (try dsimp only); omega) (fun z2 H1 locs1 ⟨hRP2, hpsi2⟩ hz1 hk1 hS => ?_)
  have hPO1 := hPO1.k (fun q h1 h2 h3 => (hk1 _ h3 (by (try dsimp only); omega)))
  have ez : z1 = z2 := by
    rcases hpsi1 with ⟨e1, g1⟩ | ⟨g0, g1, g3, e1⟩ <;> rcases hpsi2 with ⟨g2, e2⟩ | ⟨g2, e2⟩
    · rw [e1, e2]
    · rcases g1 with g1 | g1
      · omega
      · exact absurd g2.2 g1
    · exact absurd ⟨g0, g1, g3⟩ g2
    · exact x_pol hok ((hPO1.ok.2.2 g0).1) g1 g3 e1 e2
  subst ez
  refine pw_icmp_same (tgt := 588) hx hb dL_law_314 (by decide) ?_
  exact kk σ rn _ _ _ hPO1 hRP2 hS (lv_sub hl [0, 1, 2, 3] rfl)
set_option maxHeartbeats 4000000 in
set_option maxRecDepth 100000 in
theorem law_value {p : Program} {e : Env} {s : State} {m : MethodId} {below : List Frame} {meth : Method} {c : Code} (l : Launch) {b L : Nat} {xs : Nat → Int32} (hL : L ≤ 2560) (C0 : lw_At p s m meth c b L xs) {D : va_G} {E : Nat → ClassId} {o0 r0 i : Nat} {σ : MS} {rn : Int} {H : Heap} {locs : List Loc} {ls : Array Slot} (hK : KK D E s) (ho : s.heap.size ≤ o0) (hro : o0 + 583 ≤ r0) (hi : i + 5 ≤ L) (hPO : PO D E o0 σ rn H) (hRP : RPO D E r0 σ rn H) (hS : va_S (fun q : Nat => s.heap.size ≤ q) s.heap H locs) (hl : lv_has ls 4 [(0, .ref (b)), (1, .ref (o0)), (2, .ref (r0)), (3, .int (iI ((i : Int))))]) (kk : ∀ (σ : MS) (rn : Int) (H : Heap) (locs : List Loc) (ls : Array Slot), PO D E o0 σ rn H → RPO D E r0 σ rn H → va_S (fun q : Nat => s.heap.size ≤ q) s.heap H locs → lv_has ls 4 [(0, .ref (b)), (1, .ref (o0)), (2, .ref (r0)), (3, .int (iI ((i : Int))))] → W p l e room_1 s m #[Value.ref b] below meth c H locs (600000) (7302250) (lw_Z below #[Value.ref b] s) (F0 m 588 ls [])) : W p l e room_1 s m #[Value.ref b] below meth c H locs (600000) (7302250) (lw_Z below #[Value.ref b] s) (F0 m 319 ls []) := by
  obtain ⟨hx, hb, hr, hml, hown, hts0, hX, hbl, hlocks, hgv⟩ := C0
  have hown : s.vm.findClass RL = some m.cls := hown
  have hts : ∀ w ∈ wsL_law, w.before #[Value.ref b] s = true := fun w hw => hts0 w (wsL_law_in w hw)
  have hbA : ¬ (fun q : Nat => s.heap.size ≤ q) b := Nat.not_le.mpr hbl
  have hok := hPO.ok.1
  have hN6 := hok.1
  refine lv_aload_n hx hb dL_law_319 rfl (lv_at hl 1 rfl) ?_
  refine lv_aload_n hx hb dL_law_320 rfl (lv_at hl 0 rfl) ?_
  refine lv_iload_n hx hb dL_law_321 rfl (lv_at hl 3 rfl) ?_
  refine pw_iconst hx hb dL_law_322 ?_
  refine pw_iadd hx hb dL_law_323 ?_
  refine pw_sld hx hb hX hbl hbA hS (i + 1) (by omega) (by omega) (by omega) dL_law_324 ?_
  refine lv_aload_n hx hb dL_law_325 rfl (lv_at hl 0 rfl) ?_
  refine lv_iload_n hx hb dL_law_326 rfl (lv_at hl 3 rfl) ?_
  refine pw_iconst hx hb dL_law_327 ?_
  refine pw_iadd hx hb dL_law_328 ?_
  refine pw_sld hx hb hX hbl hbA hS (i + 2) (by omega) (by omega) (by omega) dL_law_329 ?_
  refine pw_callVl (As := [.int (iI ((xs (i + 1)).toInt)), .int (iI ((xs (i + 2)).toInt))]) (rest := []) ⟨hx, hb, hml, hown, hts⟩ (c_value l D E o0 σ rn ((xs (i + 1)).toInt) ((xs (i + 2)).toInt) (iI_b (xs (i + 1))).1 (iI_b (xs (i + 1))).2 (iI_b (xs (i + 2))).1 (iI_b (xs (i + 2))).2) (cwV 2 hts gL_law_X9_value rfl rfl rfl (by decide +kernel) ⟨Nat.le_of_ble_eq_true rfl, Nat.le_of_ble_eq_true rfl⟩) hK hPO.o.choose_spec rfl hPO rfl hl.1 rfl (Nat.le_of_ble_eq_true rfl) dL_law_330 ⟨Nat.le_of_ble_eq_true rfl, Nat.le_of_ble_eq_true rfl⟩ hS (fun q h => by (try dsimp only at h); (try dsimp only); omega) (fun z1 H1 locs1 ⟨hPO1, hpsi1⟩ hz1 hk1 hS => ?_)
  have hRP := hRP.k (fun q h1 h2 h3 => (hk1 _ h3 (by (try dsimp only); omega)))
  refine lv_aload_n hx hb dL_law_333 rfl (lv_at hl 2 rfl) ?_
  refine lv_aload_n hx hb dL_law_334 rfl (lv_at hl 0 rfl) ?_
  refine lv_iload_n hx hb dL_law_335 rfl (lv_at hl 3 rfl) ?_
  refine pw_iconst hx hb dL_law_336 ?_
  refine pw_iadd hx hb dL_law_337 ?_
  refine pw_sld hx hb hX hbl hbA hS (i + 1) (by omega) (by omega) (by omega) dL_law_338 ?_
  refine lv_aload_n hx hb dL_law_339 rfl (lv_at hl 0 rfl) ?_
  refine lv_iload_n hx hb dL_law_340 rfl (lv_at hl 3 rfl) ?_
  refine pw_iconst hx hb dL_law_341 ?_
  refine pw_iadd hx hb dL_law_342 ?_
  refine pw_sld hx hb hX hbl hbA hS (i + 2) (by omega) (by omega) (by omega) dL_law_343 ?_
  refine pw_callVl (As := [.int (iI ((xs (i + 1)).toInt)), .int (iI ((xs (i + 2)).toInt))]) (rest := [.long (lI (z1))]) ⟨hx, hb, hml, hown, hts⟩ (r_value l D E r0 σ rn ((xs (i + 1)).toInt) ((xs (i + 2)).toInt) (iI_b (xs (i + 1))).1 (iI_b (xs (i + 1))).2 (iI_b (xs (i + 2))).1 (iI_b (xs (i + 2))).2) (cwV 2 hts gL_law_X10_value rfl rfl rfl (by decide +kernel) ⟨Nat.le_of_ble_eq_true rfl, Nat.le_of_ble_eq_true rfl⟩) hK hRP.o.choose_spec rfl hRP rfl hl.1 rfl (Nat.le_of_ble_eq_true rfl) dL_law_344 ⟨Nat.le_of_ble_eq_true rfl, Nat.le_of_ble_eq_true rfl⟩ hS (fun q h => by (try dsimp only at h); (try dsimp only); omega) (fun z2 H1 locs1 ⟨hRP2, hpsi2⟩ hz1 hk1 hS => ?_)
  have hPO1 := hPO1.k (fun q h1 h2 h3 => (hk1 _ h3 (by (try dsimp only); omega)))
  have ez : z1 = z2 := by
    rcases hpsi1 with ⟨g1, e1⟩ | ⟨g1, e1⟩ <;> rcases hpsi2 with ⟨g2, e2⟩ | ⟨g2, e2⟩
    · rw [e1, e2]
    · exact absurd g2 g1
    · exact absurd g1 g2
    · exact x_sol hok ((hPO1.ok.2.2 g1.1).1) g1.2.1 g1.2.2.1 e1 e2
  subst ez
  refine pw_lcmp_same (tgt := 588) hx hb dL_law_347 dL_law_348 (by decide) ?_
  exact kk σ rn _ _ _ hPO1 hRP2 hS (lv_sub hl [0, 1, 2, 3] rfl)
set_option maxHeartbeats 4000000 in
set_option maxRecDepth 100000 in
theorem law_gain {p : Program} {e : Env} {s : State} {m : MethodId} {below : List Frame} {meth : Method} {c : Code} (l : Launch) {b L : Nat} {xs : Nat → Int32} (hL : L ≤ 2560) (C0 : lw_At p s m meth c b L xs) {D : va_G} {E : Nat → ClassId} {o0 r0 i : Nat} {σ : MS} {rn : Int} {H : Heap} {locs : List Loc} {ls : Array Slot} (hK : KK D E s) (ho : s.heap.size ≤ o0) (hro : o0 + 583 ≤ r0) (hi : i + 5 ≤ L) (hPO : PO D E o0 σ rn H) (hRP : RPO D E r0 σ rn H) (hS : va_S (fun q : Nat => s.heap.size ≤ q) s.heap H locs) (hl : lv_has ls 4 [(0, .ref (b)), (1, .ref (o0)), (2, .ref (r0)), (3, .int (iI ((i : Int))))]) (kk : ∀ (σ : MS) (rn : Int) (H : Heap) (locs : List Loc) (ls : Array Slot), PO D E o0 σ rn H → RPO D E r0 σ rn H → va_S (fun q : Nat => s.heap.size ≤ q) s.heap H locs → lv_has ls 4 [(0, .ref (b)), (1, .ref (o0)), (2, .ref (r0)), (3, .int (iI ((i : Int))))] → W p l e room_1 s m #[Value.ref b] below meth c H locs (600000) (7302250) (lw_Z below #[Value.ref b] s) (F0 m 588 ls [])) : W p l e room_1 s m #[Value.ref b] below meth c H locs (600000) (7302250) (lw_Z below #[Value.ref b] s) (F0 m 353 ls []) := by
  obtain ⟨hx, hb, hr, hml, hown, hts0, hX, hbl, hlocks, hgv⟩ := C0
  have hown : s.vm.findClass RL = some m.cls := hown
  have hts : ∀ w ∈ wsL_law, w.before #[Value.ref b] s = true := fun w hw => hts0 w (wsL_law_in w hw)
  have hbA : ¬ (fun q : Nat => s.heap.size ≤ q) b := Nat.not_le.mpr hbl
  have hok := hPO.ok.1
  have hN6 := hok.1
  refine lv_aload_n hx hb dL_law_353 rfl (lv_at hl 1 rfl) ?_
  refine lv_aload_n hx hb dL_law_354 rfl (lv_at hl 0 rfl) ?_
  refine lv_iload_n hx hb dL_law_355 rfl (lv_at hl 3 rfl) ?_
  refine pw_iconst hx hb dL_law_356 ?_
  refine pw_iadd hx hb dL_law_357 ?_
  refine pw_sld hx hb hX hbl hbA hS (i + 1) (by omega) (by omega) (by omega) dL_law_358 ?_
  refine lv_aload_n hx hb dL_law_359 rfl (lv_at hl 0 rfl) ?_
  refine lv_iload_n hx hb dL_law_360 rfl (lv_at hl 3 rfl) ?_
  refine pw_iconst hx hb dL_law_361 ?_
  refine pw_iadd hx hb dL_law_362 ?_
  refine pw_sld hx hb hX hbl hbA hS (i + 2) (by omega) (by omega) (by omega) dL_law_363 ?_
  refine lv_aload_n hx hb dL_law_364 rfl (lv_at hl 0 rfl) ?_
  refine lv_iload_n hx hb dL_law_365 rfl (lv_at hl 3 rfl) ?_
  refine pw_iconst hx hb dL_law_366 ?_
  refine pw_iadd hx hb dL_law_367 ?_
  refine pw_sld hx hb hX hbl hbA hS (i + 3) (by omega) (by omega) (by omega) dL_law_368 ?_
  refine pw_callVl (As := [.int (iI ((xs (i + 1)).toInt)), .int (iI ((xs (i + 2)).toInt)), .int (iI ((xs (i + 3)).toInt))]) (rest := []) ⟨hx, hb, hml, hown, hts⟩ (c_gain l D E o0 σ rn ((xs (i + 1)).toInt) ((xs (i + 2)).toInt) ((xs (i + 3)).toInt) (iI_b (xs (i + 1))).1 (iI_b (xs (i + 1))).2 (iI_b (xs (i + 2))).1 (iI_b (xs (i + 2))).2 (iI_b (xs (i + 3))).1 (iI_b (xs (i + 3))).2) (cwV 3 hts gL_law_X9_gain rfl rfl rfl (by decide +kernel) ⟨Nat.le_of_ble_eq_true rfl, Nat.le_of_ble_eq_true rfl⟩) hK hPO.o.choose_spec rfl hPO rfl hl.1 rfl (Nat.le_of_ble_eq_true rfl) dL_law_369 ⟨Nat.le_of_ble_eq_true rfl, Nat.le_of_ble_eq_true rfl⟩ hS (fun q h => by (try dsimp only at h); (try dsimp only); omega) (fun z1 H1 locs1 ⟨hPO1, hpsi1⟩ hz1 hk1 hS => ?_)
  have hRP := hRP.k (fun q h1 h2 h3 => (hk1 _ h3 (by (try dsimp only); omega)))
  refine lv_aload_n hx hb dL_law_372 rfl (lv_at hl 2 rfl) ?_
  refine lv_aload_n hx hb dL_law_373 rfl (lv_at hl 0 rfl) ?_
  refine lv_iload_n hx hb dL_law_374 rfl (lv_at hl 3 rfl) ?_
  refine pw_iconst hx hb dL_law_375 ?_
  refine pw_iadd hx hb dL_law_376 ?_
  refine pw_sld hx hb hX hbl hbA hS (i + 1) (by omega) (by omega) (by omega) dL_law_377 ?_
  refine lv_aload_n hx hb dL_law_378 rfl (lv_at hl 0 rfl) ?_
  refine lv_iload_n hx hb dL_law_379 rfl (lv_at hl 3 rfl) ?_
  refine pw_iconst hx hb dL_law_380 ?_
  refine pw_iadd hx hb dL_law_381 ?_
  refine pw_sld hx hb hX hbl hbA hS (i + 2) (by omega) (by omega) (by omega) dL_law_382 ?_
  refine lv_aload_n hx hb dL_law_383 rfl (lv_at hl 0 rfl) ?_
  refine lv_iload_n hx hb dL_law_384 rfl (lv_at hl 3 rfl) ?_
  refine pw_iconst hx hb dL_law_385 ?_
  refine pw_iadd hx hb dL_law_386 ?_
  refine pw_sld hx hb hX hbl hbA hS (i + 3) (by omega) (by omega) (by omega) dL_law_387 ?_
  refine pw_callVl (As := [.int (iI ((xs (i + 1)).toInt)), .int (iI ((xs (i + 2)).toInt)), .int (iI ((xs (i + 3)).toInt))]) (rest := [.long (lI (z1))]) ⟨hx, hb, hml, hown, hts⟩ (r_gain l D E r0 σ rn ((xs (i + 1)).toInt) ((xs (i + 2)).toInt) ((xs (i + 3)).toInt) (iI_b (xs (i + 1))).1 (iI_b (xs (i + 1))).2 (iI_b (xs (i + 2))).1 (iI_b (xs (i + 2))).2 (iI_b (xs (i + 3))).1 (iI_b (xs (i + 3))).2) (cwV 3 hts gL_law_X10_gain rfl rfl rfl (by decide +kernel) ⟨Nat.le_of_ble_eq_true rfl, Nat.le_of_ble_eq_true rfl⟩) hK hRP.o.choose_spec rfl hRP rfl hl.1 rfl (Nat.le_of_ble_eq_true rfl) dL_law_388 ⟨Nat.le_of_ble_eq_true rfl, Nat.le_of_ble_eq_true rfl⟩ hS (fun q h => by (try dsimp only at h); (try dsimp only); omega) (fun z2 H1 locs1 ⟨hRP2, hpsi2⟩ hz1 hk1 hS => ?_)
  have hPO1 := hPO1.k (fun q h1 h2 h3 => (hk1 _ h3 (by (try dsimp only); omega)))
  have ez : z1 = z2 := by
    rcases hpsi1 with ⟨g1, e1⟩ | ⟨g1, e1⟩ <;> rcases hpsi2 with ⟨g2, e2⟩ | ⟨g2, e2⟩
    · rw [e1, e2]
    · exact absurd g2 g1
    · exact absurd g1 g2
    · exact x_gain hok ((hPO1.ok.2.2 g1.1).1) (gsc_pos hok ((hPO1.ok.2.2 g1.1).1) (by omega) (by omega)) e1 e2
  subst ez
  refine pw_lcmp_same (tgt := 588) hx hb dL_law_391 dL_law_392 (by decide) ?_
  exact kk σ rn _ _ _ hPO1 hRP2 hS (lv_sub hl [0, 1, 2, 3] rfl)
set_option maxHeartbeats 4000000 in
set_option maxRecDepth 100000 in
theorem law_worth {p : Program} {e : Env} {s : State} {m : MethodId} {below : List Frame} {meth : Method} {c : Code} (l : Launch) {b L : Nat} {xs : Nat → Int32} (hL : L ≤ 2560) (C0 : lw_At p s m meth c b L xs) {D : va_G} {E : Nat → ClassId} {o0 r0 i : Nat} {σ : MS} {rn : Int} {H : Heap} {locs : List Loc} {ls : Array Slot} (hK : KK D E s) (ho : s.heap.size ≤ o0) (hro : o0 + 583 ≤ r0) (hi : i + 5 ≤ L) (hPO : PO D E o0 σ rn H) (hRP : RPO D E r0 σ rn H) (hS : va_S (fun q : Nat => s.heap.size ≤ q) s.heap H locs) (hl : lv_has ls 4 [(0, .ref (b)), (1, .ref (o0)), (2, .ref (r0)), (3, .int (iI ((i : Int))))]) (kk : ∀ (σ : MS) (rn : Int) (H : Heap) (locs : List Loc) (ls : Array Slot), PO D E o0 σ rn H → RPO D E r0 σ rn H → va_S (fun q : Nat => s.heap.size ≤ q) s.heap H locs → lv_has ls 4 [(0, .ref (b)), (1, .ref (o0)), (2, .ref (r0)), (3, .int (iI ((i : Int))))] → W p l e room_1 s m #[Value.ref b] below meth c H locs (600000) (7302250) (lw_Z below #[Value.ref b] s) (F0 m 588 ls [])) : W p l e room_1 s m #[Value.ref b] below meth c H locs (600000) (7302250) (lw_Z below #[Value.ref b] s) (F0 m 397 ls []) := by
  obtain ⟨hx, hb, hr, hml, hown, hts0, hX, hbl, hlocks, hgv⟩ := C0
  have hown : s.vm.findClass RL = some m.cls := hown
  have hts : ∀ w ∈ wsL_law, w.before #[Value.ref b] s = true := fun w hw => hts0 w (wsL_law_in w hw)
  have hbA : ¬ (fun q : Nat => s.heap.size ≤ q) b := Nat.not_le.mpr hbl
  have hok := hPO.ok.1
  have hN6 := hok.1
  refine lv_aload_n hx hb dL_law_397 rfl (lv_at hl 1 rfl) ?_
  refine lv_aload_n hx hb dL_law_398 rfl (lv_at hl 0 rfl) ?_
  refine lv_iload_n hx hb dL_law_399 rfl (lv_at hl 3 rfl) ?_
  refine pw_iconst hx hb dL_law_400 ?_
  refine pw_iadd hx hb dL_law_401 ?_
  refine pw_sld hx hb hX hbl hbA hS (i + 1) (by omega) (by omega) (by omega) dL_law_402 ?_
  refine lv_aload_n hx hb dL_law_403 rfl (lv_at hl 0 rfl) ?_
  refine lv_iload_n hx hb dL_law_404 rfl (lv_at hl 3 rfl) ?_
  refine pw_iconst hx hb dL_law_405 ?_
  refine pw_iadd hx hb dL_law_406 ?_
  refine pw_sld hx hb hX hbl hbA hS (i + 2) (by omega) (by omega) (by omega) dL_law_407 ?_
  refine lv_aload_n hx hb dL_law_408 rfl (lv_at hl 0 rfl) ?_
  refine lv_iload_n hx hb dL_law_409 rfl (lv_at hl 3 rfl) ?_
  refine pw_iconst hx hb dL_law_410 ?_
  refine pw_iadd hx hb dL_law_411 ?_
  refine pw_sld hx hb hX hbl hbA hS (i + 3) (by omega) (by omega) (by omega) dL_law_412 ?_
  refine pw_callVl (As := [.int (iI ((xs (i + 1)).toInt)), .int (iI ((xs (i + 2)).toInt)), .int (iI ((xs (i + 3)).toInt))]) (rest := []) ⟨hx, hb, hml, hown, hts⟩ (c_worth l D E o0 σ rn ((xs (i + 1)).toInt) ((xs (i + 2)).toInt) ((xs (i + 3)).toInt) (iI_b (xs (i + 1))).1 (iI_b (xs (i + 1))).2 (iI_b (xs (i + 2))).1 (iI_b (xs (i + 2))).2 (iI_b (xs (i + 3))).1 (iI_b (xs (i + 3))).2) (cwV 3 hts gL_law_X9_worth rfl rfl rfl (by decide +kernel) ⟨Nat.le_of_ble_eq_true rfl, Nat.le_of_ble_eq_true rfl⟩) hK hPO.o.choose_spec rfl hPO rfl hl.1 rfl (Nat.le_of_ble_eq_true rfl) dL_law_413 ⟨Nat.le_of_ble_eq_true rfl, Nat.le_of_ble_eq_true rfl⟩ hS (fun q h => by (try dsimp only at h); (try dsimp only); omega) (fun z1 H1 locs1 ⟨hPO1, hpsi1⟩ hz1 hk1 hS => ?_)
  have hRP := hRP.k (fun q h1 h2 h3 => (hk1 _ h3 (by (try dsimp only); omega)))
  refine lv_aload_n hx hb dL_law_416 rfl (lv_at hl 2 rfl) ?_
  refine lv_aload_n hx hb dL_law_417 rfl (lv_at hl 0 rfl) ?_
  refine lv_iload_n hx hb dL_law_418 rfl (lv_at hl 3 rfl) ?_
  refine pw_iconst hx hb dL_law_419 ?_
  refine pw_iadd hx hb dL_law_420 ?_
  refine pw_sld hx hb hX hbl hbA hS (i + 1) (by omega) (by omega) (by omega) dL_law_421 ?_
  refine lv_aload_n hx hb dL_law_422 rfl (lv_at hl 0 rfl) ?_
  refine lv_iload_n hx hb dL_law_423 rfl (lv_at hl 3 rfl) ?_
  refine pw_iconst hx hb dL_law_424 ?_
  refine pw_iadd hx hb dL_law_425 ?_
  refine pw_sld hx hb hX hbl hbA hS (i + 2) (by omega) (by omega) (by omega) dL_law_426 ?_
  refine lv_aload_n hx hb dL_law_427 rfl (lv_at hl 0 rfl) ?_
  refine lv_iload_n hx hb dL_law_428 rfl (lv_at hl 3 rfl) ?_
  refine pw_iconst hx hb dL_law_429 ?_
  refine pw_iadd hx hb dL_law_430 ?_
  refine pw_sld hx hb hX hbl hbA hS (i + 3) (by omega) (by omega) (by omega) dL_law_431 ?_
  refine pw_callVl (As := [.int (iI ((xs (i + 1)).toInt)), .int (iI ((xs (i + 2)).toInt)), .int (iI ((xs (i + 3)).toInt))]) (rest := [.long (lI (z1))]) ⟨hx, hb, hml, hown, hts⟩ (r_worth l D E r0 σ rn ((xs (i + 1)).toInt) ((xs (i + 2)).toInt) ((xs (i + 3)).toInt) (iI_b (xs (i + 1))).1 (iI_b (xs (i + 1))).2 (iI_b (xs (i + 2))).1 (iI_b (xs (i + 2))).2 (iI_b (xs (i + 3))).1 (iI_b (xs (i + 3))).2) (cwV 3 hts gL_law_X10_worth rfl rfl rfl (by decide +kernel) ⟨Nat.le_of_ble_eq_true rfl, Nat.le_of_ble_eq_true rfl⟩) hK hRP.o.choose_spec rfl hRP rfl hl.1 rfl (Nat.le_of_ble_eq_true rfl) dL_law_432 ⟨Nat.le_of_ble_eq_true rfl, Nat.le_of_ble_eq_true rfl⟩ hS (fun q h => by (try dsimp only at h); (try dsimp only); omega) (fun z2 H1 locs1 ⟨hRP2, hpsi2⟩ hz1 hk1 hS => ?_)
  have hPO1 := hPO1.k (fun q h1 h2 h3 => (hk1 _ h3 (by (try dsimp only); omega)))
  have ez : z1 = z2 := by
    rcases hpsi1 with ⟨g1, e1⟩ | ⟨g1, e1⟩ <;> rcases hpsi2 with ⟨g2, e2⟩ | ⟨g2, e2⟩
    · rw [e1, e2]
    · exact absurd g2 g1
    · exact absurd g1 g2
    · exact x_worth hok g1.1 g1.2.2.2.1 g1.2.2.2.2.1 e1 e2
  subst ez
  refine pw_lcmp_same (tgt := 588) hx hb dL_law_435 dL_law_436 (by decide) ?_
  exact kk σ rn _ _ _ hPO1 hRP2 hS (lv_sub hl [0, 1, 2, 3] rfl)
set_option maxHeartbeats 4000000 in
set_option maxRecDepth 100000 in
theorem law_steps {p : Program} {e : Env} {s : State} {m : MethodId} {below : List Frame} {meth : Method} {c : Code} (l : Launch) {b L : Nat} {xs : Nat → Int32} (hL : L ≤ 2560) (C0 : lw_At p s m meth c b L xs) {D : va_G} {E : Nat → ClassId} {o0 r0 i : Nat} {σ : MS} {rn : Int} {H : Heap} {locs : List Loc} {ls : Array Slot} (hK : KK D E s) (ho : s.heap.size ≤ o0) (hro : o0 + 583 ≤ r0) (hi : i + 5 ≤ L) (hPO : PO D E o0 σ rn H) (hRP : RPO D E r0 σ rn H) (hS : va_S (fun q : Nat => s.heap.size ≤ q) s.heap H locs) (hl : lv_has ls 4 [(0, .ref (b)), (1, .ref (o0)), (2, .ref (r0)), (3, .int (iI ((i : Int))))]) (kk : ∀ (σ : MS) (rn : Int) (H : Heap) (locs : List Loc) (ls : Array Slot), PO D E o0 σ rn H → RPO D E r0 σ rn H → va_S (fun q : Nat => s.heap.size ≤ q) s.heap H locs → lv_has ls 4 [(0, .ref (b)), (1, .ref (o0)), (2, .ref (r0)), (3, .int (iI ((i : Int))))] → W p l e room_1 s m #[Value.ref b] below meth c H locs (600000) (7302250) (lw_Z below #[Value.ref b] s) (F0 m 588 ls [])) : W p l e room_1 s m #[Value.ref b] below meth c H locs (600000) (7302250) (lw_Z below #[Value.ref b] s) (F0 m 441 ls []) := by
  obtain ⟨hx, hb, hr, hml, hown, hts0, hX, hbl, hlocks, hgv⟩ := C0
  have hown : s.vm.findClass RL = some m.cls := hown
  have hts : ∀ w ∈ wsL_law, w.before #[Value.ref b] s = true := fun w hw => hts0 w (wsL_law_in w hw)
  have hbA : ¬ (fun q : Nat => s.heap.size ≤ q) b := Nat.not_le.mpr hbl
  have hok := hPO.ok.1
  have hN6 := hok.1
  refine lv_aload_n hx hb dL_law_441 rfl (lv_at hl 1 rfl) ?_
  refine lv_aload_n hx hb dL_law_442 rfl (lv_at hl 0 rfl) ?_
  refine lv_iload_n hx hb dL_law_443 rfl (lv_at hl 3 rfl) ?_
  refine pw_iconst hx hb dL_law_444 ?_
  refine pw_iadd hx hb dL_law_445 ?_
  refine pw_sld hx hb hX hbl hbA hS (i + 1) (by omega) (by omega) (by omega) dL_law_446 ?_
  refine lv_aload_n hx hb dL_law_447 rfl (lv_at hl 0 rfl) ?_
  refine lv_iload_n hx hb dL_law_448 rfl (lv_at hl 3 rfl) ?_
  refine pw_iconst hx hb dL_law_449 ?_
  refine pw_iadd hx hb dL_law_450 ?_
  refine pw_sld hx hb hX hbl hbA hS (i + 2) (by omega) (by omega) (by omega) dL_law_451 ?_
  refine lv_aload_n hx hb dL_law_452 rfl (lv_at hl 0 rfl) ?_
  refine lv_iload_n hx hb dL_law_453 rfl (lv_at hl 3 rfl) ?_
  refine pw_iconst hx hb dL_law_454 ?_
  refine pw_iadd hx hb dL_law_455 ?_
  refine pw_sld hx hb hX hbl hbA hS (i + 3) (by omega) (by omega) (by omega) dL_law_456 ?_
  refine pw_callVl (As := [.int (iI ((xs (i + 1)).toInt)), .int (iI ((xs (i + 2)).toInt)), .int (iI ((xs (i + 3)).toInt))]) (rest := []) ⟨hx, hb, hml, hown, hts⟩ (c_steps l D E o0 σ rn ((xs (i + 1)).toInt) ((xs (i + 2)).toInt) ((xs (i + 3)).toInt) (iI_b (xs (i + 1))).1 (iI_b (xs (i + 1))).2 (iI_b (xs (i + 2))).1 (iI_b (xs (i + 2))).2 (iI_b (xs (i + 3))).1 (iI_b (xs (i + 3))).2) (cwV 3 hts gL_law_X9_steps rfl rfl rfl (by decide +kernel) ⟨Nat.le_of_ble_eq_true rfl, Nat.le_of_ble_eq_true rfl⟩) hK hPO.o.choose_spec rfl hPO rfl hl.1 rfl (Nat.le_of_ble_eq_true rfl) dL_law_457 ⟨Nat.le_of_ble_eq_true rfl, Nat.le_of_ble_eq_true rfl⟩ hS (fun q h => by (try dsimp only at h); (try dsimp only); omega) (fun z1 H1 locs1 ⟨hPO1, hpsi1⟩ hz1 hk1 hS => ?_)
  have hRP := hRP.k (fun q h1 h2 h3 => (hk1 _ h3 (by (try dsimp only); omega)))
  refine lv_aload_n hx hb dL_law_460 rfl (lv_at hl 2 rfl) ?_
  refine lv_aload_n hx hb dL_law_461 rfl (lv_at hl 0 rfl) ?_
  refine lv_iload_n hx hb dL_law_462 rfl (lv_at hl 3 rfl) ?_
  refine pw_iconst hx hb dL_law_463 ?_
  refine pw_iadd hx hb dL_law_464 ?_
  refine pw_sld hx hb hX hbl hbA hS (i + 1) (by omega) (by omega) (by omega) dL_law_465 ?_
  refine lv_aload_n hx hb dL_law_466 rfl (lv_at hl 0 rfl) ?_
  refine lv_iload_n hx hb dL_law_467 rfl (lv_at hl 3 rfl) ?_
  refine pw_iconst hx hb dL_law_468 ?_
  refine pw_iadd hx hb dL_law_469 ?_
  refine pw_sld hx hb hX hbl hbA hS (i + 2) (by omega) (by omega) (by omega) dL_law_470 ?_
  refine lv_aload_n hx hb dL_law_471 rfl (lv_at hl 0 rfl) ?_
  refine lv_iload_n hx hb dL_law_472 rfl (lv_at hl 3 rfl) ?_
  refine pw_iconst hx hb dL_law_473 ?_
  refine pw_iadd hx hb dL_law_474 ?_
  refine pw_sld hx hb hX hbl hbA hS (i + 3) (by omega) (by omega) (by omega) dL_law_475 ?_
  refine pw_callVl (As := [.int (iI ((xs (i + 1)).toInt)), .int (iI ((xs (i + 2)).toInt)), .int (iI ((xs (i + 3)).toInt))]) (rest := [.long (lI (z1))]) ⟨hx, hb, hml, hown, hts⟩ (r_steps l D E r0 σ rn ((xs (i + 1)).toInt) ((xs (i + 2)).toInt) ((xs (i + 3)).toInt) (iI_b (xs (i + 1))).1 (iI_b (xs (i + 1))).2 (iI_b (xs (i + 2))).1 (iI_b (xs (i + 2))).2 (iI_b (xs (i + 3))).1 (iI_b (xs (i + 3))).2) (cwV 3 hts gL_law_X10_steps rfl rfl rfl (by decide +kernel) ⟨Nat.le_of_ble_eq_true rfl, Nat.le_of_ble_eq_true rfl⟩) hK hRP.o.choose_spec rfl hRP rfl hl.1 rfl (Nat.le_of_ble_eq_true rfl) dL_law_476 ⟨Nat.le_of_ble_eq_true rfl, Nat.le_of_ble_eq_true rfl⟩ hS (fun q h => by (try dsimp only at h); (try dsimp only); omega) (fun z2 H1 locs1 ⟨hRP2, hpsi2⟩ hz1 hk1 hS => ?_)
  have hPO1 := hPO1.k (fun q h1 h2 h3 => (hk1 _ h3 (by (try dsimp only); omega)))
  have ez : z1 = z2 := by
    rcases hpsi1 with ⟨g1, e1⟩ | ⟨g1, e1⟩ <;> rcases hpsi2 with ⟨g2, e2⟩ | ⟨g2, e2⟩
    · rw [e1, e2]
    · exact absurd g2 g1
    · exact absurd g1 g2
    · exact x_steps hok g1.1 g1.2.2.2.1 g1.2.2.2.2.1 e1 e2
  subst ez
  refine pw_lcmp_same (tgt := 588) hx hb dL_law_479 dL_law_480 (by decide) ?_
  exact kk σ rn _ _ _ hPO1 hRP2 hS (lv_sub hl [0, 1, 2, 3] rfl)
set_option maxHeartbeats 4000000 in
set_option maxRecDepth 100000 in
theorem law_plan {p : Program} {e : Env} {s : State} {m : MethodId} {below : List Frame} {meth : Method} {c : Code} (l : Launch) {b L : Nat} {xs : Nat → Int32} (hL : L ≤ 2560) (C0 : lw_At p s m meth c b L xs) {D : va_G} {E : Nat → ClassId} {o0 r0 i : Nat} {σ : MS} {rn : Int} {H : Heap} {locs : List Loc} {ls : Array Slot} (hK : KK D E s) (ho : s.heap.size ≤ o0) (hro : o0 + 583 ≤ r0) (hi : i + 5 ≤ L) (hPO : PO D E o0 σ rn H) (hRP : RPO D E r0 σ rn H) (hS : va_S (fun q : Nat => s.heap.size ≤ q) s.heap H locs) (hl : lv_has ls 4 [(0, .ref (b)), (1, .ref (o0)), (2, .ref (r0)), (3, .int (iI ((i : Int))))]) (kk : ∀ (σ : MS) (rn : Int) (H : Heap) (locs : List Loc) (ls : Array Slot), PO D E o0 σ rn H → RPO D E r0 σ rn H → va_S (fun q : Nat => s.heap.size ≤ q) s.heap H locs → lv_has ls 4 [(0, .ref (b)), (1, .ref (o0)), (2, .ref (r0)), (3, .int (iI ((i : Int))))] → W p l e room_1 s m #[Value.ref b] below meth c H locs (600000) (7302250) (lw_Z below #[Value.ref b] s) (F0 m 588 ls [])) : W p l e room_1 s m #[Value.ref b] below meth c H locs (600000) (7302250) (lw_Z below #[Value.ref b] s) (F0 m 485 ls []) := by
  obtain ⟨hx, hb, hr, hml, hown, hts0, hX, hbl, hlocks, hgv⟩ := C0
  have hown : s.vm.findClass RL = some m.cls := hown
  have hts : ∀ w ∈ wsL_law, w.before #[Value.ref b] s = true := fun w hw => hts0 w (wsL_law_in w hw)
  have hbA : ¬ (fun q : Nat => s.heap.size ≤ q) b := Nat.not_le.mpr hbl
  have hok := hPO.ok.1
  have hN6 := hok.1
  refine lv_aload_n hx hb dL_law_485 rfl (lv_at hl 1 rfl) ?_
  refine lv_aload_n hx hb dL_law_486 rfl (lv_at hl 0 rfl) ?_
  refine lv_iload_n hx hb dL_law_487 rfl (lv_at hl 3 rfl) ?_
  refine pw_iconst hx hb dL_law_488 ?_
  refine pw_iadd hx hb dL_law_489 ?_
  refine pw_sld hx hb hX hbl hbA hS (i + 1) (by omega) (by omega) (by omega) dL_law_490 ?_
  refine lv_aload_n hx hb dL_law_491 rfl (lv_at hl 0 rfl) ?_
  refine lv_iload_n hx hb dL_law_492 rfl (lv_at hl 3 rfl) ?_
  refine pw_iconst hx hb dL_law_493 ?_
  refine pw_iadd hx hb dL_law_494 ?_
  refine pw_sld hx hb hX hbl hbA hS (i + 2) (by omega) (by omega) (by omega) dL_law_495 ?_
  refine pw_callVi (As := [.int (iI ((xs (i + 1)).toInt)), .int (iI ((xs (i + 2)).toInt))]) (rest := []) ⟨hx, hb, hml, hown, hts⟩ (c_plan l D E o0 σ rn ((xs (i + 1)).toInt) ((xs (i + 2)).toInt) (iI_b (xs (i + 1))).1 (iI_b (xs (i + 1))).2 (iI_b (xs (i + 2))).1 (iI_b (xs (i + 2))).2) (cwV 2 hts gL_law_X9_plan rfl rfl rfl (by decide +kernel) ⟨Nat.le_of_ble_eq_true rfl, Nat.le_of_ble_eq_true rfl⟩) hK hPO.o.choose_spec rfl hPO rfl hl.1 rfl (Nat.le_of_ble_eq_true rfl) dL_law_496 ⟨Nat.le_of_ble_eq_true rfl, Nat.le_of_ble_eq_true rfl⟩ hS (fun q h => by (try dsimp only at h); (try dsimp only); omega) (fun z1 H1 locs1 ⟨hPO1, hpsi1⟩ hz1 hk1 hS => ?_)
  have hRP := hRP.k (fun q h1 h2 h3 => (hk1 _ h3 (by (try dsimp only); omega)))
  refine lv_aload_n hx hb dL_law_499 rfl (lv_at hl 2 rfl) ?_
  refine lv_aload_n hx hb dL_law_500 rfl (lv_at hl 0 rfl) ?_
  refine lv_iload_n hx hb dL_law_501 rfl (lv_at hl 3 rfl) ?_
  refine pw_iconst hx hb dL_law_502 ?_
  refine pw_iadd hx hb dL_law_503 ?_
  refine pw_sld hx hb hX hbl hbA hS (i + 1) (by omega) (by omega) (by omega) dL_law_504 ?_
  refine lv_aload_n hx hb dL_law_505 rfl (lv_at hl 0 rfl) ?_
  refine lv_iload_n hx hb dL_law_506 rfl (lv_at hl 3 rfl) ?_
  refine pw_iconst hx hb dL_law_507 ?_
  refine pw_iadd hx hb dL_law_508 ?_
  refine pw_sld hx hb hX hbl hbA hS (i + 2) (by omega) (by omega) (by omega) dL_law_509 ?_
  refine pw_callVi (As := [.int (iI ((xs (i + 1)).toInt)), .int (iI ((xs (i + 2)).toInt))]) (rest := [.int (iI (z1))]) ⟨hx, hb, hml, hown, hts⟩ (r_plan l D E r0 σ rn ((xs (i + 1)).toInt) ((xs (i + 2)).toInt) (iI_b (xs (i + 1))).1 (iI_b (xs (i + 1))).2 (iI_b (xs (i + 2))).1 (iI_b (xs (i + 2))).2) (cwV 2 hts gL_law_X10_plan rfl rfl rfl (by decide +kernel) ⟨Nat.le_of_ble_eq_true rfl, Nat.le_of_ble_eq_true rfl⟩) hK hRP.o.choose_spec rfl hRP rfl hl.1 rfl (Nat.le_of_ble_eq_true rfl) dL_law_510 ⟨Nat.le_of_ble_eq_true rfl, Nat.le_of_ble_eq_true rfl⟩ hS (fun q h => by (try dsimp only at h); (try dsimp only); omega) (fun z2 H1 locs1 ⟨hRP2, hpsi2⟩ hz1 hk1 hS => ?_)
  have hPO1 := hPO1.k (fun q h1 h2 h3 => (hk1 _ h3 (by (try dsimp only); omega)))
  have ez : z1 = z2 := by
    rcases hpsi1 with ⟨g1, e1⟩ | ⟨g1, e1⟩ <;> rcases hpsi2 with ⟨g2, e2⟩ | ⟨g2, e2⟩
    · rw [e1, e2]
    · exact absurd g2 g1
    · exact absurd g1 g2
    · exact x_plan hok g1.1 e1 e2
  subst ez
  refine pw_icmp_same (tgt := 588) hx hb dL_law_513 (by decide) ?_
  exact kk σ rn _ _ _ hPO1 hRP2 hS (lv_sub hl [0, 1, 2, 3] rfl)
set_option maxHeartbeats 4000000 in
set_option maxRecDepth 100000 in
theorem law_bound {p : Program} {e : Env} {s : State} {m : MethodId} {below : List Frame} {meth : Method} {c : Code} (l : Launch) {b L : Nat} {xs : Nat → Int32} (hL : L ≤ 2560) (C0 : lw_At p s m meth c b L xs) {D : va_G} {E : Nat → ClassId} {o0 r0 i : Nat} {σ : MS} {rn : Int} {H : Heap} {locs : List Loc} {ls : Array Slot} (hK : KK D E s) (ho : s.heap.size ≤ o0) (hro : o0 + 583 ≤ r0) (hi : i + 5 ≤ L) (hPO : PO D E o0 σ rn H) (hRP : RPO D E r0 σ rn H) (hS : va_S (fun q : Nat => s.heap.size ≤ q) s.heap H locs) (hl : lv_has ls 4 [(0, .ref (b)), (1, .ref (o0)), (2, .ref (r0)), (3, .int (iI ((i : Int))))]) (kk : ∀ (σ : MS) (rn : Int) (H : Heap) (locs : List Loc) (ls : Array Slot), PO D E o0 σ rn H → RPO D E r0 σ rn H → va_S (fun q : Nat => s.heap.size ≤ q) s.heap H locs → lv_has ls 4 [(0, .ref (b)), (1, .ref (o0)), (2, .ref (r0)), (3, .int (iI ((i : Int))))] → W p l e room_1 s m #[Value.ref b] below meth c H locs (600000) (7302250) (lw_Z below #[Value.ref b] s) (F0 m 588 ls [])) : W p l e room_1 s m #[Value.ref b] below meth c H locs (600000) (7302250) (lw_Z below #[Value.ref b] s) (F0 m 518 ls []) := by
  obtain ⟨hx, hb, hr, hml, hown, hts0, hX, hbl, hlocks, hgv⟩ := C0
  have hown : s.vm.findClass RL = some m.cls := hown
  have hts : ∀ w ∈ wsL_law, w.before #[Value.ref b] s = true := fun w hw => hts0 w (wsL_law_in w hw)
  have hbA : ¬ (fun q : Nat => s.heap.size ≤ q) b := Nat.not_le.mpr hbl
  have hok := hPO.ok.1
  have hN6 := hok.1
  refine lv_aload_n hx hb dL_law_518 rfl (lv_at hl 1 rfl) ?_
  refine lv_aload_n hx hb dL_law_519 rfl (lv_at hl 0 rfl) ?_
  refine lv_iload_n hx hb dL_law_520 rfl (lv_at hl 3 rfl) ?_
  refine pw_iconst hx hb dL_law_521 ?_
  refine pw_iadd hx hb dL_law_522 ?_
  refine pw_sld hx hb hX hbl hbA hS (i + 1) (by omega) (by omega) (by omega) dL_law_523 ?_
  refine lv_aload_n hx hb dL_law_524 rfl (lv_at hl 0 rfl) ?_
  refine lv_iload_n hx hb dL_law_525 rfl (lv_at hl 3 rfl) ?_
  refine pw_iconst hx hb dL_law_526 ?_
  refine pw_iadd hx hb dL_law_527 ?_
  refine pw_sld hx hb hX hbl hbA hS (i + 2) (by omega) (by omega) (by omega) dL_law_528 ?_
  refine pw_callVl (As := [.int (iI ((xs (i + 1)).toInt)), .int (iI ((xs (i + 2)).toInt))]) (rest := []) ⟨hx, hb, hml, hown, hts⟩ (c_bound l D E o0 σ rn ((xs (i + 1)).toInt) ((xs (i + 2)).toInt) (iI_b (xs (i + 1))).1 (iI_b (xs (i + 1))).2 (iI_b (xs (i + 2))).1 (iI_b (xs (i + 2))).2) (cwV 2 hts gL_law_X9_bound rfl rfl rfl (by decide +kernel) ⟨Nat.le_of_ble_eq_true rfl, Nat.le_of_ble_eq_true rfl⟩) hK hPO.o.choose_spec rfl hPO rfl hl.1 rfl (Nat.le_of_ble_eq_true rfl) dL_law_529 ⟨Nat.le_of_ble_eq_true rfl, Nat.le_of_ble_eq_true rfl⟩ hS (fun q h => by (try dsimp only at h); (try dsimp only); omega) (fun z1 H1 locs1 ⟨hPO1, hpsi1⟩ hz1 hk1 hS => ?_)
  have hRP := hRP.k (fun q h1 h2 h3 => (hk1 _ h3 (by (try dsimp only); omega)))
  refine lv_aload_n hx hb dL_law_532 rfl (lv_at hl 2 rfl) ?_
  refine lv_aload_n hx hb dL_law_533 rfl (lv_at hl 0 rfl) ?_
  refine lv_iload_n hx hb dL_law_534 rfl (lv_at hl 3 rfl) ?_
  refine pw_iconst hx hb dL_law_535 ?_
  refine pw_iadd hx hb dL_law_536 ?_
  refine pw_sld hx hb hX hbl hbA hS (i + 1) (by omega) (by omega) (by omega) dL_law_537 ?_
  refine lv_aload_n hx hb dL_law_538 rfl (lv_at hl 0 rfl) ?_
  refine lv_iload_n hx hb dL_law_539 rfl (lv_at hl 3 rfl) ?_
  refine pw_iconst hx hb dL_law_540 ?_
  refine pw_iadd hx hb dL_law_541 ?_
  refine pw_sld hx hb hX hbl hbA hS (i + 2) (by omega) (by omega) (by omega) dL_law_542 ?_
  refine pw_callVl (As := [.int (iI ((xs (i + 1)).toInt)), .int (iI ((xs (i + 2)).toInt))]) (rest := [.long (lI (z1))]) ⟨hx, hb, hml, hown, hts⟩ (r_bound l D E r0 σ rn ((xs (i + 1)).toInt) ((xs (i + 2)).toInt) (iI_b (xs (i + 1))).1 (iI_b (xs (i + 1))).2 (iI_b (xs (i + 2))).1 (iI_b (xs (i + 2))).2) (cwV 2 hts gL_law_X10_bound rfl rfl rfl (by decide +kernel) ⟨Nat.le_of_ble_eq_true rfl, Nat.le_of_ble_eq_true rfl⟩) hK hRP.o.choose_spec rfl hRP rfl hl.1 rfl (Nat.le_of_ble_eq_true rfl) dL_law_543 ⟨Nat.le_of_ble_eq_true rfl, Nat.le_of_ble_eq_true rfl⟩ hS (fun q h => by (try dsimp only at h); (try dsimp only); omega) (fun z2 H1 locs1 ⟨hRP2, hpsi2⟩ hz1 hk1 hS => ?_)
  have hPO1 := hPO1.k (fun q h1 h2 h3 => (hk1 _ h3 (by (try dsimp only); omega)))
  have ez : z1 = z2 := by
    rcases hpsi1 with ⟨g1, e1⟩ | ⟨g1, e1⟩ <;> rcases hpsi2 with ⟨g2, e2⟩ | ⟨g2, e2⟩
    · rw [e1, e2]
    · exact absurd g2 g1
    · exact absurd g1 g2
    · exact x_bound hok g1.1 e1 e2
  subst ez
  refine pw_lcmp_same (tgt := 588) hx hb dL_law_546 dL_law_547 (by decide) ?_
  exact kk σ rn _ _ _ hPO1 hRP2 hS (lv_sub hl [0, 1, 2, 3] rfl)
set_option maxHeartbeats 4000000 in
set_option maxRecDepth 100000 in
theorem law_best {p : Program} {e : Env} {s : State} {m : MethodId} {below : List Frame} {meth : Method} {c : Code} (l : Launch) {b L : Nat} {xs : Nat → Int32} (hL : L ≤ 2560) (C0 : lw_At p s m meth c b L xs) {D : va_G} {E : Nat → ClassId} {o0 r0 i : Nat} {σ : MS} {rn : Int} {H : Heap} {locs : List Loc} {ls : Array Slot} (hK : KK D E s) (ho : s.heap.size ≤ o0) (hro : o0 + 583 ≤ r0) (hi : i + 5 ≤ L) (hPO : PO D E o0 σ rn H) (hRP : RPO D E r0 σ rn H) (hS : va_S (fun q : Nat => s.heap.size ≤ q) s.heap H locs) (hl : lv_has ls 4 [(0, .ref (b)), (1, .ref (o0)), (2, .ref (r0)), (3, .int (iI ((i : Int))))]) (kk : ∀ (σ : MS) (rn : Int) (H : Heap) (locs : List Loc) (ls : Array Slot), PO D E o0 σ rn H → RPO D E r0 σ rn H → va_S (fun q : Nat => s.heap.size ≤ q) s.heap H locs → lv_has ls 4 [(0, .ref (b)), (1, .ref (o0)), (2, .ref (r0)), (3, .int (iI ((i : Int))))] → W p l e room_1 s m #[Value.ref b] below meth c H locs (600000) (7302250) (lw_Z below #[Value.ref b] s) (F0 m 588 ls [])) : W p l e room_1 s m #[Value.ref b] below meth c H locs (600000) (7302250) (lw_Z below #[Value.ref b] s) (F0 m 552 ls []) := by
  obtain ⟨hx, hb, hr, hml, hown, hts0, hX, hbl, hlocks, hgv⟩ := C0
  have hown : s.vm.findClass RL = some m.cls := hown
  have hts : ∀ w ∈ wsL_law, w.before #[Value.ref b] s = true := fun w hw => hts0 w (wsL_law_in w hw)
  have hbA : ¬ (fun q : Nat => s.heap.size ≤ q) b := Nat.not_le.mpr hbl
  have hok := hPO.ok.1
  have hN6 := hok.1
  refine lv_aload_n hx hb dL_law_552 rfl (lv_at hl 1 rfl) ?_
  refine pw_callVi (As := []) (rest := []) ⟨hx, hb, hml, hown, hts⟩ (c_best l D E o0 σ rn  ) (cwV 0 hts gL_law_X9_best rfl rfl rfl (by decide +kernel) ⟨Nat.le_of_ble_eq_true rfl, Nat.le_of_ble_eq_true rfl⟩) hK hPO.o.choose_spec rfl hPO rfl hl.1 rfl (Nat.le_of_ble_eq_true rfl) dL_law_553 ⟨Nat.le_of_ble_eq_true rfl, Nat.le_of_ble_eq_true rfl⟩ hS (fun q h => by (try dsimp only at h); (try dsimp only); omega) (fun z1 H1 locs1 ⟨hPO1, hpsi1⟩ hz1 hk1 hS => ?_)
  have hRP := hRP.k (fun q h1 h2 h3 => (hk1 _ h3 (by (try dsimp only); omega)))
  refine lv_aload_n hx hb dL_law_556 rfl (lv_at hl 2 rfl) ?_
  refine pw_callVi (As := []) (rest := [.int (iI (z1))]) ⟨hx, hb, hml, hown, hts⟩ (r_best l D E r0 σ rn  ) (cwV 0 hts gL_law_X10_best rfl rfl rfl (by decide +kernel) ⟨Nat.le_of_ble_eq_true rfl, Nat.le_of_ble_eq_true rfl⟩) hK hRP.o.choose_spec rfl hRP rfl hl.1 rfl (Nat.le_of_ble_eq_true rfl) dL_law_557 ⟨Nat.le_of_ble_eq_true rfl, Nat.le_of_ble_eq_true rfl⟩ hS (fun q h => by (try dsimp only at h); (try dsimp only); omega) (fun z2 H1 locs1 ⟨hRP2, hpsi2⟩ hz1 hk1 hS => ?_)
  have hPO1 := hPO1.k (fun q h1 h2 h3 => (hk1 _ h3 (by (try dsimp only); omega)))
  have ez : z1 = z2 := by rw [hpsi1, hpsi2]
  subst ez
  refine pw_icmp_same (tgt := 588) hx hb dL_law_560 (by decide) ?_
  exact kk σ rn _ _ _ hPO1 hRP2 hS (lv_sub hl [0, 1, 2, 3] rfl)
set_option maxHeartbeats 4000000 in
set_option maxRecDepth 100000 in
theorem law_count {p : Program} {e : Env} {s : State} {m : MethodId} {below : List Frame} {meth : Method} {c : Code} (l : Launch) {b L : Nat} {xs : Nat → Int32} (hL : L ≤ 2560) (C0 : lw_At p s m meth c b L xs) {D : va_G} {E : Nat → ClassId} {o0 r0 i : Nat} {σ : MS} {rn : Int} {H : Heap} {locs : List Loc} {ls : Array Slot} (hK : KK D E s) (ho : s.heap.size ≤ o0) (hro : o0 + 583 ≤ r0) (hi : i + 5 ≤ L) (hPO : PO D E o0 σ rn H) (hRP : RPO D E r0 σ rn H) (hS : va_S (fun q : Nat => s.heap.size ≤ q) s.heap H locs) (hl : lv_has ls 4 [(0, .ref (b)), (1, .ref (o0)), (2, .ref (r0)), (3, .int (iI ((i : Int))))]) (kk : ∀ (σ : MS) (rn : Int) (H : Heap) (locs : List Loc) (ls : Array Slot), PO D E o0 σ rn H → RPO D E r0 σ rn H → va_S (fun q : Nat => s.heap.size ≤ q) s.heap H locs → lv_has ls 4 [(0, .ref (b)), (1, .ref (o0)), (2, .ref (r0)), (3, .int (iI ((i : Int))))] → W p l e room_1 s m #[Value.ref b] below meth c H locs (600000) (7302250) (lw_Z below #[Value.ref b] s) (F0 m 588 ls [])) : W p l e room_1 s m #[Value.ref b] below meth c H locs (600000) (7302250) (lw_Z below #[Value.ref b] s) (F0 m 565 ls []) := by
  obtain ⟨hx, hb, hr, hml, hown, hts0, hX, hbl, hlocks, hgv⟩ := C0
  have hown : s.vm.findClass RL = some m.cls := hown
  have hts : ∀ w ∈ wsL_law, w.before #[Value.ref b] s = true := fun w hw => hts0 w (wsL_law_in w hw)
  have hbA : ¬ (fun q : Nat => s.heap.size ≤ q) b := Nat.not_le.mpr hbl
  have hok := hPO.ok.1
  have hN6 := hok.1
  refine lv_aload_n hx hb dL_law_565 rfl (lv_at hl 1 rfl) ?_
  refine lv_aload_n hx hb dL_law_566 rfl (lv_at hl 0 rfl) ?_
  refine lv_iload_n hx hb dL_law_567 rfl (lv_at hl 3 rfl) ?_
  refine pw_iconst hx hb dL_law_568 ?_
  refine pw_iadd hx hb dL_law_569 ?_
  refine pw_sld hx hb hX hbl hbA hS (i + 1) (by omega) (by omega) (by omega) dL_law_570 ?_
  refine pw_callVi (As := [.int (iI ((xs (i + 1)).toInt))]) (rest := []) ⟨hx, hb, hml, hown, hts⟩ (c_count l D E o0 σ rn ((xs (i + 1)).toInt) (iI_b (xs (i + 1))).1 (iI_b (xs (i + 1))).2) (cwV 1 hts gL_law_X9_count rfl rfl rfl (by decide +kernel) ⟨Nat.le_of_ble_eq_true rfl, Nat.le_of_ble_eq_true rfl⟩) hK hPO.o.choose_spec rfl hPO rfl hl.1 rfl (Nat.le_of_ble_eq_true rfl) dL_law_571 ⟨Nat.le_of_ble_eq_true rfl, Nat.le_of_ble_eq_true rfl⟩ hS (fun q h => by (try dsimp only at h); (try dsimp only); omega) (fun z1 H1 locs1 ⟨hPO1, hpsi1⟩ hz1 hk1 hS => ?_)
  have hRP := hRP.k (fun q h1 h2 h3 => (hk1 _ h3 (by (try dsimp only); omega)))
  refine lv_aload_n hx hb dL_law_574 rfl (lv_at hl 2 rfl) ?_
  refine lv_aload_n hx hb dL_law_575 rfl (lv_at hl 0 rfl) ?_
  refine lv_iload_n hx hb dL_law_576 rfl (lv_at hl 3 rfl) ?_
  refine pw_iconst hx hb dL_law_577 ?_
  refine pw_iadd hx hb dL_law_578 ?_
  refine pw_sld hx hb hX hbl hbA hS (i + 1) (by omega) (by omega) (by omega) dL_law_579 ?_
  refine pw_callVi (As := [.int (iI ((xs (i + 1)).toInt))]) (rest := [.int (iI (z1))]) ⟨hx, hb, hml, hown, hts⟩ (r_count l D E r0 σ rn ((xs (i + 1)).toInt) (iI_b (xs (i + 1))).1 (iI_b (xs (i + 1))).2) (cwV 1 hts gL_law_X10_count rfl rfl rfl (by decide +kernel) ⟨Nat.le_of_ble_eq_true rfl, Nat.le_of_ble_eq_true rfl⟩) hK hRP.o.choose_spec rfl hRP rfl hl.1 rfl (Nat.le_of_ble_eq_true rfl) dL_law_580 ⟨Nat.le_of_ble_eq_true rfl, Nat.le_of_ble_eq_true rfl⟩ hS (fun q h => by (try dsimp only at h); (try dsimp only); omega) (fun z2 H1 locs1 ⟨hRP2, hpsi2⟩ hz1 hk1 hS => ?_)
  have hPO1 := hPO1.k (fun q h1 h2 h3 => (hk1 _ h3 (by (try dsimp only); omega)))
  have ez : z1 = z2 := by rw [hpsi1, hpsi2]
  subst ez
  refine pw_icmp_same (tgt := 588) hx hb dL_law_583 (by decide) ?_
  exact kk σ rn _ _ _ hPO1 hRP2 hS (lv_sub hl [0, 1, 2, 3] rfl)
set_option maxHeartbeats 4000000 in
set_option maxRecDepth 100000 in
theorem law_loop {p : Program} {e : Env} {s : State} {m : MethodId} {below : List Frame} {meth : Method} {c : Code} (l : Launch) {b L : Nat} {xs : Nat → Int32} (hL : L ≤ 2560) (C0 : lw_At p s m meth c b L xs) {D : va_G} {E : Nat → ClassId} {o0 r0 : Nat} (hK : KK D E s) (ho : s.heap.size ≤ o0) (hro : o0 + 583 ≤ r0) : ∀ (n i : Nat) (σ : MS) (rn : Int) (H : Heap) (locs : List Loc) (ls : Array Slot), i ≤ L → L + 1 ≤ i + n → PO D E o0 σ rn H → RPO D E r0 σ rn H → va_S (fun q : Nat => s.heap.size ≤ q) s.heap H locs → lv_has ls 4 [(0, .ref (b)), (1, .ref (o0)), (2, .ref (r0)), (3, .int (iI ((i : Int))))] → W p l e room_1 s m #[Value.ref b] below meth c H locs (600000) (7302250) (lw_Z below #[Value.ref b] s) (F0 m 18 ls []) := by
  have C1 := C0
  obtain ⟨hx, hb, hr, hml, hown, hts0, hX, hbl, hlocks, hgv⟩ := C0
  have hown : s.vm.findClass RL = some m.cls := hown
  have hts : ∀ w ∈ wsL_law, w.before #[Value.ref b] s = true := fun w hw => hts0 w (wsL_law_in w hw)
  have hbA : ¬ (fun q : Nat => s.heap.size ≤ q) b := Nat.not_le.mpr hbl
  intro n
  induction n with
  | zero =>
    intro i σ rn H locs ls h1 h2
    exact absurd h2 (by omega)
  | succ n ih =>
    intro i σ rn H locs ls hi hn hPO hRP hS hl
    refine lv_iload_n hx hb dL_law_18 rfl (lv_at hl 3 rfl) ?_
    refine lv_aload_n hx hb dL_law_19 rfl (lv_at hl 0 rfl) ?_
    refine pw_slen hx hb hX hbl hbA hS dL_law_20 ?_
    refine pw_iconst hx hb dL_law_21 ?_
    refine pw_isub hx hb dL_law_22 ?_
    refine pw_icmp_gt (tgt := 594) hx hb dL_law_23 (by decide) (fun c_23 => ?_) (fun c_23 => ?_)
    · refine pw_iconst hx hb dL_law_594 ?_
      have e1 : iI 1 = (1 : Int32) := rfl
      rw [e1]
      refine va_forget (fun q hq => hS.2.2 q hq) ?_
      exact lw_ret hx hb hr hlocks dL_law_595
    · refine lv_aload_n hx hb dL_law_26 rfl (lv_at hl 0 rfl) ?_
      refine lv_iload_n hx hb dL_law_27 rfl (lv_at hl 3 rfl) ?_
      refine pw_sld hx hb hX hbl hbA hS (i) (by omega) (by omega) (by omega) dL_law_28 ?_
      refine pw_bipush hx hb dL_law_29 ?_
      refine lv_iand hx hb dL_law_31 ?_
      obtain ⟨v, hv15, hv⟩ := j_and15 (iI_b (xs i)).1 (iI_b (xs i)).2
      rw [hv]
      have kk : ∀ (σ : MS) (rn : Int) (H : Heap) (locs : List Loc) (ls : Array Slot), PO D E o0 σ rn H → RPO D E r0 σ rn H → va_S (fun q : Nat => s.heap.size ≤ q) s.heap H locs → lv_has ls 4 [(0, .ref (b)), (1, .ref (o0)), (2, .ref (r0)), (3, .int (iI ((i : Int))))] → W p l e room_1 s m #[Value.ref b] below meth c H locs (600000) (7302250) (lw_Z below #[Value.ref b] s) (F0 m 588 ls []) := by
        intro σ rn H locs ls hPO hRP hS hl
        refine lv_iinc (v := iI (((i + 5 : Nat) : Int))) (lv' := [(3, .int (iI (((i + 5 : Nat) : Int)))), (0, .ref (b)), (1, .ref (o0)), (2, .ref (r0))]) hx hb dL_law_588 hl (k := 3) rfl (by show iI _ + iI _ = _; exact (iI_add _ _).trans (by first | rfl | (congr 1; omega))) (by decide) rfl (fun ls hl => ?_)
        refine lv_goto (tgt := 18) hx hb dL_law_591 (by decide) ?_
        exact ih (i + 5) σ rn _ _ _ (by omega) (by omega) hPO hRP hS (lv_sub hl [1, 2, 3, 0] rfl)
      have hvt : (iI (v : Int)).toInt = (v : Int) := iI_t (by omega) (by omega)
      have hv2 : v = 15 ∨ v = 0 ∨ v = 1 ∨ v = 2 ∨ v = 3 ∨ v = 4 ∨ v = 5 ∨ v = 6 ∨ v = 7 ∨ v = 8 ∨ v = 9 ∨ v = 10 ∨ v = 11 ∨ v = 12 ∨ v = 13 ∨ v = 14 := by omega
      rcases hv2 with hv | hv | hv | hv | hv | hv | hv | hv | hv | hv | hv | hv | hv | hv | hv | hv
      · refine lv_tableOut (tgt := 588) hx hb dL_law_32 (Or.inr (by rw [hvt]; omega)) (by decide) ?_
        exact kk σ rn _ _ _ hPO hRP hS (lv_sub hl [0, 1, 2, 3] rfl)
      · refine lv_tableIn (off := 76) (tgt := 108) hx hb dL_law_32 (by rw [hvt]; omega) (by rw [hvt]; omega) (by rw [hvt, hv]; rfl) (by decide) ?_
        exact law_state l hL C1 hK ho hro (by omega) hPO hRP hS (lv_sub hl [0, 1, 2, 3] rfl) kk
      · refine lv_tableIn (off := 89) (tgt := 121) hx hb dL_law_32 (by rw [hvt]; omega) (by rw [hvt]; omega) (by rw [hvt, hv]; rfl) (by decide) ?_
        exact law_action l hL C1 hK ho hro (by omega) hPO hRP hS (lv_sub hl [0, 1, 2, 3] rfl) kk
      · refine lv_tableIn (off := 112) (tgt := 144) hx hb dL_law_32 (by rw [hvt]; omega) (by rw [hvt]; omega) (by rw [hvt, hv]; rfl) (by decide) ?_
        exact law_reward l hL C1 hK ho hro (by omega) hPO hRP hS (lv_sub hl [0, 1, 2, 3] rfl) kk
      · refine lv_tableIn (off := 165) (tgt := 197) hx hb dL_law_32 (by rw [hvt]; omega) (by rw [hvt]; omega) (by rw [hvt, hv]; rfl) (by decide) ?_
        exact law_move l hL C1 hK ho hro (by omega) hPO hRP hS (lv_sub hl [0, 1, 2, 3] rfl) kk
      · refine lv_tableIn (off := 218) (tgt := 250) hx hb dL_law_32 (by rw [hvt]; omega) (by rw [hvt]; omega) (by rw [hvt, hv]; rfl) (by decide) ?_
        exact law_discount l hL C1 hK ho hro (by omega) hPO hRP hS (lv_sub hl [0, 1, 2, 3] rfl) kk
      · refine lv_tableIn (off := 251) (tgt := 283) hx hb dL_law_32 (by rw [hvt]; omega) (by rw [hvt]; omega) (by rw [hvt, hv]; rfl) (by decide) ?_
        exact law_solve l hL C1 hK ho hro (by omega) hPO hRP hS (lv_sub hl [0, 1, 2, 3] rfl) kk
      · refine lv_tableIn (off := 264) (tgt := 296) hx hb dL_law_32 (by rw [hvt]; omega) (by rw [hvt]; omega) (by rw [hvt, hv]; rfl) (by decide) ?_
        exact law_policy l hL C1 hK ho hro (by omega) hPO hRP hS (lv_sub hl [0, 1, 2, 3] rfl) kk
      · refine lv_tableIn (off := 287) (tgt := 319) hx hb dL_law_32 (by rw [hvt]; omega) (by rw [hvt]; omega) (by rw [hvt, hv]; rfl) (by decide) ?_
        exact law_value l hL C1 hK ho hro (by omega) hPO hRP hS (lv_sub hl [0, 1, 2, 3] rfl) kk
      · refine lv_tableIn (off := 321) (tgt := 353) hx hb dL_law_32 (by rw [hvt]; omega) (by rw [hvt]; omega) (by rw [hvt, hv]; rfl) (by decide) ?_
        exact law_gain l hL C1 hK ho hro (by omega) hPO hRP hS (lv_sub hl [0, 1, 2, 3] rfl) kk
      · refine lv_tableIn (off := 365) (tgt := 397) hx hb dL_law_32 (by rw [hvt]; omega) (by rw [hvt]; omega) (by rw [hvt, hv]; rfl) (by decide) ?_
        exact law_worth l hL C1 hK ho hro (by omega) hPO hRP hS (lv_sub hl [0, 1, 2, 3] rfl) kk
      · refine lv_tableIn (off := 409) (tgt := 441) hx hb dL_law_32 (by rw [hvt]; omega) (by rw [hvt]; omega) (by rw [hvt, hv]; rfl) (by decide) ?_
        exact law_steps l hL C1 hK ho hro (by omega) hPO hRP hS (lv_sub hl [0, 1, 2, 3] rfl) kk
      · refine lv_tableIn (off := 453) (tgt := 485) hx hb dL_law_32 (by rw [hvt]; omega) (by rw [hvt]; omega) (by rw [hvt, hv]; rfl) (by decide) ?_
        exact law_plan l hL C1 hK ho hro (by omega) hPO hRP hS (lv_sub hl [0, 1, 2, 3] rfl) kk
      · refine lv_tableIn (off := 486) (tgt := 518) hx hb dL_law_32 (by rw [hvt]; omega) (by rw [hvt]; omega) (by rw [hvt, hv]; rfl) (by decide) ?_
        exact law_bound l hL C1 hK ho hro (by omega) hPO hRP hS (lv_sub hl [0, 1, 2, 3] rfl) kk
      · refine lv_tableIn (off := 520) (tgt := 552) hx hb dL_law_32 (by rw [hvt]; omega) (by rw [hvt]; omega) (by rw [hvt, hv]; rfl) (by decide) ?_
        exact law_best l hL C1 hK ho hro (by omega) hPO hRP hS (lv_sub hl [0, 1, 2, 3] rfl) kk
      · refine lv_tableIn (off := 533) (tgt := 565) hx hb dL_law_32 (by rw [hvt]; omega) (by rw [hvt]; omega) (by rw [hvt, hv]; rfl) (by decide) ?_
        exact law_count l hL C1 hK ho hro (by omega) hPO hRP hS (lv_sub hl [0, 1, 2, 3] rfl) kk
