/-! the reference: a policy's values -/
theorem lcm2 {c b : Nat} (hc : 0 < c) : c / Nat.gcd c b * b = Nat.lcm c b := by
  obtain ⟨q, hq⟩ := Nat.gcd_dvd_left c b
  have hg : 0 < Nat.gcd c b := Nat.gcd_pos_of_pos_left _ hc
  have e1 : c / Nat.gcd c b = q := by
    have : Nat.gcd c b * q / Nat.gcd c b = q := Nat.mul_div_cancel_left _ hg
    rw [← hq] at this
    exact this
  have e2 : c * b / Nat.gcd c b = q * b := by
    have : Nat.gcd c b * (q * b) / Nat.gcd c b = q * b := Nat.mul_div_cancel_left _ hg
    rw [← Nat.mul_assoc, ← hq] at this
    exact this
  rw [e1]
  exact e2.symm
def cl (N c : Nat) : Nat := if c = N then 6 else c
theorem cl_le {N c : Nat} (hN : N ≤ 6) (hc : c ≤ N) : cl N c ≤ 6 := by unfold cl; split <;> omega
theorem cl_inj {N c d : Nat} (hN : N ≤ 6) (hc : c ≤ N) (hd : d ≤ N) (h : cl N c = cl N d) : c = d := by
  unfold cl at h
  split at h <;> split at h <;> omega
theorem cl_lt {N c : Nat} (hc : c < N) : cl N c = c := by unfold cl; rw [if_neg (by omega)]
theorem cl_N (N : Nat) : cl N N = 6 := if_pos rfl
/-- which entries of elimination the numbers hold: the level of each place -/
def RA (R : Nat → Nat → Int) (N : Nat) (vs : Nat → Int) (lev : Nat → Nat → Nat) : Prop := ∀ q c, q < N → c ≤ N → lev q c ≤ c → vs (7 * q + cl N c) = eE R (lev q c) q c
theorem RA.o {R : Nat → Nat → Int} {N a : Nat} {vs vs' : Nat → Int} {lev : Nat → Nat → Nat} (h : RA R N vs lev) (hN : N ≤ 6) (ha : 42 ≤ a) (ho : ∀ c, c ≠ a → vs' c = vs c) : RA R N vs' lev := fun q c hq hc hl => by
  have := cl_le hN hc
  rw [ho _ (by omega)]
  exact h q c hq hc hl
theorem RA.o2 {R : Nat → Nat → Int} {N a : Nat} {vs vs' : Nat → Int} {lev : Nat → Nat → Nat} (h : RA R N vs lev) (hN : N ≤ 6) (ha : 42 ≤ a) (ho : ∀ c, c ≠ a → c ≠ 52 → vs' c = vs c) : RA R N vs' lev := fun q c hq hc hl => by
  have := cl_le hN hc
  rw [ho _ (by omega) (by omega)]
  exact h q c hq hc hl
theorem RA.up {R : Nat → Nat → Int} {N i j l : Nat} {vs vs' : Nat → Int} {lev : Nat → Nat → Nat} (h : RA R N vs lev) (hN : N ≤ 6) (hi : i < N) (hj : j ≤ N) (hv : vs' (7 * i + cl N j) = eE R l i j) (ho : ∀ c, c ≠ 7 * i + cl N j → (c < 49 ∨ 52 < c) → vs' c = vs c) : RA R N vs' (fun q c => if q = i ∧ c = j then l else lev q c) := fun q c hq hc hl => by
  have h1 := cl_le hN hc
  have h2 := cl_le hN hj
  dsimp only at hl ⊢
  by_cases e : q = i ∧ c = j
  · obtain ⟨e1, e2⟩ := e
    subst e1
    subst e2
    rw [if_pos (show q = q ∧ c = c from ⟨rfl, rfl⟩)]
    exact hv
  · rw [if_neg e] at hl ⊢
    rw [ho _ (fun he => e ?_) (by omega)]
    · exact h q c hq hc hl
    · have e1 : q = i := by omega
      subst e1
      exact ⟨rfl, cl_inj hN hc hj (by omega)⟩
theorem RA.to {R : Nat → Nat → Int} {N : Nat} {vs : Nat → Int} {lev lev' : Nat → Nat → Nat} (h : RA R N vs lev) (he : ∀ q c, q < N → c ≤ N → lev' q c ≤ c → lev q c = lev' q c) : RA R N vs lev' := fun q c hq hc hl => by
  have e := he q c hq hc hl
  rw [← e]
  exact h q c hq hc (by omega)
def lv1 (k i j q c : Nat) : Nat := if q ≤ k then q else if q < i then k + 1 else if q = i ∧ k + 1 ≤ c ∧ c < j then k + 1 else k
theorem lv1_a (k i q c : Nat) : lv1 k i (k + 1) q c = lv1 k i 0 q c := by
  unfold lv1
  split
  · rfl
  · split
    · rfl
    · rw [if_neg (by omega), if_neg (by omega)]
def bdW : Nat := (7 * 558702144000000) ^ 7
theorem bdW_b : bdW < 268435456 ^ 14 ∧ 13 * (bdW * bdW) < 268435456 ^ 62 := by decide +kernel
theorem mul_bW {x y : Int} (hx : x.natAbs ≤ bdW) (hy : y.natAbs ≤ bdW) : (x * y).natAbs ≤ bdW * bdW := by rw [Int.natAbs_mul]; exact Nat.mul_le_mul hx hy
theorem sI_bW {f : Nat → Int} {M : Nat} : ∀ {k : Nat}, (∀ j, j < k → (f j).natAbs ≤ M) → (sI f k).natAbs ≤ k * M
  | 0, _ => by simp [sI]
  | k + 1, h => by
    have ih := sI_bW (f := f) (M := M) (k := k) (fun j hj => h j (by omega))
    have h1 := h k (by omega)
    show (sI f k + f k).natAbs ≤ _
    rw [Nat.add_mul, Nat.one_mul]
    omega
set_option maxHeartbeats 4000000 in
set_option maxRecDepth 100000 in
/-- putRight(k, i, c) -/
theorem r_putRight (l : Launch) (D : va_G) (E : Nat → ClassId) (r0 k i c1 : Nat) (o vs0 : Nat → Int) (px x y z0 d q : Int) (hk : k < i) (hi : i < 6) (hc1 : c1 ≤ 6) (hck : c1 ≠ k) (e1 : vs0 (8 * k) = px) (e2 : vs0 (7 * i + c1) = x) (e3 : vs0 (7 * i + k) = y) (e4 : vs0 (7 * k + c1) = z0) (e5 : vs0 48 = d) (hd : 0 < d) (hq : px * x - y * z0 = q * d) (b1 : px.natAbs ≤ bdW) (b2 : x.natAbs ≤ bdW) (b3 : y.natAbs ≤ bdW) (b4 : z0.natAbs ≤ bdW) (b5 : d.natAbs ≤ bdW) : pw_M rvV l D E yX10_putRight wsX10_putRight ({ frames := 3, cells := 0, slots := 0, locals := 81 } : Room) [.ref (r0), .int (iI ((k : Int))), .int (iI ((i : Int))), .int (iI ((c1 : Int)))] (fun H => RO D r0 o H ∧ BN E r0 vs0 H) (fun _ H => ∃ vs, BN E r0 vs H ∧ vs (7 * i + c1) = q ∧ ∀ c, c ≠ 7 * i + c1 → (c < 49 ∨ 52 < c) → vs c = vs0 c) (fun q => q = r0 + 8 ∨ q = r0 + 9 ∨ q = r0 + 10) (0) (0) := by
  refine pw_of (cc := cX10_putRight) (maxL := 4) (ret := none) (by decide +kernel) rfl (Nat.le_of_ble_eq_true rfl) ?_
  intro p e s m args below meth c hx hb hr hml hts hown hlocks hini hK ⟨hO, f, g, h, ⟨hf, hg, hh⟩, hN⟩ ls hl
  have hown : s.vm.findClass RX10 = some m.cls := hown
  have hl : lv_has ls 4 [(0, .ref (r0)), (1, .int (iI ((k : Int)))), (2, .int (iI ((i : Int)))), (3, .int (iI ((c1 : Int))))] := hl
  have hS : va_S (fun q => q = r0 + 8 ∨ q = r0 + 9 ∨ q = r0 + 10) s.heap s.heap [] := va_S.rf
  obtain ⟨w1, w2⟩ := bdW_b
  have m1 := mul_bW b1 b2
  have m2 := mul_bW b3 b4
  have p63 := rb_s 62
  have hvc : ∀ c, c < 49 ∨ 52 < c → vs0 (c) = vs0 c := fun _ _ => rfl
  refine lv_aload_n hx hb dX10_putRight_0 rfl (lv_at hl 0 rfl) ?_
  refine pw_bipush hx hb dX10_putRight_1 ?_
  refine lv_iload_n hx hb dX10_putRight_3 rfl (lv_at hl 1 rfl) ?_
  refine pw_imul hx hb dX10_putRight_4 ?_
  refine pw_asi (((8 * k : Nat) : Int)) (by omega) ?_
  refine pw_bipush hx hb dX10_putRight_5 ?_
  refine lv_iload_n hx hb dX10_putRight_7 rfl (lv_at hl 2 rfl) ?_
  refine pw_imul hx hb dX10_putRight_8 ?_
  refine lv_iload_n hx hb dX10_putRight_9 rfl (lv_at hl 3 rfl) ?_
  refine pw_iadd hx hb dX10_putRight_10 ?_
  refine pw_asi (((7 * i + c1 : Nat) : Int)) (by omega) ?_
  refine pw_bipush hx hb dX10_putRight_11 ?_
  refine pw_callVv (As := [.int (iI (((8 * k : Nat) : Int))), .int (iI (((7 * i + c1 : Nat) : Int))), .int (iI (49))]) (rest := []) ⟨hx, hb, hml, hown, hts⟩ (r_multiply l D E r0 o f g h (8 * k) (7 * i + c1) (49) 14 14 (px) (x) (by omega) (by omega) (by omega) (by omega) (by omega) (num_at (hN (8 * k) (by omega)) e1) (num_at (hN (7 * i + c1) (by omega)) e2) (by omega) (by omega) (by omega)) (cwV 3 hts gX10_putRight_X10_multiply rfl rfl rfl (by decide +kernel) ⟨Nat.le_of_ble_eq_true rfl, Nat.le_of_ble_eq_true rfl⟩) hK hO rfl ⟨hO, hf, hg, hh⟩ rfl hl.1 rfl (Nat.le_of_ble_eq_true rfl) dX10_putRight_13 ⟨Nat.zero_le _, Nat.zero_le _⟩ hS (fun q h => h) (fun H1 locs1 ⟨f, g, h, ⟨hf, hg, hh⟩, hn1, ho1⟩ hz1 hk1 hS => ?_)
  have hO := hO.k (hk1 _ hO.lt (by (try dsimp only); omega))
  obtain ⟨vs, hva0, hvo, hN⟩ := bn_np hN hn1 ho1
  clear hn1 ho1
  have e1 : vs (8 * k) = px := (hvo _ (by omega)).trans e1
  have e2 : vs (7 * i + c1) = x := (hvo _ (by omega)).trans e2
  have e3 : vs (7 * i + k) = y := (hvo _ (by omega)).trans e3
  have e4 : vs (7 * k + c1) = z0 := (hvo _ (by omega)).trans e4
  have e5 : vs (48) = d := (hvo _ (by omega)).trans e5
  have hvc : ∀ c, c < 49 ∨ 52 < c → vs (c) = vs0 c := fun c hq => (hvo _ (by omega)).trans (hvc c hq)
  have e9 : vs (49) = px * x := hva0
  clear hva0 hvo
  refine lv_aload_n hx hb dX10_putRight_16 rfl (lv_at hl 0 rfl) ?_
  refine pw_bipush hx hb dX10_putRight_17 ?_
  refine lv_iload_n hx hb dX10_putRight_19 rfl (lv_at hl 2 rfl) ?_
  refine pw_imul hx hb dX10_putRight_20 ?_
  refine lv_iload_n hx hb dX10_putRight_21 rfl (lv_at hl 1 rfl) ?_
  refine pw_iadd hx hb dX10_putRight_22 ?_
  refine pw_asi (((7 * i + k : Nat) : Int)) (by omega) ?_
  refine pw_bipush hx hb dX10_putRight_23 ?_
  refine lv_iload_n hx hb dX10_putRight_25 rfl (lv_at hl 1 rfl) ?_
  refine pw_imul hx hb dX10_putRight_26 ?_
  refine lv_iload_n hx hb dX10_putRight_27 rfl (lv_at hl 3 rfl) ?_
  refine pw_iadd hx hb dX10_putRight_28 ?_
  refine pw_asi (((7 * k + c1 : Nat) : Int)) (by omega) ?_
  refine pw_bipush hx hb dX10_putRight_29 ?_
  refine pw_callVv (As := [.int (iI (((7 * i + k : Nat) : Int))), .int (iI (((7 * k + c1 : Nat) : Int))), .int (iI (50))]) (rest := []) ⟨hx, hb, hml, hown, hts⟩ (r_multiply l D E r0 o f g h (7 * i + k) (7 * k + c1) (50) 14 14 (y) (z0) (by omega) (by omega) (by omega) (by omega) (by omega) (num_at (hN (7 * i + k) (by omega)) e3) (num_at (hN (7 * k + c1) (by omega)) e4) (by omega) (by omega) (by omega)) (cwV 3 hts gX10_putRight_X10_multiply rfl rfl rfl (by decide +kernel) ⟨Nat.le_of_ble_eq_true rfl, Nat.le_of_ble_eq_true rfl⟩) hK hO rfl ⟨hO, hf, hg, hh⟩ rfl hl.1 rfl (Nat.le_of_ble_eq_true rfl) dX10_putRight_31 ⟨Nat.zero_le _, Nat.zero_le _⟩ hS (fun q h => h) (fun H1 locs1 ⟨f, g, h, ⟨hf, hg, hh⟩, hn1, ho1⟩ hz1 hk1 hS => ?_)
  have hO := hO.k (hk1 _ hO.lt (by (try dsimp only); omega))
  obtain ⟨vs, hva0, hvo, hN⟩ := bn_np hN hn1 ho1
  clear hn1 ho1
  have e1 : vs (8 * k) = px := (hvo _ (by omega)).trans e1
  have e2 : vs (7 * i + c1) = x := (hvo _ (by omega)).trans e2
  have e3 : vs (7 * i + k) = y := (hvo _ (by omega)).trans e3
  have e4 : vs (7 * k + c1) = z0 := (hvo _ (by omega)).trans e4
  have e5 : vs (48) = d := (hvo _ (by omega)).trans e5
  have hvc : ∀ c, c < 49 ∨ 52 < c → vs (c) = vs0 c := fun c hq => (hvo _ (by omega)).trans (hvc c hq)
  have e9 : vs (49) = px * x := (hvo _ (by omega)).trans e9
  have e10 : vs (50) = y * z0 := hva0
  clear hva0 hvo
  refine lv_aload_n hx hb dX10_putRight_34 rfl (lv_at hl 0 rfl) ?_
  refine pw_bipush hx hb dX10_putRight_35 ?_
  refine pw_bipush hx hb dX10_putRight_37 ?_
  refine pw_iconst hx hb dX10_putRight_39 ?_
  refine pw_callVv (As := [.int (iI (49)), .int (iI (50)), .int (iI (-1))]) (rest := []) ⟨hx, hb, hml, hown, hts⟩ (r_plus l D E r0 o f g h 49 50 (px * x) (y * z0) (-1) (by omega) (by omega) (by omega) (Or.inr rfl) (num_at (hN (49) (by omega)) e9) (num_at (hN (50) (by omega)) e10) (by omega) (by omega)) (cwV 3 hts gX10_putRight_X10_plus rfl rfl rfl (by decide +kernel) ⟨Nat.le_of_ble_eq_true rfl, Nat.le_of_ble_eq_true rfl⟩) hK hO rfl ⟨hO, hf, hg, hh⟩ rfl hl.1 rfl (Nat.le_of_ble_eq_true rfl) dX10_putRight_40 ⟨Nat.zero_le _, Nat.zero_le _⟩ hS (fun q h => h) (fun H1 locs1 ⟨f, g, h, ⟨hf, hg, hh⟩, hn1, ho1⟩ hz1 hk1 hS => ?_)
  have hO := hO.k (hk1 _ hO.lt (by (try dsimp only); omega))
  obtain ⟨vs, hva0, hvo, hN⟩ := bn_np hN hn1 ho1
  clear hn1 ho1
  have e1 : vs (8 * k) = px := (hvo _ (by omega)).trans e1
  have e2 : vs (7 * i + c1) = x := (hvo _ (by omega)).trans e2
  have e3 : vs (7 * i + k) = y := (hvo _ (by omega)).trans e3
  have e4 : vs (7 * k + c1) = z0 := (hvo _ (by omega)).trans e4
  have e5 : vs (48) = d := (hvo _ (by omega)).trans e5
  have hvc : ∀ c, c < 49 ∨ 52 < c → vs (c) = vs0 c := fun c hq => (hvo _ (by omega)).trans (hvc c hq)
  have e10 : vs (50) = y * z0 := (hvo _ (by omega)).trans e10
  have e9 : vs (49) = q * d := (hva0.trans (by omega))
  clear hva0 hvo
  refine lv_aload_n hx hb dX10_putRight_43 rfl (lv_at hl 0 rfl) ?_
  refine pw_bipush hx hb dX10_putRight_44 ?_
  refine pw_bipush hx hb dX10_putRight_46 ?_
  refine pw_callVv (As := [.int (iI (49)), .int (iI (48))]) (rest := []) ⟨hx, hb, hml, hown, hts⟩ (r_over l D E r0 o f g h (49) (48) (q * d) (d) (q) (by omega) (by omega) (by omega) (by omega) (by omega) (num_at (hN (49) (by omega)) e9) (num_at (hN (48) (by omega)) e5) hd rfl (by omega)) (cwV 2 hts gX10_putRight_X10_over rfl rfl rfl (by decide +kernel) ⟨Nat.le_of_ble_eq_true rfl, Nat.le_of_ble_eq_true rfl⟩) hK hO rfl ⟨hO, hf, hg, hh⟩ rfl hl.1 rfl (Nat.le_of_ble_eq_true rfl) dX10_putRight_48 ⟨Nat.zero_le _, Nat.zero_le _⟩ hS (fun q h => by (try dsimp only at h); (try dsimp only); omega) (fun H1 locs1 ⟨f, g, h, ⟨hf, hg, hh⟩, hn1, hn4, ho1⟩ hz1 hk1 hS => ?_)
  have hO := hO.k (hk1 _ hO.lt (by (try dsimp only); omega))
  obtain ⟨vs, hva0, hvo, hN⟩ := bn_nq hN hn1 hn4 ho1
  clear hn1 hn4 ho1
  have e1 : vs (8 * k) = px := (hvo _ (by omega) (by omega)).trans e1
  have e2 : vs (7 * i + c1) = x := (hvo _ (by omega) (by omega)).trans e2
  have e3 : vs (7 * i + k) = y := (hvo _ (by omega) (by omega)).trans e3
  have e4 : vs (7 * k + c1) = z0 := (hvo _ (by omega) (by omega)).trans e4
  have e5 : vs (48) = d := (hvo _ (by omega) (by omega)).trans e5
  have hvc : ∀ c, c < 49 ∨ 52 < c → vs (c) = vs0 c := fun c hq => (hvo _ (by omega) (by omega)).trans (hvc c hq)
  have e9 : vs (49) = q := hva0
  have e10 : vs (50) = y * z0 := (hvo _ (by omega) (by omega)).trans e10
  clear hva0 hvo
  refine lv_aload_n hx hb dX10_putRight_51 rfl (lv_at hl 0 rfl) ?_
  refine pw_bipush hx hb dX10_putRight_52 ?_
  refine pw_bipush hx hb dX10_putRight_54 ?_
  refine lv_iload_n hx hb dX10_putRight_56 rfl (lv_at hl 2 rfl) ?_
  refine pw_imul hx hb dX10_putRight_57 ?_
  refine lv_iload_n hx hb dX10_putRight_58 rfl (lv_at hl 3 rfl) ?_
  refine pw_iadd hx hb dX10_putRight_59 ?_
  refine pw_asi (((7 * i + c1 : Nat) : Int)) (by omega) ?_
  refine pw_callVv (As := [.int (iI (49)), .int (iI (((7 * i + c1 : Nat) : Int)))]) (rest := []) ⟨hx, hb, hml, hown, hts⟩ (r_copy l D E r0 o f g h 49 (7 * i + c1) q (by omega) (by omega) (by omega) (num_at (hN (49) (by omega)) e9)) (cwV 2 hts gX10_putRight_X10_copy rfl rfl rfl (by decide +kernel) ⟨Nat.le_of_ble_eq_true rfl, Nat.le_of_ble_eq_true rfl⟩) hK hO rfl ⟨hO, hf, hg, hh⟩ rfl hl.1 rfl (Nat.le_of_ble_eq_true rfl) dX10_putRight_60 ⟨Nat.zero_le _, Nat.zero_le _⟩ hS (fun q h => h) (fun H1 locs1 ⟨f, g, h, ⟨hf, hg, hh⟩, hn1, ho1⟩ hz1 hk1 hS => ?_)
  have hO := hO.k (hk1 _ hO.lt (by (try dsimp only); omega))
  obtain ⟨vs, hva0, hvo, hN⟩ := bn_np hN hn1 ho1
  exact pw_vret hx hb hr hlocks hS ⟨vs, ⟨f, g, h, ⟨hf, hg, hh⟩, hN⟩, hva0, fun c h1 h2 => (hvo c h1).trans (hvc c h2)⟩ dX10_putRight_63
