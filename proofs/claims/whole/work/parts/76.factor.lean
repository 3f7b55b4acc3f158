/-! the reference: prime factors -/
def pr (j : Nat) : Nat := (([2, 3, 5, 7, 11, 13, 17, 19, 23, 29, 31, 37, 41, 43, 47, 53, 59, 61, 67, 71, 73, 79, 83, 89, 97, 101, 103, 107, 109, 113] : List Nat)[j]?).getD 2
theorem prm_pr : ∀ j, j < 30 → prm j = (pr j : Int) := by decide +kernel
theorem pr_b : ∀ j, j < 30 → 2 ≤ pr j ∧ pr j ≤ 113 := by decide +kernel
def st1 (q : Nat) : Nat → Nat → Nat
  | 0, x => x
  | f + 1, x => if x % q = 0 then st1 q f (x / q) else x
def cn1 (q : Nat) : Nat → Nat → Nat
  | 0, _ => 0
  | f + 1, x => if x % q = 0 then cn1 q f (x / q) + 1 else 0
theorem st1_y {q f x : Nat} (h : x % q = 0) : st1 q (f + 1) x = st1 q f (x / q) := if_pos h
theorem st1_n {q f x : Nat} (h : ¬ x % q = 0) : st1 q (f + 1) x = x := if_neg h
theorem cn1_y {q f x : Nat} (h : x % q = 0) : cn1 q (f + 1) x = cn1 q f (x / q) + 1 := if_pos h
theorem cn1_n {q f x : Nat} (h : ¬ x % q = 0) : cn1 q (f + 1) x = 0 := if_neg h
theorem st1_cn (q : Nat) : ∀ f x, st1 q f x * q ^ cn1 q f x = x
  | 0, x => by show x * q ^ 0 = x; rw [Nat.pow_zero, Nat.mul_one]
  | f + 1, x => by
    by_cases h : x % q = 0
    · rw [st1_y h, cn1_y h, Nat.pow_succ, ← Nat.mul_assoc, st1_cn q f (x / q)]
      exact Nat.div_mul_cancel (Nat.dvd_of_mod_eq_zero h)
    · rw [st1_n h, cn1_n h, Nat.pow_zero, Nat.mul_one]
theorem cn1_le (q : Nat) : ∀ f x, cn1 q f x ≤ f
  | 0, x => Nat.le_refl 0
  | f + 1, x => by
    by_cases h : x % q = 0
    · rw [cn1_y h]; have := cn1_le q f (x / q); omega
    · rw [cn1_n h]; omega
def stA (v : Nat) : Nat → Nat
  | 0 => v
  | k + 1 => st1 (pr k) 12 (stA v k)
def ex (v j : Nat) : Nat := cn1 (pr j) 12 (stA v j)
theorem ex_le (v j : Nat) : ex v j ≤ 12 := cn1_le _ _ _
def PP (e : Nat → Nat) : Nat → Nat
  | 0 => 1
  | k + 1 => PP e k * pr k ^ e k
theorem stA_PP (v : Nat) : ∀ k, stA v k * PP (ex v) k = v
  | 0 => Nat.mul_one v
  | k + 1 => by
    show st1 (pr k) 12 (stA v k) * (PP (ex v) k * pr k ^ cn1 (pr k) 12 (stA v k)) = v
    rw [Nat.mul_left_comm, st1_cn, Nat.mul_comm]
    exact stA_PP v k
theorem stA_le (v : Nat) (hv : 0 < v) (k : Nat) : 0 < stA v k ∧ stA v k ≤ v := by
  have h := stA_PP v k
  have h1 : 0 < stA v k := Nat.pos_of_ne_zero (fun e => by rw [e, Nat.zero_mul] at h; omega)
  have h2 : 0 < PP (ex v) k := Nat.pos_of_ne_zero (fun e => by rw [e, Nat.mul_zero] at h; omega)
  refine ⟨h1, ?_⟩
  have h3 : stA v k * 1 ≤ stA v k * PP (ex v) k := Nat.mul_le_mul_left _ h2
  omega
/-- a lower part whose prime factors are all known -/
def vok (v : Nat) : Prop := 0 < v ∧ v ≤ 2400 ∧ stA v 30 = 1
set_option maxRecDepth 100000 in
theorem st_all : ∀ d, d < 21 → ∀ t, t < 121 → 0 < d → 0 < t → stA (d * t) 30 = 1 := by decide +kernel
theorem vok_of {d t : Nat} (h1 : 0 < d) (h2 : d ≤ 20) (h3 : 0 < t) (h4 : t ≤ 120) : vok (d * t) := ⟨Nat.mul_pos h1 h3, Nat.le_trans (Nat.mul_le_mul h2 h4) (by omega), st_all d (by omega) t (by omega) h1 h3⟩
theorem vok_PP {v : Nat} (h : vok v) : PP (ex v) 30 = v := by
  have := stA_PP v 30
  rw [h.2.2, Nat.one_mul] at this
  exact this
theorem PP_pos (e : Nat → Nat) : ∀ k, k ≤ 30 → 0 < PP e k
  | 0, _ => Nat.one_pos
  | k + 1, hk => Nat.mul_pos (PP_pos e k (by omega)) (Nat.pow_pos (by have := pr_b k (by omega); omega))
theorem PP_mul (a b : Nat → Nat) : ∀ k, PP (fun j => a j + b j) k = PP a k * PP b k
  | 0 => rfl
  | k + 1 => by
    show PP (fun j => a j + b j) k * pr k ^ (a k + b k) = PP a k * pr k ^ a k * (PP b k * pr k ^ b k)
    rw [PP_mul a b k, Nat.pow_add, Nat.mul_mul_mul_comm]
theorem PP_congr {a b : Nat → Nat} : ∀ {k : Nat}, (∀ j, j < k → a j = b j) → PP a k = PP b k
  | 0, _ => rfl
  | k + 1, h => by
    show PP a k * pr k ^ a k = PP b k * pr k ^ b k
    rw [PP_congr (k := k) (fun j hj => h j (by omega)), h k (by omega)]
theorem PP_le {a b : Nat → Nat} : ∀ {k : Nat}, k ≤ 30 → (∀ j, j < k → a j ≤ b j) → PP a k ≤ PP b k
  | 0, _, _ => Nat.le_refl 1
  | k + 1, hk, h => Nat.mul_le_mul (PP_le (by omega) (fun j hj => h j (by omega))) (Nat.pow_le_pow_right (by have := pr_b k (by omega); omega) (h k (by omega)))
theorem PP_up {e : Nat → Nat} {a b : Nat} (hab : a ≤ b) (hb : b ≤ 30) : PP e a ≤ PP e b := by
  obtain ⟨d, rfl⟩ : ∃ d, b = a + d := ⟨b - a, by omega⟩
  induction d with
  | zero => exact Nat.le_refl _
  | succ d ih =>
    refine Nat.le_trans (ih (by omega) (by omega)) ?_
    show PP e (a + d) ≤ PP e (a + d) * pr (a + d) ^ e (a + d)
    exact Nat.le_mul_of_pos_right _ (Nat.pow_pos (by have := pr_b (a + d) (by omega); omega))
def tgm (d : Nat → Nat) : Nat → Nat → Nat
  | 0, _ => 0
  | n + 1, j => max (tgm d n j) (ex (d n) j)
theorem tgm_ge {d : Nat → Nat} {j : Nat} : ∀ {n s : Nat}, s < n → ex (d s) j ≤ tgm d n j
  | 0, s, h => absurd h (Nat.not_lt_zero s)
  | n + 1, s, h => by
    show _ ≤ max (tgm d n j) (ex (d n) j)
    by_cases e : s = n
    · rw [e]; exact Nat.le_max_right _ _
    · exact Nat.le_trans (tgm_ge (show s < n by omega)) (Nat.le_max_left _ _)
theorem tgm_le (d : Nat → Nat) (j : Nat) : ∀ n, tgm d n j ≤ 12
  | 0 => Nat.zero_le _
  | n + 1 => Nat.max_le.mpr ⟨tgm_le d j n, ex_le _ _⟩
theorem tgm_b {d : Nat → Nat} : ∀ {n : Nat}, (∀ s, s < n → vok (d s)) → PP (tgm d n) 30 ≤ 2400 ^ n
  | 0, _ => by
    rw [PP_congr (b := fun j => ex 1 j) (fun j hj => ?_), vok_PP (vok_of (d := 1) (t := 1) (by omega) (by omega) (by omega) (by omega))]
    · exact Nat.le_refl _
    · revert j; show ∀ j, j < 30 → 0 = ex 1 j; decide +kernel
  | n + 1, h => by
    have ih := tgm_b (n := n) (fun s hs => h s (by omega))
    have h1 : PP (tgm d (n + 1)) 30 ≤ PP (fun j => tgm d n j + ex (d n) j) 30 := PP_le (Nat.le_refl _) (fun j hj => by show max _ _ ≤ _; omega)
    rw [PP_mul, vok_PP (h n (by omega))] at h1
    rw [Nat.pow_succ]
    exact Nat.le_trans h1 (Nat.mul_le_mul ih (h n (by omega)).2.1)
/-- what each value is raised by -/
def rsx (d : Nat → Nat) (n s : Nat) : Nat := PP (fun j => tgm d n j - ex (d s) j) 30
theorem rs_mul {d : Nat → Nat} {n s : Nat} (hs : s < n) (hv : vok (d s)) : rsx d n s * d s = PP (tgm d n) 30 := by
  unfold rsx
  have e := PP_mul (fun j => tgm d n j - ex (d s) j) (ex (d s)) 30
  rw [vok_PP hv] at e
  rw [← e]
  exact PP_congr (fun j hj => by have := tgm_ge (d := d) (j := j) hs; show _ - _ + _ = _; omega)
theorem rs_le {d : Nat → Nat} {n s : Nat} (hs : s < n) (hv : ∀ s, s < n → vok (d s)) : rsx d n s ≤ 2400 ^ n := by
  have h1 := rs_mul hs (hv s hs)
  have h2 := tgm_b hv
  have h3 : rsx d n s * 1 ≤ rsx d n s * d s := Nat.mul_le_mul_left _ (hv s hs).1
  omega
theorem half_lt {x q f : Nat} (hq : 2 ≤ q) (hx : x < 2 ^ (f + 1)) : x / q < 2 ^ f := by
  rw [Nat.pow_succ] at hx
  have h1 : x / q ≤ x / 2 := Nat.div_le_div_left hq (by omega)
  omega
theorem div_pos0 {x q : Nat} (hx : 0 < x) (h : x % q = 0) : 0 < x / q := by
  have := Nat.div_mul_cancel (Nat.dvd_of_mod_eq_zero h)
  exact Nat.pos_of_ne_zero (fun e => by rw [e, Nat.zero_mul] at this; omega)
set_option maxHeartbeats 4000000 in
set_option maxRecDepth 100000 in
/-- factor(v) -/
theorem r_factor (l : Launch) (D : va_G) (E : Nat → ClassId) (r0 : Nat) (σ : MS) (th so rn co : Int) (ow : Nat → Int) (v : Nat) (hv : vok v) : pw_M rvV l D E yX10_factor wsX10_factor ({ frames := 0, cells := 0, slots := 0, locals := 0 } : Room) [.ref (r0), .int (iI ((v : Int)))] (fun H => OA D r0 10 [.int (iI (th)), .int (iI ((mN σ : Int))), .ref (r0 + 1), .ref (r0 + 2), .ref (r0 + 3), .ref (r0 + 4), .int (iI ((mA σ : Int))), .int (iI ((mB σ : Int))), .int (iI (so)), .int (iI (rn)), .ref (r0 + 5), .ref (r0 + 6), .ref (r0 + 7), .ref (r0 + 8), .ref (r0 + 9), .ref (r0 + 10), .ref (r0 + 11), .ref (r0 + 12), .ref (r0 + 13), .int (iI (co))] H ∧ IA E (r0 + 11) 30 prm H ∧ IA E (r0 + 12) 30 ow H) (fun _ H => ∃ ow1 : Nat → Int, IA E (r0 + 12) 30 ow1 H ∧ ∀ j, j < 30 → ow1 j = (ex v j : Int)) (fun q => q = r0 + 12) (0) (0) := by
  refine pw_of (cc := cX10_factor) (maxL := 4) (ret := none) (by decide +kernel) rfl (Nat.le_of_ble_eq_true rfl) ?_
  intro p e s m args below meth c hx hb hr hml hts hown hlocks hini hK ⟨hO, hP, hOw⟩ ls hl
  have hown : s.vm.findClass RX10 = some m.cls := hown
  have hl : lv_has ls 4 [(0, .ref (r0)), (1, .int (iI ((v : Int))))] := hl
  have hS : va_S (fun q => q = r0 + 12) s.heap s.heap [] := va_S.rf
  have lk_47 := hts (.fieldLink RX10 47 "PolicyWorksModel" "primes" "[I") (by decide +kernel)
  have lk_50 := hts (.fieldLink RX10 50 "PolicyWorksModel" "own" "[I") (by decide +kernel)
  have hin10 : ∀ w ∈ wsX100, w ∈ wsX10_factor := by decide +kernel
  obtain ⟨v0, v1, v2⟩ := hv
  have loop : ∀ (kk k : Nat) (ow : Nat → Int) (H : Heap) (locs : List Loc) (ls : Array Slot), k + kk = 30 → (∀ j, j < k → ow j = (ex v j : Int)) → OA D r0 10 [.int (iI (th)), .int (iI ((mN σ : Int))), .ref (r0 + 1), .ref (r0 + 2), .ref (r0 + 3), .ref (r0 + 4), .int (iI ((mA σ : Int))), .int (iI ((mB σ : Int))), .int (iI (so)), .int (iI (rn)), .ref (r0 + 5), .ref (r0 + 6), .ref (r0 + 7), .ref (r0 + 8), .ref (r0 + 9), .ref (r0 + 10), .ref (r0 + 11), .ref (r0 + 12), .ref (r0 + 13), .int (iI (co))] H → IA E (r0 + 11) 30 prm H → IA E (r0 + 12) 30 ow H → va_S (fun q => q = r0 + 12) s.heap H locs → lv_has ls 4 [(0, .ref (r0)), (1, .int (iI ((v : Int)))), (2, .int (iI ((stA v k : Int)))), (3, .int (iI ((k : Int))))] → W p l e ({ frames := 0, cells := 0, slots := 0, locals := 0 } : Room) s m args below meth c H locs (0) (0) (MQ below (pw_Q rvV (fun _ H => ∃ ow1 : Nat → Int, IA E (r0 + 12) 30 ow1 H ∧ ∀ j, j < 30 → ow1 j = (ex v j : Int)) (fun q => q = r0 + 12)) args s (0) (0) (fun q => q = r0 + 12)) (F0 m 4 ls []) := by
    intro kk
    induction kk with
    | zero =>
      intro k ow H locs ls hk how hO hP hOw hS hl
      have ek : k = 30 := by omega
      subst ek
      refine lv_iload_n hx hb dX10_factor_4 rfl (lv_at hl 3 rfl) ?_
      refine pw_bipush hx hb dX10_factor_5 ?_
      refine pw_icmp_ge (tgt := 56) hx hb dX10_factor_7 (by decide) (fun c_7 => ?_) (fun c_7 => absurd c_7 (by omega))
      exact pw_vret hx hb hr hlocks hS ⟨ow, hOw, how⟩ dX10_factor_56
    | succ kk ih =>
      intro k ow H locs ls hk how hO hP hOw hS hl
      have hpr := pr_b k (by omega)
      have hpe := prm_pr k (by omega)
      have hst := stA_le v v0 k
      have loop2 : ∀ (fu x n : Nat) (ow : Nat → Int) (H : Heap) (locs : List Loc) (ls : Array Slot), 0 < x → x ≤ 2400 → x < 2 ^ fu → st1 (pr k) fu x = stA v (k + 1) → cn1 (pr k) fu x + n = ex v k → (∀ j, j < k → ow j = (ex v j : Int)) → ow k = (n : Int) → OA D r0 10 [.int (iI (th)), .int (iI ((mN σ : Int))), .ref (r0 + 1), .ref (r0 + 2), .ref (r0 + 3), .ref (r0 + 4), .int (iI ((mA σ : Int))), .int (iI ((mB σ : Int))), .int (iI (so)), .int (iI (rn)), .ref (r0 + 5), .ref (r0 + 6), .ref (r0 + 7), .ref (r0 + 8), .ref (r0 + 9), .ref (r0 + 10), .ref (r0 + 11), .ref (r0 + 12), .ref (r0 + 13), .int (iI (co))] H → IA E (r0 + 11) 30 prm H → IA E (r0 + 12) 30 ow H → va_S (fun q => q = r0 + 12) s.heap H locs → lv_has ls 4 [(0, .ref (r0)), (1, .int (iI ((v : Int)))), (2, .int (iI ((x : Int)))), (3, .int (iI ((k : Int))))] → W p l e ({ frames := 0, cells := 0, slots := 0, locals := 0 } : Room) s m args below meth c H locs (0) (0) (MQ below (pw_Q rvV (fun _ H => ∃ ow1 : Nat → Int, IA E (r0 + 12) 30 ow1 H ∧ ∀ j, j < 30 → ow1 j = (ex v j : Int)) (fun q => q = r0 + 12)) args s (0) (0) (fun q => q = r0 + 12)) (F0 m 17 ls []) := by
        intro fu
        induction fu with
        | zero =>
          intro x n ow H locs ls hx0 hx1 hxf
          exact absurd hxf (by rw [Nat.pow_zero]; omega)
        | succ fu ih2 =>
          intro x n ow H locs ls hx0 hx1 hxf hs1 hc1 how hown1 hO hP hOw hS hl
          have hex := ex_le v k
          have hmlt : x % pr k ≤ x := Nat.mod_le _ _
          refine lv_iload_n hx hb dX10_factor_17 rfl (lv_at hl 2 rfl) ?_
          refine lv_aload_n hx hb dX10_factor_18 rfl (lv_at hl 0 rfl) ?_
          refine pw_get (C := RX10) (T := TX10) (N := 20) hx hb hts hin10 hown hK hO rfl 16 (by decide) lk_47 rfl rfl dX10_factor_19 ?_
          refine lv_iload_n hx hb dX10_factor_22 rfl (lv_at hl 3 rfl) ?_
          refine pw_iald hx hb hK hP (k) rfl (by omega) (by omega) dX10_factor_23 ?_
          refine pw_asi ((pr k : Int)) hpe ?_
          refine pw_irem hx hb dX10_factor_24 (by omega) ?_
          refine pw_asi (((x % pr k : Nat) : Int)) rfl ?_
          refine pw_if_ne (tgt := 50) hx hb dX10_factor_25 (by decide) (fun c_25 => ?_) (fun c_25 => ?_)
          · have hxm : ¬ x % pr k = 0 := fun h => by omega
            rw [st1_n hxm] at hs1
            rw [cn1_n hxm] at hc1
            refine lv_iinc (v := iI (((k + 1 : Nat) : Int))) (lv' := [(3, .int (iI (((k + 1 : Nat) : Int)))), (0, .ref (r0)), (1, .int (iI ((v : Int)))), (2, .int (iI ((x : Int))))]) hx hb dX10_factor_50 hl (k := 3) rfl (by show iI _ + iI _ = _; exact (iI_add _ _).trans (by first | rfl | (congr 1; omega))) (by decide) rfl (fun ls hl => ?_)
            refine lv_goto (tgt := 4) hx hb dX10_factor_53 (by decide) ?_
            rw [hs1] at hl
            exact ih (k + 1) _ _ _ _ (by omega) (fun j hj => by
              by_cases e : j = k
              · rw [e, hown1]; omega
              · exact how j (by omega)) hO hP hOw hS (lv_sub hl [1, 2, 3, 0] rfl)
          · have hxm : x % pr k = 0 := by omega
            rw [st1_y hxm] at hs1
            rw [cn1_y hxm] at hc1
            have hdl : x / pr k ≤ x := Nat.div_le_self _ _
            refine lv_iload_n hx hb dX10_factor_28 rfl (lv_at hl 2 rfl) ?_
            refine lv_aload_n hx hb dX10_factor_29 rfl (lv_at hl 0 rfl) ?_
            refine pw_get (C := RX10) (T := TX10) (N := 20) hx hb hts hin10 hown hK hO rfl 16 (by decide) lk_47 rfl rfl dX10_factor_30 ?_
            refine lv_iload_n hx hb dX10_factor_33 rfl (lv_at hl 3 rfl) ?_
            refine pw_iald hx hb hK hP (k) rfl (by omega) (by omega) dX10_factor_34 ?_
            refine pw_asi ((pr k : Int)) hpe ?_
            refine pw_idiv hx hb dX10_factor_35 (by omega) ?_
            refine pw_asi (((x / pr k : Nat) : Int)) rfl ?_
            refine lv_istore_n (lv' := [(2, .int (iI (((x / pr k : Nat) : Int)))), (0, .ref (r0)), (1, .int (iI ((v : Int)))), (3, .int (iI ((k : Int))))]) hx hb dX10_factor_36 rfl hl (by decide) rfl (fun ls hl => ?_)
            refine lv_aload_n hx hb dX10_factor_37 rfl (lv_at hl 1 rfl) ?_
            refine pw_get (C := RX10) (T := TX10) (N := 20) hx hb hts hin10 hown hK hO rfl 17 (by decide) lk_50 rfl rfl dX10_factor_38 ?_
            refine lv_iload_n hx hb dX10_factor_41 rfl (lv_at hl 3 rfl) ?_
            refine lv_dup2_11 hx hb dX10_factor_42 rfl rfl ?_
            refine pw_iald hx hb hK hOw (k) rfl (by omega) (by omega) dX10_factor_43 ?_
            refine pw_asi ((n : Int)) hown1 ?_
            refine pw_iconst hx hb dX10_factor_44 ?_
            refine pw_iadd hx hb dX10_factor_45 ?_
            refine pw_asi (((n + 1 : Nat) : Int)) (by omega) ?_
            refine pw_iast hx hb hK hOw hS rfl (k) rfl (by omega) (by omega) dX10_factor_46 (fun H1 locs1 hnew hz1 oq hS => ?_)
            have hO := hO.k (oq _ (by omega))
            have hP := hP.k (oq _ (by omega))
            have hOw := hnew
            clear hnew oq hz1
            refine lv_goto (tgt := 17) hx hb dX10_factor_47 (by decide) ?_
            exact ih2 (x / pr k) (n + 1) _ _ _ _ (div_pos0 hx0 hxm) (by omega) (half_lt hpr.1 hxf) hs1 (by omega) (fun j hj => by
              unfold ud
              rw [if_neg (by omega)]
              exact how j hj) (by unfold ud; rw [if_pos rfl]) hO hP hOw hS (lv_sub hl [1, 2, 0, 3] rfl)
      refine lv_iload_n hx hb dX10_factor_4 rfl (lv_at hl 3 rfl) ?_
      refine pw_bipush hx hb dX10_factor_5 ?_
      refine pw_icmp_ge (tgt := 56) hx hb dX10_factor_7 (by decide) (fun c_7 => absurd c_7 (by omega)) (fun c_7 => ?_)
      refine lv_aload_n hx hb dX10_factor_10 rfl (lv_at hl 0 rfl) ?_
      refine pw_get (C := RX10) (T := TX10) (N := 20) hx hb hts hin10 hown hK hO rfl 17 (by decide) lk_50 rfl rfl dX10_factor_11 ?_
      refine lv_iload_n hx hb dX10_factor_14 rfl (lv_at hl 3 rfl) ?_
      refine pw_iconst hx hb dX10_factor_15 ?_
      refine pw_iast hx hb hK hOw hS rfl (k) rfl (by omega) (by omega) dX10_factor_16 (fun H1 locs1 hnew hz1 oq hS => ?_)
      have hO := hO.k (oq _ (by omega))
      have hP := hP.k (oq _ (by omega))
      have hOw := hnew
      clear hnew oq hz1
      exact loop2 12 (stA v k) 0 _ _ _ _ hst.1 (by omega) (by omega) rfl (by unfold ex; omega) (fun j hj => by
        unfold ud
        rw [if_neg (by omega)]
        exact how j hj) (by unfold ud; rw [if_pos rfl]; rfl) hO hP hOw hS (lv_sub hl [0, 1, 2, 3] rfl)
  refine lv_iload_n hx hb dX10_factor_0 rfl (lv_at hl 1 rfl) ?_
  refine lv_istore_n (lv' := [(2, .int (iI ((v : Int)))), (0, .ref (r0)), (1, .int (iI ((v : Int))))]) hx hb dX10_factor_1 rfl hl (by decide) rfl (fun ls hl => ?_)
  refine pw_iconst hx hb dX10_factor_2 ?_
  refine pw_asi (((0 : Nat) : Int)) rfl ?_
  refine lv_istore_n (lv' := [(3, .int (iI (((0 : Nat) : Int)))), (2, .int (iI ((v : Int)))), (0, .ref (r0)), (1, .int (iI ((v : Int))))]) hx hb dX10_factor_3 rfl hl (by decide) rfl (fun ls hl => ?_)
  exact loop 30 0 ow _ _ _ (by omega) (fun j hj => by omega) hO hP hOw hS (lv_sub hl [2, 3, 1, 0] rfl)
set_option maxHeartbeats 4000000 in
set_option maxRecDepth 100000 in
/-- raise(a, q, n) -/
theorem r_raise (l : Launch) (D : va_G) (E : Nat → ClassId) (r0 : Nat) (o vs0 : Nat → Int) (a q n : Nat) (ha : a < 80) (hq1 : 1 ≤ q) (hq2 : q ≤ 113) (hn12 : n ≤ 1000) (hbn : (vs0 a).natAbs * q ^ n < 268435456 ^ 64) : pw_M rvV l D E yX10_raise wsX10_raise ({ frames := 2, cells := 0, slots := 0, locals := 53 } : Room) [.ref (r0), .int (iI ((a : Int))), .int (iI ((q : Int))), .int (iI ((n : Int)))] (fun H => RO D r0 o H ∧ BN E r0 vs0 H) (fun _ H => ∃ vs, BN E r0 vs H ∧ vs a = vs0 a * ((q ^ n : Nat) : Int) ∧ ∀ c, c ≠ a → vs c = vs0 c) (fun q => q = r0 + 8 ∨ q = r0 + 9 ∨ q = r0 + 10) (0) (0) := by
  refine pw_of (cc := cX10_raise) (maxL := 5) (ret := none) (by decide +kernel) rfl (Nat.le_of_ble_eq_true rfl) ?_
  intro p e s m args below meth c hx hb hr hml hts hown hlocks hini hK ⟨hO, f, g, h, ⟨hf, hg, hh⟩, hN⟩ ls hl
  have hown : s.vm.findClass RX10 = some m.cls := hown
  have hl : lv_has ls 5 [(0, .ref (r0)), (1, .int (iI ((a : Int)))), (2, .int (iI ((q : Int)))), (3, .int (iI ((n : Int))))] := hl
  have hS : va_S (fun q => q = r0 + 8 ∨ q = r0 + 9 ∨ q = r0 + 10) s.heap s.heap [] := va_S.rf
  have loop : ∀ (kk k : Nat) (vs f g h : Nat → Int) (H : Heap) (locs : List Loc) (ls : Array Slot), k + kk = n → vs (a) = vs0 a * ((q ^ k : Nat) : Int) → (∀ c, c ≠ a → vs (c) = vs0 c) → RO D r0 o H → IA E (r0 + 8) 5120 f H → IA E (r0 + 9) 80 g H → IA E (r0 + 10) 80 h H → (∀ c, c < 80 → Num f g h c (vs c)) → va_S (fun q => q = r0 + 8 ∨ q = r0 + 9 ∨ q = r0 + 10) s.heap H locs → lv_has ls 5 [(0, .ref (r0)), (1, .int (iI ((a : Int)))), (2, .int (iI ((q : Int)))), (3, .int (iI ((n : Int)))), (4, .int (iI ((k : Int))))] → W p l e ({ frames := 2, cells := 0, slots := 0, locals := 53 } : Room) s m args below meth c H locs (0) (0) (MQ below (pw_Q rvV (fun _ H => ∃ vs, BN E r0 vs H ∧ vs a = vs0 a * ((q ^ n : Nat) : Int) ∧ ∀ c, c ≠ a → vs c = vs0 c) (fun q => q = r0 + 8 ∨ q = r0 + 9 ∨ q = r0 + 10)) args s (0) (0) (fun q => q = r0 + 8 ∨ q = r0 + 9 ∨ q = r0 + 10)) (F0 m 3 ls []) := by
    intro kk
    induction kk with
    | zero =>
      intro k vs f g h H locs ls hk hva hvc hO hf hg hh hN hS hl
      have ek : k = n := by omega
      subst ek
      refine lv_iload hx hb dX10_raise_3 (lv_at hl 4 rfl) ?_
      refine lv_iload_n hx hb dX10_raise_5 rfl (lv_at hl 3 rfl) ?_
      refine pw_icmp_ge (tgt := 21) hx hb dX10_raise_6 (by decide) (fun c_6 => ?_) (fun c_6 => absurd c_6 (by omega))
      exact pw_vret hx hb hr hlocks hS ⟨vs, ⟨f, g, h, ⟨hf, hg, hh⟩, hN⟩, hva, hvc⟩ dX10_raise_21
    | succ kk ih =>
      intro k vs f g h H locs ls hk hva hvc hO hf hg hh hN hS hl
      have hpw : q ^ (k + 1) ≤ q ^ n := Nat.pow_le_pow_right hq1 (by omega)
      have e1 : vs0 a * ((q ^ k : Nat) : Int) * (q : Int) = vs0 a * ((q ^ (k + 1) : Nat) : Int) := by rw [Int.mul_assoc, ← Int.natCast_mul, ← Nat.pow_succ]
      have e2 : (vs0 a * ((q ^ k : Nat) : Int) * (q : Int)).natAbs < 268435456 ^ 64 := by
        rw [e1, Int.natAbs_mul, Int.natAbs_natCast]
        exact Nat.lt_of_le_of_lt (Nat.mul_le_mul_left _ hpw) hbn
      refine lv_iload hx hb dX10_raise_3 (lv_at hl 4 rfl) ?_
      refine lv_iload_n hx hb dX10_raise_5 rfl (lv_at hl 3 rfl) ?_
      refine pw_icmp_ge (tgt := 21) hx hb dX10_raise_6 (by decide) (fun c_6 => absurd c_6 (by omega)) (fun c_6 => ?_)
      refine lv_aload_n hx hb dX10_raise_9 rfl (lv_at hl 0 rfl) ?_
      refine lv_iload_n hx hb dX10_raise_10 rfl (lv_at hl 1 rfl) ?_
      refine lv_iload_n hx hb dX10_raise_11 rfl (lv_at hl 2 rfl) ?_
      refine pw_callVv (As := [.int (iI ((a : Int))), .int (iI ((q : Int)))]) (rest := []) ⟨hx, hb, hml, hown, hts⟩ (r_times l D E r0 o f g h a (vs0 a * ((q ^ k : Nat) : Int)) (q : Int) (by omega) (by omega) (by omega) (num_at (hN (a) (by omega)) hva) e2) (cwV 2 hts gX10_raise_X10_times rfl rfl rfl (by decide +kernel) ⟨Nat.le_of_ble_eq_true rfl, Nat.le_of_ble_eq_true rfl⟩) hK hO rfl ⟨hO, hf, hg, hh⟩ rfl hl.1 rfl (Nat.le_of_ble_eq_true rfl) dX10_raise_12 ⟨Nat.zero_le _, Nat.zero_le _⟩ hS (fun q h => h) (fun H1 locs1 ⟨f, g, h, ⟨hf, hg, hh⟩, hn1, ho1⟩ hz1 hk1 hS => ?_)
      have hO := hO.k (hk1 _ hO.lt (by (try dsimp only); omega))
      obtain ⟨vs, hva0, hvo, hN⟩ := bn_np hN hn1 ho1
      clear hn1 ho1
      have hvc : ∀ c, c ≠ a → vs (c) = vs0 c := fun c hq => (hvo _ (by omega)).trans (hvc c hq)
      have hva : vs (a) = vs0 a * ((q ^ (k + 1) : Nat) : Int) := (hva0.trans e1)
      clear hva0 hvo
      refine lv_iinc (v := iI (((k + 1 : Nat) : Int))) (lv' := [(4, .int (iI (((k + 1 : Nat) : Int)))), (0, .ref (r0)), (1, .int (iI ((a : Int)))), (2, .int (iI ((q : Int)))), (3, .int (iI ((n : Int))))]) hx hb dX10_raise_15 hl (k := 4) rfl (by show iI _ + iI _ = _; exact (iI_add _ _).trans (by first | rfl | (congr 1; omega))) (by decide) rfl (fun ls hl => ?_)
      refine lv_goto (tgt := 3) hx hb dX10_raise_18 (by decide) ?_
      exact ih (k + 1) vs f g h _ _ _ (by omega) hva hvc hO hf hg hh hN hS (lv_sub hl [1, 2, 3, 4, 0] rfl)
  refine pw_iconst hx hb dX10_raise_0 ?_
  refine pw_asi (((0 : Nat) : Int)) rfl ?_
  refine lv_istore (lv' := [(4, .int (iI (((0 : Nat) : Int)))), (0, .ref (r0)), (1, .int (iI ((a : Int)))), (2, .int (iI ((q : Int)))), (3, .int (iI ((n : Int))))]) hx hb dX10_raise_1 hl (by decide) rfl (fun ls hl => ?_)
  exact loop n 0 vs0 f g h _ _ _ (by omega) (by rw [Nat.pow_zero]; exact (Int.mul_one _).symm) (fun _ _ => rfl) hO hf hg hh hN hS (lv_sub hl [1, 2, 3, 4, 0] rfl)
