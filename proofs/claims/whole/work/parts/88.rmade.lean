/-! the reference: its constructor -/
set_option maxHeartbeats 4000000 in
set_option maxRecDepth 100000 in
/-- its thirty primes -/
theorem r_primes {l : Launch} {D : va_G} {E : Nat → ClassId} {r0 : Nat} {p : Program} {e : Env} {R : Room} {s : State} {m : MethodId} {args : Array Value} {below : List Frame} {meth : Method} {c : Code} {H : Heap} {locs : List Loc} {cells slots : Nat} {Q : State → Prop} {ls : Array Slot} {rest : List Value} {A : Nat → Prop} {H0 : Heap} (hx : p.tables.exec = Jvm.exec) (hb : c.code = cX10_init) (hK : KK D E s) (hP : IA E (r0 + 11) 30 (fun _ => 0) H) (hS : va_S A H0 H locs) (hA : A (r0 + 11)) (kk : ∀ (H1 : Heap) (locs1 : List Loc), IA E (r0 + 11) 30 prm H1 → H1.size = H.size → (∀ q : Nat, q ≠ r0 + 11 → H1[q]? = H[q]?) → va_S A H0 H1 locs1 → W p l e R s m args below meth c H1 locs1 cells slots Q (F0 m 272 ls (.ref (r0 + 11) :: rest))) : W p l e R s m args below meth c H locs cells slots Q (F0 m 101 ls (.ref (r0 + 11) :: rest)) := by
  have hz : H.size = H.size := rfl
  have oq : ∀ q : Nat, q ≠ r0 + 11 → H[q]? = H[q]? := fun _ _ => rfl
  refine lv_dup hx hb dX10_init_101 rfl ?_
  refine pw_iconst hx hb dX10_init_102 ?_
  refine pw_iconst hx hb dX10_init_103 ?_
  refine pw_iast hx hb hK hP hS hA (0) rfl (by omega) (by omega) dX10_init_104 (fun H1 locs1 hP1 hz1 oq1 hS1 => ?_)
  replace hP := hP1
  replace hS := hS1
  replace hz := hz1.trans hz
  replace oq := fun (q : Nat) (hq : q ≠ r0 + 11) => (oq1 q hq).trans (oq q hq)
  clear hP1 hS1 hz1 oq1
  refine lv_dup hx hb dX10_init_105 rfl ?_
  refine pw_iconst hx hb dX10_init_106 ?_
  refine pw_iconst hx hb dX10_init_107 ?_
  refine pw_iast hx hb hK hP hS hA (1) rfl (by omega) (by omega) dX10_init_108 (fun H1 locs1 hP1 hz1 oq1 hS1 => ?_)
  replace hP := hP1
  replace hS := hS1
  replace hz := hz1.trans hz
  replace oq := fun (q : Nat) (hq : q ≠ r0 + 11) => (oq1 q hq).trans (oq q hq)
  clear hP1 hS1 hz1 oq1
  refine lv_dup hx hb dX10_init_109 rfl ?_
  refine pw_iconst hx hb dX10_init_110 ?_
  refine pw_iconst hx hb dX10_init_111 ?_
  refine pw_iast hx hb hK hP hS hA (2) rfl (by omega) (by omega) dX10_init_112 (fun H1 locs1 hP1 hz1 oq1 hS1 => ?_)
  replace hP := hP1
  replace hS := hS1
  replace hz := hz1.trans hz
  replace oq := fun (q : Nat) (hq : q ≠ r0 + 11) => (oq1 q hq).trans (oq q hq)
  clear hP1 hS1 hz1 oq1
  refine lv_dup hx hb dX10_init_113 rfl ?_
  refine pw_iconst hx hb dX10_init_114 ?_
  refine pw_bipush hx hb dX10_init_115 ?_
  refine pw_iast hx hb hK hP hS hA (3) rfl (by omega) (by omega) dX10_init_117 (fun H1 locs1 hP1 hz1 oq1 hS1 => ?_)
  replace hP := hP1
  replace hS := hS1
  replace hz := hz1.trans hz
  replace oq := fun (q : Nat) (hq : q ≠ r0 + 11) => (oq1 q hq).trans (oq q hq)
  clear hP1 hS1 hz1 oq1
  refine lv_dup hx hb dX10_init_118 rfl ?_
  refine pw_iconst hx hb dX10_init_119 ?_
  refine pw_bipush hx hb dX10_init_120 ?_
  refine pw_iast hx hb hK hP hS hA (4) rfl (by omega) (by omega) dX10_init_122 (fun H1 locs1 hP1 hz1 oq1 hS1 => ?_)
  replace hP := hP1
  replace hS := hS1
  replace hz := hz1.trans hz
  replace oq := fun (q : Nat) (hq : q ≠ r0 + 11) => (oq1 q hq).trans (oq q hq)
  clear hP1 hS1 hz1 oq1
  refine lv_dup hx hb dX10_init_123 rfl ?_
  refine pw_iconst hx hb dX10_init_124 ?_
  refine pw_bipush hx hb dX10_init_125 ?_
  refine pw_iast hx hb hK hP hS hA (5) rfl (by omega) (by omega) dX10_init_127 (fun H1 locs1 hP1 hz1 oq1 hS1 => ?_)
  replace hP := hP1
  replace hS := hS1
  replace hz := hz1.trans hz
  replace oq := fun (q : Nat) (hq : q ≠ r0 + 11) => (oq1 q hq).trans (oq q hq)
  clear hP1 hS1 hz1 oq1
  refine lv_dup hx hb dX10_init_128 rfl ?_
  refine pw_bipush hx hb dX10_init_129 ?_
  refine pw_bipush hx hb dX10_init_131 ?_
  refine pw_iast hx hb hK hP hS hA (6) rfl (by omega) (by omega) dX10_init_133 (fun H1 locs1 hP1 hz1 oq1 hS1 => ?_)
  replace hP := hP1
  replace hS := hS1
  replace hz := hz1.trans hz
  replace oq := fun (q : Nat) (hq : q ≠ r0 + 11) => (oq1 q hq).trans (oq q hq)
  clear hP1 hS1 hz1 oq1
  refine lv_dup hx hb dX10_init_134 rfl ?_
  refine pw_bipush hx hb dX10_init_135 ?_
  refine pw_bipush hx hb dX10_init_137 ?_
  refine pw_iast hx hb hK hP hS hA (7) rfl (by omega) (by omega) dX10_init_139 (fun H1 locs1 hP1 hz1 oq1 hS1 => ?_)
  replace hP := hP1
  replace hS := hS1
  replace hz := hz1.trans hz
  replace oq := fun (q : Nat) (hq : q ≠ r0 + 11) => (oq1 q hq).trans (oq q hq)
  clear hP1 hS1 hz1 oq1
  refine lv_dup hx hb dX10_init_140 rfl ?_
  refine pw_bipush hx hb dX10_init_141 ?_
  refine pw_bipush hx hb dX10_init_143 ?_
  refine pw_iast hx hb hK hP hS hA (8) rfl (by omega) (by omega) dX10_init_145 (fun H1 locs1 hP1 hz1 oq1 hS1 => ?_)
  replace hP := hP1
  replace hS := hS1
  replace hz := hz1.trans hz
  replace oq := fun (q : Nat) (hq : q ≠ r0 + 11) => (oq1 q hq).trans (oq q hq)
  clear hP1 hS1 hz1 oq1
  refine lv_dup hx hb dX10_init_146 rfl ?_
  refine pw_bipush hx hb dX10_init_147 ?_
  refine pw_bipush hx hb dX10_init_149 ?_
  refine pw_iast hx hb hK hP hS hA (9) rfl (by omega) (by omega) dX10_init_151 (fun H1 locs1 hP1 hz1 oq1 hS1 => ?_)
  replace hP := hP1
  replace hS := hS1
  replace hz := hz1.trans hz
  replace oq := fun (q : Nat) (hq : q ≠ r0 + 11) => (oq1 q hq).trans (oq q hq)
  clear hP1 hS1 hz1 oq1
  refine lv_dup hx hb dX10_init_152 rfl ?_
  refine pw_bipush hx hb dX10_init_153 ?_
  refine pw_bipush hx hb dX10_init_155 ?_
  refine pw_iast hx hb hK hP hS hA (10) rfl (by omega) (by omega) dX10_init_157 (fun H1 locs1 hP1 hz1 oq1 hS1 => ?_)
  replace hP := hP1
  replace hS := hS1
  replace hz := hz1.trans hz
  replace oq := fun (q : Nat) (hq : q ≠ r0 + 11) => (oq1 q hq).trans (oq q hq)
  clear hP1 hS1 hz1 oq1
  refine lv_dup hx hb dX10_init_158 rfl ?_
  refine pw_bipush hx hb dX10_init_159 ?_
  refine pw_bipush hx hb dX10_init_161 ?_
  refine pw_iast hx hb hK hP hS hA (11) rfl (by omega) (by omega) dX10_init_163 (fun H1 locs1 hP1 hz1 oq1 hS1 => ?_)
  replace hP := hP1
  replace hS := hS1
  replace hz := hz1.trans hz
  replace oq := fun (q : Nat) (hq : q ≠ r0 + 11) => (oq1 q hq).trans (oq q hq)
  clear hP1 hS1 hz1 oq1
  refine lv_dup hx hb dX10_init_164 rfl ?_
  refine pw_bipush hx hb dX10_init_165 ?_
  refine pw_bipush hx hb dX10_init_167 ?_
  refine pw_iast hx hb hK hP hS hA (12) rfl (by omega) (by omega) dX10_init_169 (fun H1 locs1 hP1 hz1 oq1 hS1 => ?_)
  replace hP := hP1
  replace hS := hS1
  replace hz := hz1.trans hz
  replace oq := fun (q : Nat) (hq : q ≠ r0 + 11) => (oq1 q hq).trans (oq q hq)
  clear hP1 hS1 hz1 oq1
  refine lv_dup hx hb dX10_init_170 rfl ?_
  refine pw_bipush hx hb dX10_init_171 ?_
  refine pw_bipush hx hb dX10_init_173 ?_
  refine pw_iast hx hb hK hP hS hA (13) rfl (by omega) (by omega) dX10_init_175 (fun H1 locs1 hP1 hz1 oq1 hS1 => ?_)
  replace hP := hP1
  replace hS := hS1
  replace hz := hz1.trans hz
  replace oq := fun (q : Nat) (hq : q ≠ r0 + 11) => (oq1 q hq).trans (oq q hq)
  clear hP1 hS1 hz1 oq1
  refine lv_dup hx hb dX10_init_176 rfl ?_
  refine pw_bipush hx hb dX10_init_177 ?_
  refine pw_bipush hx hb dX10_init_179 ?_
  refine pw_iast hx hb hK hP hS hA (14) rfl (by omega) (by omega) dX10_init_181 (fun H1 locs1 hP1 hz1 oq1 hS1 => ?_)
  replace hP := hP1
  replace hS := hS1
  replace hz := hz1.trans hz
  replace oq := fun (q : Nat) (hq : q ≠ r0 + 11) => (oq1 q hq).trans (oq q hq)
  clear hP1 hS1 hz1 oq1
  refine lv_dup hx hb dX10_init_182 rfl ?_
  refine pw_bipush hx hb dX10_init_183 ?_
  refine pw_bipush hx hb dX10_init_185 ?_
  refine pw_iast hx hb hK hP hS hA (15) rfl (by omega) (by omega) dX10_init_187 (fun H1 locs1 hP1 hz1 oq1 hS1 => ?_)
  replace hP := hP1
  replace hS := hS1
  replace hz := hz1.trans hz
  replace oq := fun (q : Nat) (hq : q ≠ r0 + 11) => (oq1 q hq).trans (oq q hq)
  clear hP1 hS1 hz1 oq1
  refine lv_dup hx hb dX10_init_188 rfl ?_
  refine pw_bipush hx hb dX10_init_189 ?_
  refine pw_bipush hx hb dX10_init_191 ?_
  refine pw_iast hx hb hK hP hS hA (16) rfl (by omega) (by omega) dX10_init_193 (fun H1 locs1 hP1 hz1 oq1 hS1 => ?_)
  replace hP := hP1
  replace hS := hS1
  replace hz := hz1.trans hz
  replace oq := fun (q : Nat) (hq : q ≠ r0 + 11) => (oq1 q hq).trans (oq q hq)
  clear hP1 hS1 hz1 oq1
  refine lv_dup hx hb dX10_init_194 rfl ?_
  refine pw_bipush hx hb dX10_init_195 ?_
  refine pw_bipush hx hb dX10_init_197 ?_
  refine pw_iast hx hb hK hP hS hA (17) rfl (by omega) (by omega) dX10_init_199 (fun H1 locs1 hP1 hz1 oq1 hS1 => ?_)
  replace hP := hP1
  replace hS := hS1
  replace hz := hz1.trans hz
  replace oq := fun (q : Nat) (hq : q ≠ r0 + 11) => (oq1 q hq).trans (oq q hq)
  clear hP1 hS1 hz1 oq1
  refine lv_dup hx hb dX10_init_200 rfl ?_
  refine pw_bipush hx hb dX10_init_201 ?_
  refine pw_bipush hx hb dX10_init_203 ?_
  refine pw_iast hx hb hK hP hS hA (18) rfl (by omega) (by omega) dX10_init_205 (fun H1 locs1 hP1 hz1 oq1 hS1 => ?_)
  replace hP := hP1
  replace hS := hS1
  replace hz := hz1.trans hz
  replace oq := fun (q : Nat) (hq : q ≠ r0 + 11) => (oq1 q hq).trans (oq q hq)
  clear hP1 hS1 hz1 oq1
  refine lv_dup hx hb dX10_init_206 rfl ?_
  refine pw_bipush hx hb dX10_init_207 ?_
  refine pw_bipush hx hb dX10_init_209 ?_
  refine pw_iast hx hb hK hP hS hA (19) rfl (by omega) (by omega) dX10_init_211 (fun H1 locs1 hP1 hz1 oq1 hS1 => ?_)
  replace hP := hP1
  replace hS := hS1
  replace hz := hz1.trans hz
  replace oq := fun (q : Nat) (hq : q ≠ r0 + 11) => (oq1 q hq).trans (oq q hq)
  clear hP1 hS1 hz1 oq1
  refine lv_dup hx hb dX10_init_212 rfl ?_
  refine pw_bipush hx hb dX10_init_213 ?_
  refine pw_bipush hx hb dX10_init_215 ?_
  refine pw_iast hx hb hK hP hS hA (20) rfl (by omega) (by omega) dX10_init_217 (fun H1 locs1 hP1 hz1 oq1 hS1 => ?_)
  replace hP := hP1
  replace hS := hS1
  replace hz := hz1.trans hz
  replace oq := fun (q : Nat) (hq : q ≠ r0 + 11) => (oq1 q hq).trans (oq q hq)
  clear hP1 hS1 hz1 oq1
  refine lv_dup hx hb dX10_init_218 rfl ?_
  refine pw_bipush hx hb dX10_init_219 ?_
  refine pw_bipush hx hb dX10_init_221 ?_
  refine pw_iast hx hb hK hP hS hA (21) rfl (by omega) (by omega) dX10_init_223 (fun H1 locs1 hP1 hz1 oq1 hS1 => ?_)
  replace hP := hP1
  replace hS := hS1
  replace hz := hz1.trans hz
  replace oq := fun (q : Nat) (hq : q ≠ r0 + 11) => (oq1 q hq).trans (oq q hq)
  clear hP1 hS1 hz1 oq1
  refine lv_dup hx hb dX10_init_224 rfl ?_
  refine pw_bipush hx hb dX10_init_225 ?_
  refine pw_bipush hx hb dX10_init_227 ?_
  refine pw_iast hx hb hK hP hS hA (22) rfl (by omega) (by omega) dX10_init_229 (fun H1 locs1 hP1 hz1 oq1 hS1 => ?_)
  replace hP := hP1
  replace hS := hS1
  replace hz := hz1.trans hz
  replace oq := fun (q : Nat) (hq : q ≠ r0 + 11) => (oq1 q hq).trans (oq q hq)
  clear hP1 hS1 hz1 oq1
  refine lv_dup hx hb dX10_init_230 rfl ?_
  refine pw_bipush hx hb dX10_init_231 ?_
  refine pw_bipush hx hb dX10_init_233 ?_
  refine pw_iast hx hb hK hP hS hA (23) rfl (by omega) (by omega) dX10_init_235 (fun H1 locs1 hP1 hz1 oq1 hS1 => ?_)
  replace hP := hP1
  replace hS := hS1
  replace hz := hz1.trans hz
  replace oq := fun (q : Nat) (hq : q ≠ r0 + 11) => (oq1 q hq).trans (oq q hq)
  clear hP1 hS1 hz1 oq1
  refine lv_dup hx hb dX10_init_236 rfl ?_
  refine pw_bipush hx hb dX10_init_237 ?_
  refine pw_bipush hx hb dX10_init_239 ?_
  refine pw_iast hx hb hK hP hS hA (24) rfl (by omega) (by omega) dX10_init_241 (fun H1 locs1 hP1 hz1 oq1 hS1 => ?_)
  replace hP := hP1
  replace hS := hS1
  replace hz := hz1.trans hz
  replace oq := fun (q : Nat) (hq : q ≠ r0 + 11) => (oq1 q hq).trans (oq q hq)
  clear hP1 hS1 hz1 oq1
  refine lv_dup hx hb dX10_init_242 rfl ?_
  refine pw_bipush hx hb dX10_init_243 ?_
  refine pw_bipush hx hb dX10_init_245 ?_
  refine pw_iast hx hb hK hP hS hA (25) rfl (by omega) (by omega) dX10_init_247 (fun H1 locs1 hP1 hz1 oq1 hS1 => ?_)
  replace hP := hP1
  replace hS := hS1
  replace hz := hz1.trans hz
  replace oq := fun (q : Nat) (hq : q ≠ r0 + 11) => (oq1 q hq).trans (oq q hq)
  clear hP1 hS1 hz1 oq1
  refine lv_dup hx hb dX10_init_248 rfl ?_
  refine pw_bipush hx hb dX10_init_249 ?_
  refine pw_bipush hx hb dX10_init_251 ?_
  refine pw_iast hx hb hK hP hS hA (26) rfl (by omega) (by omega) dX10_init_253 (fun H1 locs1 hP1 hz1 oq1 hS1 => ?_)
  replace hP := hP1
  replace hS := hS1
  replace hz := hz1.trans hz
  replace oq := fun (q : Nat) (hq : q ≠ r0 + 11) => (oq1 q hq).trans (oq q hq)
  clear hP1 hS1 hz1 oq1
  refine lv_dup hx hb dX10_init_254 rfl ?_
  refine pw_bipush hx hb dX10_init_255 ?_
  refine pw_bipush hx hb dX10_init_257 ?_
  refine pw_iast hx hb hK hP hS hA (27) rfl (by omega) (by omega) dX10_init_259 (fun H1 locs1 hP1 hz1 oq1 hS1 => ?_)
  replace hP := hP1
  replace hS := hS1
  replace hz := hz1.trans hz
  replace oq := fun (q : Nat) (hq : q ≠ r0 + 11) => (oq1 q hq).trans (oq q hq)
  clear hP1 hS1 hz1 oq1
  refine lv_dup hx hb dX10_init_260 rfl ?_
  refine pw_bipush hx hb dX10_init_261 ?_
  refine pw_bipush hx hb dX10_init_263 ?_
  refine pw_iast hx hb hK hP hS hA (28) rfl (by omega) (by omega) dX10_init_265 (fun H1 locs1 hP1 hz1 oq1 hS1 => ?_)
  replace hP := hP1
  replace hS := hS1
  replace hz := hz1.trans hz
  replace oq := fun (q : Nat) (hq : q ≠ r0 + 11) => (oq1 q hq).trans (oq q hq)
  clear hP1 hS1 hz1 oq1
  refine lv_dup hx hb dX10_init_266 rfl ?_
  refine pw_bipush hx hb dX10_init_267 ?_
  refine pw_bipush hx hb dX10_init_269 ?_
  refine pw_iast hx hb hK hP hS hA (29) rfl (by omega) (by omega) dX10_init_271 (fun H1 locs1 hP1 hz1 oq1 hS1 => ?_)
  replace hP := hP1
  replace hS := hS1
  replace hz := hz1.trans hz
  replace oq := fun (q : Nat) (hq : q ≠ r0 + 11) => (oq1 q hq).trans (oq q hq)
  clear hP1 hS1 hz1 oq1
  exact kk _ _ (hP.up (fun j hj => by revert j; decide +kernel)) hz oq hS
set_option maxHeartbeats 4000000 in
set_option maxRecDepth 100000 in
/-- PolicyWorksModel() -/
theorem r_ModelI (l : Launch) (D : va_G) (E : Nat → ClassId) (r0 : Nat) : pw_M rvV l D E yX10_init wsX10_init ({ frames := 1, cells := 13, slots := 5586, locals := 20 } : Room) [.ref (r0)] (fun H => OA D r0 10 [.int (iI (0)), .int (iI (0)), .null, .null, .null, .null, .int (iI (0)), .int (iI (0)), .int (iI (0)), .int (iI (0)), .null, .null, .null, .null, .null, .null, .null, .null, .null, .int (iI (0))] H ∧ H.size = r0 + 1) (fun _ H => RPO D E r0 σ0 0 H ∧ H.size = r0 + 14) (fun q => r0 ≤ q) (13) (5586) := by
  refine pw_of (cc := cX10_init) (maxL := 1) (ret := none) (by decide +kernel) rfl (Nat.le_of_ble_eq_true rfl) ?_
  intro p e s m args below meth c hx hb hr hml hts hown hlocks hini hK ⟨hO, hsz⟩ ls hl
  have hown : s.vm.findClass RX10 = some m.cls := hown
  have hl : lv_has ls 1 [(0, .ref (r0))] := hl
  have hS : va_S (fun q => r0 ≤ q) s.heap s.heap [] := va_S.rf
  have lk_7 := hts (.fieldLink RX10 7 "PolicyWorksModel" "actionCounts" "[I") (by decide +kernel)
  have lk_13 := hts (.fieldLink RX10 13 "PolicyWorksModel" "ups" "[I") (by decide +kernel)
  have lk_16 := hts (.fieldLink RX10 16 "PolicyWorksModel" "downs" "[I") (by decide +kernel)
  have lk_19 := hts (.fieldLink RX10 19 "PolicyWorksModel" "weights" "[I") (by decide +kernel)
  have lk_22 := hts (.fieldLink RX10 22 "PolicyWorksModel" "discountUp" "I") (by decide +kernel)
  have lk_26 := hts (.fieldLink RX10 26 "PolicyWorksModel" "discountDown" "I") (by decide +kernel)
  have lk_29 := hts (.fieldLink RX10 29 "PolicyWorksModel" "best" "[I") (by decide +kernel)
  have lk_32 := hts (.fieldLink RX10 32 "PolicyWorksModel" "chosen" "[I") (by decide +kernel)
  have lk_35 := hts (.fieldLink RX10 35 "PolicyWorksModel" "next" "[I") (by decide +kernel)
  have lk_38 := hts (.fieldLink RX10 38 "PolicyWorksModel" "limbs" "[I") (by decide +kernel)
  have lk_41 := hts (.fieldLink RX10 41 "PolicyWorksModel" "lengths" "[I") (by decide +kernel)
  have lk_44 := hts (.fieldLink RX10 44 "PolicyWorksModel" "signs" "[I") (by decide +kernel)
  have lk_47 := hts (.fieldLink RX10 47 "PolicyWorksModel" "primes" "[I") (by decide +kernel)
  have lk_50 := hts (.fieldLink RX10 50 "PolicyWorksModel" "own" "[I") (by decide +kernel)
  have lk_53 := hts (.fieldLink RX10 53 "PolicyWorksModel" "together" "[I") (by decide +kernel)
  have hin10 : ∀ w ∈ wsX100, w ∈ wsX10_init := by decide +kernel
  have ka_int := hts (.arrayClass .int) (by decide +kernel)
  have ko_1 := hts (.methodLink RX10 1 objectInit) (by decide +kernel)
  have ko_2 := hts (.instanceMethod objectInit) (by decide +kernel)
  have ko_3 := hts (.code objectInit ⟨#[0xb1]⟩ 1 none) (by decide +kernel)
  refine lv_aload_n hx hb dX10_init_0 rfl (lv_at hl 0 rfl) ?_
  refine pw_objI hx hb hml hown ko_1 ko_2 ko_3 hl.1 dX10_init_1 ⟨Nat.le_of_ble_eq_true rfl, Nat.le_of_ble_eq_true rfl⟩ ?_
  refine lv_aload_n hx hb dX10_init_4 rfl (lv_at hl 0 rfl) ?_
  refine pw_bipush hx hb dX10_init_5 ?_
  refine pw_newi hx hb ka_int hK hS (6) rfl (by omega) (by show _ ≤ 13; omega) (by show _ ≤ 5586; omega) dX10_init_7 (fun H1 hnew hz1 oq hS => ?_)
  replace hO := hO.k (oq _ hO.lt)
  have hsz1 : H1.size = r0 + 2 := by omega
  rw [hsz] at hnew ⊢
  clear hz1 oq hsz
  have hsz := hsz1
  clear hsz1
  have hC := hnew
  clear hnew
  refine pw_putF (C := RX10) (T := TX10) (N := 20) hx hb hts hin10 tyX10 tyX10_ok nmX10 hown hK hO hS (by (try dsimp only); omega) rfl 2 (by decide) lk_7 rfl rfl hini rfl rfl rfl (by show _ < 20; decide) dX10_init_9 (fun H1 locs1 hnew hz1 oq hS => ?_)
  replace hsz := hz1.trans hsz
  replace hC := hC.k (oq _ (by omega))
  replace hO : OA D (r0) 10 [.int (iI (0)), .int (iI (0)), .ref (r0 + 1), .null, .null, .null, .int (iI (0)), .int (iI (0)), .int (iI (0)), .int (iI (0)), .null, .null, .null, .null, .null, .null, .null, .null, .null, .int (iI (0))] H1 := hnew
  clear hnew oq hz1
  refine lv_aload_n hx hb dX10_init_12 rfl (lv_at hl 0 rfl) ?_
  refine pw_bipush hx hb dX10_init_13 ?_
  refine pw_newi hx hb ka_int hK hS (24) rfl (by omega) (by show _ ≤ 13; omega) (by show _ ≤ 5586; omega) dX10_init_15 (fun H1 hnew hz1 oq hS => ?_)
  replace hO := hO.k (oq _ hO.lt)
  replace hC := hC.k (oq _ hC.lt)
  have hsz1 : H1.size = r0 + 3 := by omega
  rw [hsz] at hnew ⊢
  clear hz1 oq hsz
  have hsz := hsz1
  clear hsz1
  have hU := hnew
  clear hnew
  refine pw_putF (C := RX10) (T := TX10) (N := 20) hx hb hts hin10 tyX10 tyX10_ok nmX10 hown hK hO hS (by (try dsimp only); omega) rfl 3 (by decide) lk_13 rfl rfl hini rfl rfl rfl (by show _ < 20; decide) dX10_init_17 (fun H1 locs1 hnew hz1 oq hS => ?_)
  replace hsz := hz1.trans hsz
  replace hC := hC.k (oq _ (by omega))
  replace hU := hU.k (oq _ (by omega))
  replace hO : OA D (r0) 10 [.int (iI (0)), .int (iI (0)), .ref (r0 + 1), .ref (r0 + 2), .null, .null, .int (iI (0)), .int (iI (0)), .int (iI (0)), .int (iI (0)), .null, .null, .null, .null, .null, .null, .null, .null, .null, .int (iI (0))] H1 := hnew
  clear hnew oq hz1
  refine lv_aload_n hx hb dX10_init_20 rfl (lv_at hl 0 rfl) ?_
  refine pw_bipush hx hb dX10_init_21 ?_
  refine pw_newi hx hb ka_int hK hS (24) rfl (by omega) (by show _ ≤ 13; omega) (by show _ ≤ 5586; omega) dX10_init_23 (fun H1 hnew hz1 oq hS => ?_)
  replace hO := hO.k (oq _ hO.lt)
  replace hC := hC.k (oq _ hC.lt)
  replace hU := hU.k (oq _ hU.lt)
  have hsz1 : H1.size = r0 + 4 := by omega
  rw [hsz] at hnew ⊢
  clear hz1 oq hsz
  have hsz := hsz1
  clear hsz1
  have hDn := hnew
  clear hnew
  refine pw_putF (C := RX10) (T := TX10) (N := 20) hx hb hts hin10 tyX10 tyX10_ok nmX10 hown hK hO hS (by (try dsimp only); omega) rfl 4 (by decide) lk_16 rfl rfl hini rfl rfl rfl (by show _ < 20; decide) dX10_init_25 (fun H1 locs1 hnew hz1 oq hS => ?_)
  replace hsz := hz1.trans hsz
  replace hC := hC.k (oq _ (by omega))
  replace hU := hU.k (oq _ (by omega))
  replace hDn := hDn.k (oq _ (by omega))
  replace hO : OA D (r0) 10 [.int (iI (0)), .int (iI (0)), .ref (r0 + 1), .ref (r0 + 2), .ref (r0 + 3), .null, .int (iI (0)), .int (iI (0)), .int (iI (0)), .int (iI (0)), .null, .null, .null, .null, .null, .null, .null, .null, .null, .int (iI (0))] H1 := hnew
  clear hnew oq hz1
  refine lv_aload_n hx hb dX10_init_28 rfl (lv_at hl 0 rfl) ?_
  refine pw_sipush hx hb dX10_init_29 ?_
  refine pw_newi hx hb ka_int hK hS (144) rfl (by omega) (by show _ ≤ 13; omega) (by show _ ≤ 5586; omega) dX10_init_32 (fun H1 hnew hz1 oq hS => ?_)
  replace hO := hO.k (oq _ hO.lt)
  replace hC := hC.k (oq _ hC.lt)
  replace hU := hU.k (oq _ hU.lt)
  replace hDn := hDn.k (oq _ hDn.lt)
  have hsz1 : H1.size = r0 + 5 := by omega
  rw [hsz] at hnew ⊢
  clear hz1 oq hsz
  have hsz := hsz1
  clear hsz1
  have hW := hnew
  clear hnew
  refine pw_putF (C := RX10) (T := TX10) (N := 20) hx hb hts hin10 tyX10 tyX10_ok nmX10 hown hK hO hS (by (try dsimp only); omega) rfl 5 (by decide) lk_19 rfl rfl hini rfl rfl rfl (by show _ < 20; decide) dX10_init_34 (fun H1 locs1 hnew hz1 oq hS => ?_)
  replace hsz := hz1.trans hsz
  replace hC := hC.k (oq _ (by omega))
  replace hU := hU.k (oq _ (by omega))
  replace hDn := hDn.k (oq _ (by omega))
  replace hW := hW.k (oq _ (by omega))
  replace hO : OA D (r0) 10 [.int (iI (0)), .int (iI (0)), .ref (r0 + 1), .ref (r0 + 2), .ref (r0 + 3), .ref (r0 + 4), .int (iI (0)), .int (iI (0)), .int (iI (0)), .int (iI (0)), .null, .null, .null, .null, .null, .null, .null, .null, .null, .int (iI (0))] H1 := hnew
  clear hnew oq hz1
  refine lv_aload_n hx hb dX10_init_37 rfl (lv_at hl 0 rfl) ?_
  refine pw_iconst hx hb dX10_init_38 ?_
  refine pw_put (C := RX10) (T := TX10) (N := 20) hx hb hts hin10 tyX10 tyX10_ok nmX10 hown hK hO hS (by (try dsimp only); omega) rfl 6 (by decide) lk_22 rfl rfl rfl rfl (by show _ < 20; decide) dX10_init_39 (fun H1 locs1 hnew hz1 oq hS => ?_)
  replace hsz := hz1.trans hsz
  replace hC := hC.k (oq _ (by omega))
  replace hU := hU.k (oq _ (by omega))
  replace hDn := hDn.k (oq _ (by omega))
  replace hW := hW.k (oq _ (by omega))
  replace hO : OA D (r0) 10 [.int (iI (0)), .int (iI (0)), .ref (r0 + 1), .ref (r0 + 2), .ref (r0 + 3), .ref (r0 + 4), .int (iI (1)), .int (iI (0)), .int (iI (0)), .int (iI (0)), .null, .null, .null, .null, .null, .null, .null, .null, .null, .int (iI (0))] H1 := hnew
  clear hnew oq hz1
  refine lv_aload_n hx hb dX10_init_42 rfl (lv_at hl 0 rfl) ?_
  refine pw_iconst hx hb dX10_init_43 ?_
  refine pw_put (C := RX10) (T := TX10) (N := 20) hx hb hts hin10 tyX10 tyX10_ok nmX10 hown hK hO hS (by (try dsimp only); omega) rfl 7 (by decide) lk_26 rfl rfl rfl rfl (by show _ < 20; decide) dX10_init_44 (fun H1 locs1 hnew hz1 oq hS => ?_)
  replace hsz := hz1.trans hsz
  replace hC := hC.k (oq _ (by omega))
  replace hU := hU.k (oq _ (by omega))
  replace hDn := hDn.k (oq _ (by omega))
  replace hW := hW.k (oq _ (by omega))
  replace hO : OA D (r0) 10 [.int (iI (0)), .int (iI (0)), .ref (r0 + 1), .ref (r0 + 2), .ref (r0 + 3), .ref (r0 + 4), .int (iI (1)), .int (iI (2)), .int (iI (0)), .int (iI (0)), .null, .null, .null, .null, .null, .null, .null, .null, .null, .int (iI (0))] H1 := hnew
  clear hnew oq hz1
  refine lv_aload_n hx hb dX10_init_47 rfl (lv_at hl 0 rfl) ?_
  refine pw_bipush hx hb dX10_init_48 ?_
  refine pw_newi hx hb ka_int hK hS (6) rfl (by omega) (by show _ ≤ 13; omega) (by show _ ≤ 5586; omega) dX10_init_50 (fun H1 hnew hz1 oq hS => ?_)
  replace hO := hO.k (oq _ hO.lt)
  replace hC := hC.k (oq _ hC.lt)
  replace hU := hU.k (oq _ hU.lt)
  replace hDn := hDn.k (oq _ hDn.lt)
  replace hW := hW.k (oq _ hW.lt)
  have hsz1 : H1.size = r0 + 6 := by omega
  rw [hsz] at hnew ⊢
  clear hz1 oq hsz
  have hsz := hsz1
  clear hsz1
  have hBs := hnew
  clear hnew
  refine pw_putF (C := RX10) (T := TX10) (N := 20) hx hb hts hin10 tyX10 tyX10_ok nmX10 hown hK hO hS (by (try dsimp only); omega) rfl 10 (by decide) lk_29 rfl rfl hini rfl rfl rfl (by show _ < 20; decide) dX10_init_52 (fun H1 locs1 hnew hz1 oq hS => ?_)
  replace hsz := hz1.trans hsz
  replace hC := hC.k (oq _ (by omega))
  replace hU := hU.k (oq _ (by omega))
  replace hDn := hDn.k (oq _ (by omega))
  replace hW := hW.k (oq _ (by omega))
  replace hBs := hBs.k (oq _ (by omega))
  replace hO : OA D (r0) 10 [.int (iI (0)), .int (iI (0)), .ref (r0 + 1), .ref (r0 + 2), .ref (r0 + 3), .ref (r0 + 4), .int (iI (1)), .int (iI (2)), .int (iI (0)), .int (iI (0)), .ref (r0 + 5), .null, .null, .null, .null, .null, .null, .null, .null, .int (iI (0))] H1 := hnew
  clear hnew oq hz1
  refine lv_aload_n hx hb dX10_init_55 rfl (lv_at hl 0 rfl) ?_
  refine pw_bipush hx hb dX10_init_56 ?_
  refine pw_newi hx hb ka_int hK hS (6) rfl (by omega) (by show _ ≤ 13; omega) (by show _ ≤ 5586; omega) dX10_init_58 (fun H1 hnew hz1 oq hS => ?_)
  replace hO := hO.k (oq _ hO.lt)
  replace hC := hC.k (oq _ hC.lt)
  replace hU := hU.k (oq _ hU.lt)
  replace hDn := hDn.k (oq _ hDn.lt)
  replace hW := hW.k (oq _ hW.lt)
  replace hBs := hBs.k (oq _ hBs.lt)
  have hsz1 : H1.size = r0 + 7 := by omega
  rw [hsz] at hnew ⊢
  clear hz1 oq hsz
  have hsz := hsz1
  clear hsz1
  have hCh := hnew
  clear hnew
  refine pw_putF (C := RX10) (T := TX10) (N := 20) hx hb hts hin10 tyX10 tyX10_ok nmX10 hown hK hO hS (by (try dsimp only); omega) rfl 11 (by decide) lk_32 rfl rfl hini rfl rfl rfl (by show _ < 20; decide) dX10_init_60 (fun H1 locs1 hnew hz1 oq hS => ?_)
  replace hsz := hz1.trans hsz
  replace hC := hC.k (oq _ (by omega))
  replace hU := hU.k (oq _ (by omega))
  replace hDn := hDn.k (oq _ (by omega))
  replace hW := hW.k (oq _ (by omega))
  replace hBs := hBs.k (oq _ (by omega))
  replace hCh := hCh.k (oq _ (by omega))
  replace hO : OA D (r0) 10 [.int (iI (0)), .int (iI (0)), .ref (r0 + 1), .ref (r0 + 2), .ref (r0 + 3), .ref (r0 + 4), .int (iI (1)), .int (iI (2)), .int (iI (0)), .int (iI (0)), .ref (r0 + 5), .ref (r0 + 6), .null, .null, .null, .null, .null, .null, .null, .int (iI (0))] H1 := hnew
  clear hnew oq hz1
  refine lv_aload_n hx hb dX10_init_63 rfl (lv_at hl 0 rfl) ?_
  refine pw_bipush hx hb dX10_init_64 ?_
  refine pw_newi hx hb ka_int hK hS (6) rfl (by omega) (by show _ ≤ 13; omega) (by show _ ≤ 5586; omega) dX10_init_66 (fun H1 hnew hz1 oq hS => ?_)
  replace hO := hO.k (oq _ hO.lt)
  replace hC := hC.k (oq _ hC.lt)
  replace hU := hU.k (oq _ hU.lt)
  replace hDn := hDn.k (oq _ hDn.lt)
  replace hW := hW.k (oq _ hW.lt)
  replace hBs := hBs.k (oq _ hBs.lt)
  replace hCh := hCh.k (oq _ hCh.lt)
  have hsz1 : H1.size = r0 + 8 := by omega
  rw [hsz] at hnew ⊢
  clear hz1 oq hsz
  have hsz := hsz1
  clear hsz1
  have hNx := hnew
  clear hnew
  refine pw_putF (C := RX10) (T := TX10) (N := 20) hx hb hts hin10 tyX10 tyX10_ok nmX10 hown hK hO hS (by (try dsimp only); omega) rfl 12 (by decide) lk_35 rfl rfl hini rfl rfl rfl (by show _ < 20; decide) dX10_init_68 (fun H1 locs1 hnew hz1 oq hS => ?_)
  replace hsz := hz1.trans hsz
  replace hC := hC.k (oq _ (by omega))
  replace hU := hU.k (oq _ (by omega))
  replace hDn := hDn.k (oq _ (by omega))
  replace hW := hW.k (oq _ (by omega))
  replace hBs := hBs.k (oq _ (by omega))
  replace hCh := hCh.k (oq _ (by omega))
  replace hNx := hNx.k (oq _ (by omega))
  replace hO : OA D (r0) 10 [.int (iI (0)), .int (iI (0)), .ref (r0 + 1), .ref (r0 + 2), .ref (r0 + 3), .ref (r0 + 4), .int (iI (1)), .int (iI (2)), .int (iI (0)), .int (iI (0)), .ref (r0 + 5), .ref (r0 + 6), .ref (r0 + 7), .null, .null, .null, .null, .null, .null, .int (iI (0))] H1 := hnew
  clear hnew oq hz1
  refine lv_aload_n hx hb dX10_init_71 rfl (lv_at hl 0 rfl) ?_
  refine pw_sipush hx hb dX10_init_72 ?_
  refine pw_newi hx hb ka_int hK hS (5120) rfl (by omega) (by show _ ≤ 13; omega) (by show _ ≤ 5586; omega) dX10_init_75 (fun H1 hnew hz1 oq hS => ?_)
  replace hO := hO.k (oq _ hO.lt)
  replace hC := hC.k (oq _ hC.lt)
  replace hU := hU.k (oq _ hU.lt)
  replace hDn := hDn.k (oq _ hDn.lt)
  replace hW := hW.k (oq _ hW.lt)
  replace hBs := hBs.k (oq _ hBs.lt)
  replace hCh := hCh.k (oq _ hCh.lt)
  replace hNx := hNx.k (oq _ hNx.lt)
  have hsz1 : H1.size = r0 + 9 := by omega
  rw [hsz] at hnew ⊢
  clear hz1 oq hsz
  have hsz := hsz1
  clear hsz1
  have hf := hnew
  clear hnew
  refine pw_putF (C := RX10) (T := TX10) (N := 20) hx hb hts hin10 tyX10 tyX10_ok nmX10 hown hK hO hS (by (try dsimp only); omega) rfl 13 (by decide) lk_38 rfl rfl hini rfl rfl rfl (by show _ < 20; decide) dX10_init_77 (fun H1 locs1 hnew hz1 oq hS => ?_)
  replace hsz := hz1.trans hsz
  replace hC := hC.k (oq _ (by omega))
  replace hU := hU.k (oq _ (by omega))
  replace hDn := hDn.k (oq _ (by omega))
  replace hW := hW.k (oq _ (by omega))
  replace hBs := hBs.k (oq _ (by omega))
  replace hCh := hCh.k (oq _ (by omega))
  replace hNx := hNx.k (oq _ (by omega))
  replace hf := hf.k (oq _ (by omega))
  replace hO : OA D (r0) 10 [.int (iI (0)), .int (iI (0)), .ref (r0 + 1), .ref (r0 + 2), .ref (r0 + 3), .ref (r0 + 4), .int (iI (1)), .int (iI (2)), .int (iI (0)), .int (iI (0)), .ref (r0 + 5), .ref (r0 + 6), .ref (r0 + 7), .ref (r0 + 8), .null, .null, .null, .null, .null, .int (iI (0))] H1 := hnew
  clear hnew oq hz1
  refine lv_aload_n hx hb dX10_init_80 rfl (lv_at hl 0 rfl) ?_
  refine pw_bipush hx hb dX10_init_81 ?_
  refine pw_newi hx hb ka_int hK hS (80) rfl (by omega) (by show _ ≤ 13; omega) (by show _ ≤ 5586; omega) dX10_init_83 (fun H1 hnew hz1 oq hS => ?_)
  replace hO := hO.k (oq _ hO.lt)
  replace hC := hC.k (oq _ hC.lt)
  replace hU := hU.k (oq _ hU.lt)
  replace hDn := hDn.k (oq _ hDn.lt)
  replace hW := hW.k (oq _ hW.lt)
  replace hBs := hBs.k (oq _ hBs.lt)
  replace hCh := hCh.k (oq _ hCh.lt)
  replace hNx := hNx.k (oq _ hNx.lt)
  replace hf := hf.k (oq _ hf.lt)
  have hsz1 : H1.size = r0 + 10 := by omega
  rw [hsz] at hnew ⊢
  clear hz1 oq hsz
  have hsz := hsz1
  clear hsz1
  have hg := hnew
  clear hnew
  refine pw_putF (C := RX10) (T := TX10) (N := 20) hx hb hts hin10 tyX10 tyX10_ok nmX10 hown hK hO hS (by (try dsimp only); omega) rfl 14 (by decide) lk_41 rfl rfl hini rfl rfl rfl (by show _ < 20; decide) dX10_init_85 (fun H1 locs1 hnew hz1 oq hS => ?_)
  replace hsz := hz1.trans hsz
  replace hC := hC.k (oq _ (by omega))
  replace hU := hU.k (oq _ (by omega))
  replace hDn := hDn.k (oq _ (by omega))
  replace hW := hW.k (oq _ (by omega))
  replace hBs := hBs.k (oq _ (by omega))
  replace hCh := hCh.k (oq _ (by omega))
  replace hNx := hNx.k (oq _ (by omega))
  replace hf := hf.k (oq _ (by omega))
  replace hg := hg.k (oq _ (by omega))
  replace hO : OA D (r0) 10 [.int (iI (0)), .int (iI (0)), .ref (r0 + 1), .ref (r0 + 2), .ref (r0 + 3), .ref (r0 + 4), .int (iI (1)), .int (iI (2)), .int (iI (0)), .int (iI (0)), .ref (r0 + 5), .ref (r0 + 6), .ref (r0 + 7), .ref (r0 + 8), .ref (r0 + 9), .null, .null, .null, .null, .int (iI (0))] H1 := hnew
  clear hnew oq hz1
  refine lv_aload_n hx hb dX10_init_88 rfl (lv_at hl 0 rfl) ?_
  refine pw_bipush hx hb dX10_init_89 ?_
  refine pw_newi hx hb ka_int hK hS (80) rfl (by omega) (by show _ ≤ 13; omega) (by show _ ≤ 5586; omega) dX10_init_91 (fun H1 hnew hz1 oq hS => ?_)
  replace hO := hO.k (oq _ hO.lt)
  replace hC := hC.k (oq _ hC.lt)
  replace hU := hU.k (oq _ hU.lt)
  replace hDn := hDn.k (oq _ hDn.lt)
  replace hW := hW.k (oq _ hW.lt)
  replace hBs := hBs.k (oq _ hBs.lt)
  replace hCh := hCh.k (oq _ hCh.lt)
  replace hNx := hNx.k (oq _ hNx.lt)
  replace hf := hf.k (oq _ hf.lt)
  replace hg := hg.k (oq _ hg.lt)
  have hsz1 : H1.size = r0 + 11 := by omega
  rw [hsz] at hnew ⊢
  clear hz1 oq hsz
  have hsz := hsz1
  clear hsz1
  have hh := hnew
  clear hnew
  refine pw_putF (C := RX10) (T := TX10) (N := 20) hx hb hts hin10 tyX10 tyX10_ok nmX10 hown hK hO hS (by (try dsimp only); omega) rfl 15 (by decide) lk_44 rfl rfl hini rfl rfl rfl (by show _ < 20; decide) dX10_init_93 (fun H1 locs1 hnew hz1 oq hS => ?_)
  replace hsz := hz1.trans hsz
  replace hC := hC.k (oq _ (by omega))
  replace hU := hU.k (oq _ (by omega))
  replace hDn := hDn.k (oq _ (by omega))
  replace hW := hW.k (oq _ (by omega))
  replace hBs := hBs.k (oq _ (by omega))
  replace hCh := hCh.k (oq _ (by omega))
  replace hNx := hNx.k (oq _ (by omega))
  replace hf := hf.k (oq _ (by omega))
  replace hg := hg.k (oq _ (by omega))
  replace hh := hh.k (oq _ (by omega))
  replace hO : OA D (r0) 10 [.int (iI (0)), .int (iI (0)), .ref (r0 + 1), .ref (r0 + 2), .ref (r0 + 3), .ref (r0 + 4), .int (iI (1)), .int (iI (2)), .int (iI (0)), .int (iI (0)), .ref (r0 + 5), .ref (r0 + 6), .ref (r0 + 7), .ref (r0 + 8), .ref (r0 + 9), .ref (r0 + 10), .null, .null, .null, .int (iI (0))] H1 := hnew
  clear hnew oq hz1
  refine lv_aload_n hx hb dX10_init_96 rfl (lv_at hl 0 rfl) ?_
  refine pw_bipush hx hb dX10_init_97 ?_
  refine pw_newi hx hb ka_int hK hS (30) rfl (by omega) (by show _ ≤ 13; omega) (by show _ ≤ 5586; omega) dX10_init_99 (fun H1 hnew hz1 oq hS => ?_)
  replace hO := hO.k (oq _ hO.lt)
  replace hC := hC.k (oq _ hC.lt)
  replace hU := hU.k (oq _ hU.lt)
  replace hDn := hDn.k (oq _ hDn.lt)
  replace hW := hW.k (oq _ hW.lt)
  replace hBs := hBs.k (oq _ hBs.lt)
  replace hCh := hCh.k (oq _ hCh.lt)
  replace hNx := hNx.k (oq _ hNx.lt)
  replace hf := hf.k (oq _ hf.lt)
  replace hg := hg.k (oq _ hg.lt)
  replace hh := hh.k (oq _ hh.lt)
  have hsz1 : H1.size = r0 + 12 := by omega
  rw [hsz] at hnew ⊢
  clear hz1 oq hsz
  have hsz := hsz1
  clear hsz1
  have hP := hnew
  clear hnew
  refine r_primes hx hb hK hP hS (by (try dsimp only); omega) (fun H1 locs1 hnew hz1 oq hS => ?_)
  replace hO := hO.k (oq _ (by omega))
  replace hsz := hz1.trans hsz
  replace hC := hC.k (oq _ (by omega))
  replace hU := hU.k (oq _ (by omega))
  replace hDn := hDn.k (oq _ (by omega))
  replace hW := hW.k (oq _ (by omega))
  replace hBs := hBs.k (oq _ (by omega))
  replace hCh := hCh.k (oq _ (by omega))
  replace hNx := hNx.k (oq _ (by omega))
  replace hf := hf.k (oq _ (by omega))
  replace hg := hg.k (oq _ (by omega))
  replace hh := hh.k (oq _ (by omega))
  replace hP := hnew
  clear hnew oq hz1
  refine pw_putF (C := RX10) (T := TX10) (N := 20) hx hb hts hin10 tyX10 tyX10_ok nmX10 hown hK hO hS (by (try dsimp only); omega) rfl 16 (by decide) lk_47 rfl rfl hini rfl rfl rfl (by show _ < 20; decide) dX10_init_272 (fun H1 locs1 hnew hz1 oq hS => ?_)
  replace hsz := hz1.trans hsz
  replace hC := hC.k (oq _ (by omega))
  replace hU := hU.k (oq _ (by omega))
  replace hDn := hDn.k (oq _ (by omega))
  replace hW := hW.k (oq _ (by omega))
  replace hBs := hBs.k (oq _ (by omega))
  replace hCh := hCh.k (oq _ (by omega))
  replace hNx := hNx.k (oq _ (by omega))
  replace hf := hf.k (oq _ (by omega))
  replace hg := hg.k (oq _ (by omega))
  replace hh := hh.k (oq _ (by omega))
  replace hP := hP.k (oq _ (by omega))
  replace hO : OA D (r0) 10 [.int (iI (0)), .int (iI (0)), .ref (r0 + 1), .ref (r0 + 2), .ref (r0 + 3), .ref (r0 + 4), .int (iI (1)), .int (iI (2)), .int (iI (0)), .int (iI (0)), .ref (r0 + 5), .ref (r0 + 6), .ref (r0 + 7), .ref (r0 + 8), .ref (r0 + 9), .ref (r0 + 10), .ref (r0 + 11), .null, .null, .int (iI (0))] H1 := hnew
  clear hnew oq hz1
  refine lv_aload_n hx hb dX10_init_275 rfl (lv_at hl 0 rfl) ?_
  refine pw_bipush hx hb dX10_init_276 ?_
  refine pw_newi hx hb ka_int hK hS (30) rfl (by omega) (by show _ ≤ 13; omega) (by show _ ≤ 5586; omega) dX10_init_278 (fun H1 hnew hz1 oq hS => ?_)
  replace hO := hO.k (oq _ hO.lt)
  replace hC := hC.k (oq _ hC.lt)
  replace hU := hU.k (oq _ hU.lt)
  replace hDn := hDn.k (oq _ hDn.lt)
  replace hW := hW.k (oq _ hW.lt)
  replace hBs := hBs.k (oq _ hBs.lt)
  replace hCh := hCh.k (oq _ hCh.lt)
  replace hNx := hNx.k (oq _ hNx.lt)
  replace hf := hf.k (oq _ hf.lt)
  replace hg := hg.k (oq _ hg.lt)
  replace hh := hh.k (oq _ hh.lt)
  replace hP := hP.k (oq _ hP.lt)
  have hsz1 : H1.size = r0 + 13 := by omega
  rw [hsz] at hnew ⊢
  clear hz1 oq hsz
  have hsz := hsz1
  clear hsz1
  have hOw := hnew
  clear hnew
  refine pw_putF (C := RX10) (T := TX10) (N := 20) hx hb hts hin10 tyX10 tyX10_ok nmX10 hown hK hO hS (by (try dsimp only); omega) rfl 17 (by decide) lk_50 rfl rfl hini rfl rfl rfl (by show _ < 20; decide) dX10_init_280 (fun H1 locs1 hnew hz1 oq hS => ?_)
  replace hsz := hz1.trans hsz
  replace hC := hC.k (oq _ (by omega))
  replace hU := hU.k (oq _ (by omega))
  replace hDn := hDn.k (oq _ (by omega))
  replace hW := hW.k (oq _ (by omega))
  replace hBs := hBs.k (oq _ (by omega))
  replace hCh := hCh.k (oq _ (by omega))
  replace hNx := hNx.k (oq _ (by omega))
  replace hf := hf.k (oq _ (by omega))
  replace hg := hg.k (oq _ (by omega))
  replace hh := hh.k (oq _ (by omega))
  replace hP := hP.k (oq _ (by omega))
  replace hOw := hOw.k (oq _ (by omega))
  replace hO : OA D (r0) 10 [.int (iI (0)), .int (iI (0)), .ref (r0 + 1), .ref (r0 + 2), .ref (r0 + 3), .ref (r0 + 4), .int (iI (1)), .int (iI (2)), .int (iI (0)), .int (iI (0)), .ref (r0 + 5), .ref (r0 + 6), .ref (r0 + 7), .ref (r0 + 8), .ref (r0 + 9), .ref (r0 + 10), .ref (r0 + 11), .ref (r0 + 12), .null, .int (iI (0))] H1 := hnew
  clear hnew oq hz1
  refine lv_aload_n hx hb dX10_init_283 rfl (lv_at hl 0 rfl) ?_
  refine pw_bipush hx hb dX10_init_284 ?_
  refine pw_newi hx hb ka_int hK hS (30) rfl (by omega) (by show _ ≤ 13; omega) (by show _ ≤ 5586; omega) dX10_init_286 (fun H1 hnew hz1 oq hS => ?_)
  replace hO := hO.k (oq _ hO.lt)
  replace hC := hC.k (oq _ hC.lt)
  replace hU := hU.k (oq _ hU.lt)
  replace hDn := hDn.k (oq _ hDn.lt)
  replace hW := hW.k (oq _ hW.lt)
  replace hBs := hBs.k (oq _ hBs.lt)
  replace hCh := hCh.k (oq _ hCh.lt)
  replace hNx := hNx.k (oq _ hNx.lt)
  replace hf := hf.k (oq _ hf.lt)
  replace hg := hg.k (oq _ hg.lt)
  replace hh := hh.k (oq _ hh.lt)
  replace hP := hP.k (oq _ hP.lt)
  replace hOw := hOw.k (oq _ hOw.lt)
  have hsz1 : H1.size = r0 + 14 := by omega
  rw [hsz] at hnew ⊢
  clear hz1 oq hsz
  have hsz := hsz1
  clear hsz1
  have hTg := hnew
  clear hnew
  refine pw_putF (C := RX10) (T := TX10) (N := 20) hx hb hts hin10 tyX10 tyX10_ok nmX10 hown hK hO hS (by (try dsimp only); omega) rfl 18 (by decide) lk_53 rfl rfl hini rfl rfl rfl (by show _ < 20; decide) dX10_init_288 (fun H1 locs1 hnew hz1 oq hS => ?_)
  replace hsz := hz1.trans hsz
  replace hC := hC.k (oq _ (by omega))
  replace hU := hU.k (oq _ (by omega))
  replace hDn := hDn.k (oq _ (by omega))
  replace hW := hW.k (oq _ (by omega))
  replace hBs := hBs.k (oq _ (by omega))
  replace hCh := hCh.k (oq _ (by omega))
  replace hNx := hNx.k (oq _ (by omega))
  replace hf := hf.k (oq _ (by omega))
  replace hg := hg.k (oq _ (by omega))
  replace hh := hh.k (oq _ (by omega))
  replace hP := hP.k (oq _ (by omega))
  replace hOw := hOw.k (oq _ (by omega))
  replace hTg := hTg.k (oq _ (by omega))
  replace hO : OA D (r0) 10 [.int (iI (0)), .int (iI (0)), .ref (r0 + 1), .ref (r0 + 2), .ref (r0 + 3), .ref (r0 + 4), .int (iI (1)), .int (iI (2)), .int (iI (0)), .int (iI (0)), .ref (r0 + 5), .ref (r0 + 6), .ref (r0 + 7), .ref (r0 + 8), .ref (r0 + 9), .ref (r0 + 10), .ref (r0 + 11), .ref (r0 + 12), .ref (r0 + 13), .int (iI (0))] H1 := hnew
  clear hnew oq hz1
  refine pw_cs (cells' := 13) (slots' := 5586) (by omega) (by omega) ?_
  have hP2 : IA E (r0 + 11) 30 prm _ := hP
  exact pw_vret hx hb hr hlocks hS ⟨⟨0, 0, 0, fun _ => 0, fun _ => 0, fun _ => 0, fun _ => 0, fun _ => 0, fun _ => 0, fun _ => 0, fun _ => 0, fun _ => 0, hO, hC, hU, hDn, hW, hBs, hCh, hNx, bn_zero hf hg hh, hP2, hOw, hTg, RI0 σ0_ok (fun s k _ hk => absurd hk (Nat.not_lt_zero _))⟩, hsz⟩ dX10_init_291
