/-! THE CLAIM OUT OF ONE WALK OF THE LAW'S BODY. Your part is whole_start (and what it stands on); all else here is the same for every law, but numbers. -/
def R_law : String := "MarkSheetsLaw"
def lw_P (b : Addr) (xs : List Int32) (args : Array Value) (s : State) : Prop := args = #[.ref b] ∧ s.IntsAt b xs ∧ xs.length ≤ 3072 ∧ (Jvm.Cond.and given_1 narrow_1).before args s = true
def lw_Q (_ : Array Value) (s : State) (o : Outcome) (t : State) : Prop := o = .returned (some (.int 1)) ∧ Framed s o t [] 838833 6585748
def lw_Z (below : List Frame) (a : Array Value) (s : State) : State → Prop := fun t => ∃ o, t.status = .running ∧ Ended t below o ∧ lw_Q a s o t
/-- the law's own end, with 1 on the stack, nothing written that was there before, its room as the claim has it -/
theorem lw_ret {p : Program} {l : Launch} {e : Env} {s : State} {m : MethodId} {below : List Frame} {meth : Method} {c : Code} {b : Nat} (hx : p.tables.exec = Jvm.exec) (hb : c.code = code) (hr : meth.sig.returnType = ret) (hlocks : meth.locks = false) {pc : Nat} {H : Heap} {ls : Array Slot} (hdg : decode code pc = .ok (.ireturn, 1)) : W p l e room_1 s m #[Value.ref b] below meth c H [] 838833 6585748 (lw_Z below #[Value.ref b] s) (F0 m pc ls [.int 1]) := by
  intro T hT X
  obtain ⟨fs, hret, hrun, hended, hW, hframe⟩ := X.leave (v := some (.int 1)) (hlocks := hlocks) (fun h => by rw [hr] at h; cases h)
  have hmeth' : T.vm.method? m = some meth := X.method'
  refine ⟨T.setFrames fs, ?_, .returned (some (.int 1)), hrun, hended, rfl, ⟨_, rfl⟩, hW, hframe⟩
  jvm_step X.here [X.here.top, hx, hb, hdg, hmeth', hr, ret, narrow_b1]
  (try refine ⟨rfl, ?_⟩); (try refine ⟨rfl, ?_⟩)
  first | (intro acts; rw [hret _ acts rfl rfl rfl]) | rw [hret _ _ rfl rfl rfl]
  exact Steps.refl _
/-- what holds at the law's entry: the machine, the code, the tables' words (any of lw_tbl by 'hts w (by decide +kernel)'), the script of L ints xs at the cell b, what the Statement gives of the start (any of its parts by flat_of_before) -/
def lw_At (p : Program) (s : State) (m : MethodId) (meth : Method) (c : Code) (b L : Nat) (xs : Nat → Int32) : Prop :=
  p.tables.exec = Jvm.exec ∧ c.code = code ∧ meth.sig.returnType = ret ∧ c.maxLocals = 4 ∧ s.vm.findClass R_law = some m.cls ∧ (∀ w ∈ lw_tbl, w.before #[Value.ref b] s = true) ∧ va_X b L xs s s.heap ∧ b < s.heap.size ∧ meth.locks = false ∧ (Jvm.Cond.and given_1 narrow_1).before #[Value.ref b] s = true

/-! THE LAW'S OWN RULES -/
abbrev mL (nm : String) : MI := (⟨RL, nm, "([I)Z"⟩, cL_law, 4, ret)
def SL (G : GG) (b L : Nat) (xs : Nat → Int32) : SS := fun args s => args = #[Value.ref b] ∧ va_X b L xs s s.heap ∧ b < s.heap.size ∧ G.2.2.2 = s.heap.size
section LAW
variable {G : GG} {nm : String} {b L j : Nat} {xs : Nat → Int32} {pc pc' tgt : Nat} {lv : List (Option Value)} {st : List Value} {hp : List va_E} {kc ks : Nat} {s : ST}
abbrev VL (G : GG) (nm : String) (b L : Nat) (xs : Nat → Int32) : Nat → List (Option Value) → List Value → List va_E → Nat → Nat → Prop := V G (mL nm) room_1 lw_Z (SL G b L xs)
theorem v_sld {i : Nat} (hd : decode cL_law pc = .ok (.iaload, 1)) (hi : i < L) (hL : L < 2 ^ 31) (hn : pc + 1 = pc') (k : VL G nm b L xs pc' lv (.int (xs i) :: st) hp kc ks) : VL G nm b L xs pc lv (.int (nI i) :: .ref b :: st) hp kc ks := by
  subst hn
  intro p e s m args below meth c H locs ls C hs hw hS hl
  have hk := k p e s m args below meth c H locs ls C hs hw hS hl
  obtain ⟨ha, hX, hb, hG⟩ := hs
  refine va_sld (A := fun q => G.2.2.2 ≤ q) C.1 C.2.1 hX hb (by show ¬ G.2.2.2 ≤ b; omega) hS (vp_in_nI hi hL) hd ?_
  rw [nI_clamp (by omega)]
  exact hk
theorem v_slen (hd : decode cL_law pc = .ok (.arraylength, 1)) (hn : pc + 1 = pc') (k : VL G nm b L xs pc' lv (.int (nI L) :: st) hp kc ks) : VL G nm b L xs pc lv (.ref b :: st) hp kc ks := by
  subst hn
  intro p e s m args below meth c H locs ls C hs hw hS hl
  have hk := k p e s m args below meth c H locs ls C hs hw hS hl
  obtain ⟨ha, hX, hb, hG⟩ := hs
  exact va_slen (A := fun q => G.2.2.2 ≤ q) C.1 C.2.1 hX hb (by show ¬ G.2.2.2 ≤ b; omega) hS hd hk
theorem v_tabIn {dflt lo hi off : Int} {offs : Array Int} {len : Nat} {x : Int32} (hd : decode cL_law pc = .ok (.tableswitch dflt lo hi offs, len)) (h1 : ¬ x.toInt < lo) (h2 : ¬ hi < x.toInt) (ho : offs[(x.toInt - lo).toNat]? = some off) (ht : (pc : Int) + off = (tgt : Int)) (k : VL G nm b L xs tgt lv st hp kc ks) : VL G nm b L xs pc lv (.int x :: st) hp kc ks := by
  intro p e s m args below meth c H locs ls C hs hw hS hl
  exact lv_tableIn C.1 C.2.1 hd h1 h2 ho ht (k p e s m args below meth c H locs ls C hs hw hS hl)
theorem v_tabOut {dflt lo hi : Int} {offs : Array Int} {len : Nat} {x : Int32} (hd : decode cL_law pc = .ok (.tableswitch dflt lo hi offs, len)) (h : x.toInt < lo ∨ hi < x.toInt) (ht : (pc : Int) + dflt = (tgt : Int)) (k : VL G nm b L xs tgt lv st hp kc ks) : VL G nm b L xs pc lv (.int x :: st) hp kc ks := by
  intro p e s m args below meth c H locs ls C hs hw hS hl
  exact lv_tableOut C.1 C.2.1 hd h ht (k p e s m args below meth c H locs ls C hs hw hS hl)
theorem v_lawend (hd : decode cL_law pc = .ok (.ireturn, 1)) (h1 : kc ≤ 838833) (h2 : ks ≤ 6585748) : VL G nm b L xs pc lv [.int 1] hp kc ks := by
  intro p e s m args below meth c H locs ls C hs hw hS hl
  obtain ⟨rfl, hX, hb, hG⟩ := hs
  refine va_forget (fun q hq => ?_) (W.widen h1 h2 (lw_ret C.1 C.2.1 C.2.2.2.1 C.2.2.2.2.1 hd))
  have h : G.2.2.2 ≤ q.base := hS.2.2 q hq
  omega
/-- the law's locals at the head of its loop -/
abbrev lvL (G : GG) (b j : Nat) : List (Option Value) := [some (.ref b), some (.ref (G.2.2.2 + 0)), some (.ref (G.2.2.2 + 31)), some (.int (nI (6 * j)))]
/-- script[i + q] on the stack -/
theorem v_arg {n : Int} (q : Nat) (h0 : decode cL_law pc = .ok (.aload_n 0, 1)) (h1 : decode cL_law (pc + 1) = .ok (.iload_n 3, 1)) (h2 : decode cL_law (pc + 2) = .ok (.iconst n, 1)) (h3 : decode cL_law (pc + 3) = .ok (.iadd, 1)) (h4 : decode cL_law (pc + 4) = .ok (.iaload, 1)) (hq : Int32.ofInt n = nI q) (hi : 6 * j + q < L) (hL : L ≤ 3072) (hn : pc + 5 = pc') (k : VL G nm b L xs pc' (lvL G b j) (.int (xs (6 * j + q)) :: st) hp kc ks) : VL G nm b L xs pc (lvL G b j) st hp kc ks := by
  refine v_aload_n h0 rfl rfl ?_
  refine v_iload_n h1 rfl rfl ?_
  refine v_iconst h2 hq rfl ?_
  refine v_iaddN h3 rfl ?_
  refine v_sld h4 hi (by omega) hn ?_
  exact k
/-- what is left behind a call -/
abbrev NX (G : GG) (nm : String) (b L : Nat) (xs : Nat → Int32) (j kc ks : Nat) : Prop := ∀ (s' : ST) (hp' : List va_E) (kc' ks' : Nat), Inv s' → Mid G s' s' hp' → kc' ≤ kc + 3 → ks' ≤ ks + 10 → VL G nm b L xs 916 (lvL G b j) [] hp' kc' ks'
theorem case_line (hL : L ≤ 3072) (hj : 6 * j + 6 ≤ L) (hS : Mid G s s hp) (hI : Inv s) (hc : kc + 3 ≤ 838833) (hs : ks + 10 ≤ 6585748) (nx : NX G nm b L xs j kc ks) : VL G nm b L xs 132 (lvL G b j) [] hp kc ks := by
  refine v_aload_n dL_law_132 rfl rfl ?_
  refine v_arg 1 dL_law_133 dL_law_134 dL_law_135 dL_law_136 dL_law_137 (by decide) (by omega) hL rfl ?_
  refine v_arg 2 dL_law_138 dL_law_139 dL_law_140 dL_law_141 dL_law_142 (by decide) (by omega) hL rfl ?_
  refine v_arg 3 dL_law_143 dL_law_144 dL_law_145 dL_law_146 dL_law_147 (by decide) (by omega) hL rfl ?_
  refine v_arg 4 dL_law_148 dL_law_149 dL_law_150 dL_law_151 dL_law_152 (by decide) (by omega) hL rfl ?_
  refine v_arg 5 dL_law_153 dL_law_154 dL_law_155 dL_law_156 dL_law_157 (by decide) (by omega) hL rfl ?_
  obtain ⟨v, s2, hI2, hx, hm⟩ := op_line hS hI (xs (6 * j + 1)) (xs (6 * j + 2)) (xs (6 * j + 3)) (xs (6 * j + 4)) (xs (6 * j + 5))
  obtain ⟨x0, hX0⟩ := hS.1
  refine v_cv dL_law_158 cw_L_13 ⟨tn_X2_line, tl_X2_line⟩ rfl hX0.1 hx (by rfl) (by rfl) (Nat.le_of_ble_eq_true rfl) (Nat.le_of_ble_eq_true rfl) (Nat.le_of_ble_eq_true rfl) (by show kc + 0 ≤ 838833; omega) (by show ks + 0 ≤ 6585748; omega) rfl (fun r h q => ?_)
  obtain ⟨e, hmid⟩ := q
  subst e
  obtain ⟨y0, hM0⟩ := hmid.2
  refine v_aload_n dL_law_161 rfl rfl ?_
  refine v_arg 1 dL_law_162 dL_law_163 dL_law_164 dL_law_165 dL_law_166 (by decide) (by omega) hL rfl ?_
  refine v_arg 2 dL_law_167 dL_law_168 dL_law_169 dL_law_170 dL_law_171 (by decide) (by omega) hL rfl ?_
  refine v_arg 3 dL_law_172 dL_law_173 dL_law_174 dL_law_175 dL_law_176 (by decide) (by omega) hL rfl ?_
  refine v_arg 4 dL_law_177 dL_law_178 dL_law_179 dL_law_180 dL_law_181 (by decide) (by omega) hL rfl ?_
  refine v_arg 5 dL_law_182 dL_law_183 dL_law_184 dL_law_185 dL_law_186 (by decide) (by omega) hL rfl ?_
  refine v_cv dL_law_187 cw_L_17 ⟨tn_X3_line, tl_X3_line⟩ rfl hM0.1 (hm h hmid) (by rfl) (by rfl) (Nat.le_of_ble_eq_true rfl) (Nat.le_of_ble_eq_true rfl) (Nat.le_of_ble_eq_true rfl) (by show kc + 0 + 0 ≤ 838833; omega) (by show ks + 0 + 0 ≤ 6585748; omega) rfl (fun r2 h2 q2 => ?_)
  obtain ⟨e2, hmid2⟩ := q2
  subst e2
  exact v_icmp_eq (tgt := 916) dL_law_190 (by decide) rfl (fun _ => nx s2 h2 _ _ hI2 hmid2 (by omega) (by omega)) (fun q3 => absurd rfl q3)
theorem case_span (hL : L ≤ 3072) (hj : 6 * j + 6 ≤ L) (hS : Mid G s s hp) (hI : Inv s) (hc : kc + 3 ≤ 838833) (hs : ks + 10 ≤ 6585748) (nx : NX G nm b L xs j kc ks) : VL G nm b L xs 195 (lvL G b j) [] hp kc ks := by
  refine v_aload_n dL_law_195 rfl rfl ?_
  refine v_arg 1 dL_law_196 dL_law_197 dL_law_198 dL_law_199 dL_law_200 (by decide) (by omega) hL rfl ?_
  refine v_arg 2 dL_law_201 dL_law_202 dL_law_203 dL_law_204 dL_law_205 (by decide) (by omega) hL rfl ?_
  refine v_arg 3 dL_law_206 dL_law_207 dL_law_208 dL_law_209 dL_law_210 (by decide) (by omega) hL rfl ?_
  refine v_arg 4 dL_law_211 dL_law_212 dL_law_213 dL_law_214 dL_law_215 (by decide) (by omega) hL rfl ?_
  refine v_arg 5 dL_law_216 dL_law_217 dL_law_218 dL_law_219 dL_law_220 (by decide) (by omega) hL rfl ?_
  obtain ⟨v, s2, hI2, hx, hm⟩ := op_span hS hI (xs (6 * j + 1)) (xs (6 * j + 2)) (xs (6 * j + 3)) (xs (6 * j + 4)) (xs (6 * j + 5))
  obtain ⟨x0, hX0⟩ := hS.1
  refine v_cv dL_law_221 cw_L_18 ⟨tn_X2_span, tl_X2_span⟩ rfl hX0.1 hx (by rfl) (by rfl) (Nat.le_of_ble_eq_true rfl) (Nat.le_of_ble_eq_true rfl) (Nat.le_of_ble_eq_true rfl) (by show kc + 0 ≤ 838833; omega) (by show ks + 0 ≤ 6585748; omega) rfl (fun r h q => ?_)
  obtain ⟨e, hmid⟩ := q
  subst e
  obtain ⟨y0, hM0⟩ := hmid.2
  refine v_aload_n dL_law_224 rfl rfl ?_
  refine v_arg 1 dL_law_225 dL_law_226 dL_law_227 dL_law_228 dL_law_229 (by decide) (by omega) hL rfl ?_
  refine v_arg 2 dL_law_230 dL_law_231 dL_law_232 dL_law_233 dL_law_234 (by decide) (by omega) hL rfl ?_
  refine v_arg 3 dL_law_235 dL_law_236 dL_law_237 dL_law_238 dL_law_239 (by decide) (by omega) hL rfl ?_
  refine v_arg 4 dL_law_240 dL_law_241 dL_law_242 dL_law_243 dL_law_244 (by decide) (by omega) hL rfl ?_
  refine v_arg 5 dL_law_245 dL_law_246 dL_law_247 dL_law_248 dL_law_249 (by decide) (by omega) hL rfl ?_
  refine v_cv dL_law_250 cw_L_21 ⟨tn_X3_span, tl_X3_span⟩ rfl hM0.1 (hm h hmid) (by rfl) (by rfl) (Nat.le_of_ble_eq_true rfl) (Nat.le_of_ble_eq_true rfl) (Nat.le_of_ble_eq_true rfl) (by show kc + 0 + 0 ≤ 838833; omega) (by show ks + 0 + 0 ≤ 6585748; omega) rfl (fun r2 h2 q2 => ?_)
  obtain ⟨e2, hmid2⟩ := q2
  subst e2
  exact v_icmp_eq (tgt := 916) dL_law_253 (by decide) rfl (fun _ => nx s2 h2 _ _ hI2 hmid2 (by omega) (by omega)) (fun q3 => absurd rfl q3)
theorem case_about (hL : L ≤ 3072) (hj : 6 * j + 6 ≤ L) (hS : Mid G s s hp) (hI : Inv s) (hc : kc + 3 ≤ 838833) (hs : ks + 10 ≤ 6585748) (nx : NX G nm b L xs j kc ks) : VL G nm b L xs 258 (lvL G b j) [] hp kc ks := by
  refine v_aload_n dL_law_258 rfl rfl ?_
  refine v_arg 1 dL_law_259 dL_law_260 dL_law_261 dL_law_262 dL_law_263 (by decide) (by omega) hL rfl ?_
  refine v_arg 2 dL_law_264 dL_law_265 dL_law_266 dL_law_267 dL_law_268 (by decide) (by omega) hL rfl ?_
  refine v_arg 3 dL_law_269 dL_law_270 dL_law_271 dL_law_272 dL_law_273 (by decide) (by omega) hL rfl ?_
  obtain ⟨v, s2, hI2, hx, hm⟩ := op_about hS hI (xs (6 * j + 1)) (xs (6 * j + 2)) (xs (6 * j + 3))
  obtain ⟨x0, hX0⟩ := hS.1
  refine v_cv dL_law_274 cw_L_22 ⟨tn_X2_about, tl_X2_about⟩ rfl hX0.1 hx (by rfl) (by rfl) (Nat.le_of_ble_eq_true rfl) (Nat.le_of_ble_eq_true rfl) (Nat.le_of_ble_eq_true rfl) (by show kc + 0 ≤ 838833; omega) (by show ks + 0 ≤ 6585748; omega) rfl (fun r h q => ?_)
  obtain ⟨e, hmid⟩ := q
  subst e
  obtain ⟨y0, hM0⟩ := hmid.2
  refine v_aload_n dL_law_277 rfl rfl ?_
  refine v_arg 1 dL_law_278 dL_law_279 dL_law_280 dL_law_281 dL_law_282 (by decide) (by omega) hL rfl ?_
  refine v_arg 2 dL_law_283 dL_law_284 dL_law_285 dL_law_286 dL_law_287 (by decide) (by omega) hL rfl ?_
  refine v_arg 3 dL_law_288 dL_law_289 dL_law_290 dL_law_291 dL_law_292 (by decide) (by omega) hL rfl ?_
  refine v_cv dL_law_293 cw_L_26 ⟨tn_X3_about, tl_X3_about⟩ rfl hM0.1 (hm h hmid) (by rfl) (by rfl) (Nat.le_of_ble_eq_true rfl) (Nat.le_of_ble_eq_true rfl) (Nat.le_of_ble_eq_true rfl) (by show kc + 0 + 0 ≤ 838833; omega) (by show ks + 0 + 0 ≤ 6585748; omega) rfl (fun r2 h2 q2 => ?_)
  obtain ⟨e2, hmid2⟩ := q2
  subst e2
  exact v_icmp_eq (tgt := 916) dL_law_296 (by decide) rfl (fun _ => nx s2 h2 _ _ hI2 hmid2 (by omega) (by omega)) (fun q3 => absurd rfl q3)
theorem case_level (hL : L ≤ 3072) (hj : 6 * j + 6 ≤ L) (hS : Mid G s s hp) (hI : Inv s) (hc : kc + 3 ≤ 838833) (hs : ks + 10 ≤ 6585748) (nx : NX G nm b L xs j kc ks) : VL G nm b L xs 301 (lvL G b j) [] hp kc ks := by
  refine v_aload_n dL_law_301 rfl rfl ?_
  refine v_arg 1 dL_law_302 dL_law_303 dL_law_304 dL_law_305 dL_law_306 (by decide) (by omega) hL rfl ?_
  refine v_arg 2 dL_law_307 dL_law_308 dL_law_309 dL_law_310 dL_law_311 (by decide) (by omega) hL rfl ?_
  refine v_arg 3 dL_law_312 dL_law_313 dL_law_314 dL_law_315 dL_law_316 (by decide) (by omega) hL rfl ?_
  obtain ⟨v, s2, hI2, hx, hm⟩ := op_level hS hI (xs (6 * j + 1)) (xs (6 * j + 2)) (xs (6 * j + 3))
  obtain ⟨x0, hX0⟩ := hS.1
  refine v_cv dL_law_317 cw_L_27 ⟨tn_X2_level, tl_X2_level⟩ rfl hX0.1 hx (by rfl) (by rfl) (Nat.le_of_ble_eq_true rfl) (Nat.le_of_ble_eq_true rfl) (Nat.le_of_ble_eq_true rfl) (by show kc + 0 ≤ 838833; omega) (by show ks + 0 ≤ 6585748; omega) rfl (fun r h q => ?_)
  obtain ⟨e, hmid⟩ := q
  subst e
  obtain ⟨y0, hM0⟩ := hmid.2
  refine v_aload_n dL_law_320 rfl rfl ?_
  refine v_arg 1 dL_law_321 dL_law_322 dL_law_323 dL_law_324 dL_law_325 (by decide) (by omega) hL rfl ?_
  refine v_arg 2 dL_law_326 dL_law_327 dL_law_328 dL_law_329 dL_law_330 (by decide) (by omega) hL rfl ?_
  refine v_arg 3 dL_law_331 dL_law_332 dL_law_333 dL_law_334 dL_law_335 (by decide) (by omega) hL rfl ?_
  refine v_cv dL_law_336 cw_L_30 ⟨tn_X3_level, tl_X3_level⟩ rfl hM0.1 (hm h hmid) (by rfl) (by rfl) (Nat.le_of_ble_eq_true rfl) (Nat.le_of_ble_eq_true rfl) (Nat.le_of_ble_eq_true rfl) (by show kc + 0 + 0 ≤ 838833; omega) (by show ks + 0 + 0 ≤ 6585748; omega) rfl (fun r2 h2 q2 => ?_)
  obtain ⟨e2, hmid2⟩ := q2
  subst e2
  exact v_icmp_eq (tgt := 916) dL_law_339 (by decide) rfl (fun _ => nx s2 h2 _ _ hI2 hmid2 (by omega) (by omega)) (fun q3 => absurd rfl q3)
theorem case_sense (hL : L ≤ 3072) (hj : 6 * j + 6 ≤ L) (hS : Mid G s s hp) (hI : Inv s) (hc : kc + 3 ≤ 838833) (hs : ks + 10 ≤ 6585748) (nx : NX G nm b L xs j kc ks) : VL G nm b L xs 344 (lvL G b j) [] hp kc ks := by
  refine v_aload_n dL_law_344 rfl rfl ?_
  refine v_arg 1 dL_law_345 dL_law_346 dL_law_347 dL_law_348 dL_law_349 (by decide) (by omega) hL rfl ?_
  refine v_arg 2 dL_law_350 dL_law_351 dL_law_352 dL_law_353 dL_law_354 (by decide) (by omega) hL rfl ?_
  refine v_arg 3 dL_law_355 dL_law_356 dL_law_357 dL_law_358 dL_law_359 (by decide) (by omega) hL rfl ?_
  obtain ⟨v, s2, hI2, hx, hm⟩ := op_sense hS hI (xs (6 * j + 1)) (xs (6 * j + 2)) (xs (6 * j + 3))
  obtain ⟨x0, hX0⟩ := hS.1
  refine v_cv dL_law_360 cw_L_31 ⟨tn_X2_sense, tl_X2_sense⟩ rfl hX0.1 hx (by rfl) (by rfl) (Nat.le_of_ble_eq_true rfl) (Nat.le_of_ble_eq_true rfl) (Nat.le_of_ble_eq_true rfl) (by show kc + 0 ≤ 838833; omega) (by show ks + 0 ≤ 6585748; omega) rfl (fun r h q => ?_)
  obtain ⟨e, hmid⟩ := q
  subst e
  obtain ⟨y0, hM0⟩ := hmid.2
  refine v_aload_n dL_law_363 rfl rfl ?_
  refine v_arg 1 dL_law_364 dL_law_365 dL_law_366 dL_law_367 dL_law_368 (by decide) (by omega) hL rfl ?_
  refine v_arg 2 dL_law_369 dL_law_370 dL_law_371 dL_law_372 dL_law_373 (by decide) (by omega) hL rfl ?_
  refine v_arg 3 dL_law_374 dL_law_375 dL_law_376 dL_law_377 dL_law_378 (by decide) (by omega) hL rfl ?_
  refine v_cv dL_law_379 cw_L_34 ⟨tn_X3_sense, tl_X3_sense⟩ rfl hM0.1 (hm h hmid) (by rfl) (by rfl) (Nat.le_of_ble_eq_true rfl) (Nat.le_of_ble_eq_true rfl) (Nat.le_of_ble_eq_true rfl) (by show kc + 0 + 0 ≤ 838833; omega) (by show ks + 0 + 0 ≤ 6585748; omega) rfl (fun r2 h2 q2 => ?_)
  obtain ⟨e2, hmid2⟩ := q2
  subst e2
  exact v_icmp_eq (tgt := 916) dL_law_382 (by decide) rfl (fun _ => nx s2 h2 _ _ hI2 hmid2 (by omega) (by omega)) (fun q3 => absurd rfl q3)
theorem case_sensible (hL : L ≤ 3072) (hj : 6 * j + 6 ≤ L) (hS : Mid G s s hp) (hI : Inv s) (hc : kc + 3 ≤ 838833) (hs : ks + 10 ≤ 6585748) (nx : NX G nm b L xs j kc ks) : VL G nm b L xs 387 (lvL G b j) [] hp kc ks := by
  refine v_aload_n dL_law_387 rfl rfl ?_
  refine v_arg 1 dL_law_388 dL_law_389 dL_law_390 dL_law_391 dL_law_392 (by decide) (by omega) hL rfl ?_
  refine v_arg 2 dL_law_393 dL_law_394 dL_law_395 dL_law_396 dL_law_397 (by decide) (by omega) hL rfl ?_
  obtain ⟨v, s2, hI2, hx, hm⟩ := op_sensible hS hI (xs (6 * j + 1)) (xs (6 * j + 2))
  obtain ⟨x0, hX0⟩ := hS.1
  refine v_cv dL_law_398 cw_L_35 ⟨tn_X2_sensible, tl_X2_sensible⟩ rfl hX0.1 hx (by rfl) (by rfl) (Nat.le_of_ble_eq_true rfl) (Nat.le_of_ble_eq_true rfl) (Nat.le_of_ble_eq_true rfl) (by show kc + 0 ≤ 838833; omega) (by show ks + 0 ≤ 6585748; omega) rfl (fun r h q => ?_)
  obtain ⟨e, hmid⟩ := q
  subst e
  obtain ⟨y0, hM0⟩ := hmid.2
  refine v_aload_n dL_law_401 rfl rfl ?_
  refine v_arg 1 dL_law_402 dL_law_403 dL_law_404 dL_law_405 dL_law_406 (by decide) (by omega) hL rfl ?_
  refine v_arg 2 dL_law_407 dL_law_408 dL_law_409 dL_law_410 dL_law_411 (by decide) (by omega) hL rfl ?_
  refine v_cv dL_law_412 cw_L_39 ⟨tn_X3_sensible, tl_X3_sensible⟩ rfl hM0.1 (hm h hmid) (by rfl) (by rfl) (Nat.le_of_ble_eq_true rfl) (Nat.le_of_ble_eq_true rfl) (Nat.le_of_ble_eq_true rfl) (by show kc + 0 + 0 ≤ 838833; omega) (by show ks + 0 + 0 ≤ 6585748; omega) rfl (fun r2 h2 q2 => ?_)
  obtain ⟨e2, hmid2⟩ := q2
  subst e2
  exact v_icmp_eq (tgt := 916) dL_law_415 (by decide) rfl (fun _ => nx s2 h2 _ _ hI2 hmid2 (by omega) (by omega)) (fun q3 => absurd rfl q3)
theorem case_work (hL : L ≤ 3072) (hj : 6 * j + 6 ≤ L) (hS : Mid G s s hp) (hI : Inv s) (hc : kc + 3 ≤ 838833) (hs : ks + 10 ≤ 6585748) (nx : NX G nm b L xs j kc ks) : VL G nm b L xs 420 (lvL G b j) [] hp kc ks := by
  refine v_aload_n dL_law_420 rfl rfl ?_
  refine v_arg 1 dL_law_421 dL_law_422 dL_law_423 dL_law_424 dL_law_425 (by decide) (by omega) hL rfl ?_
  refine v_arg 2 dL_law_426 dL_law_427 dL_law_428 dL_law_429 dL_law_430 (by decide) (by omega) hL rfl ?_
  refine v_arg 3 dL_law_431 dL_law_432 dL_law_433 dL_law_434 dL_law_435 (by decide) (by omega) hL rfl ?_
  refine v_arg 4 dL_law_436 dL_law_437 dL_law_438 dL_law_439 dL_law_440 (by decide) (by omega) hL rfl ?_
  obtain ⟨v, s2, hI2, hx, hm⟩ := op_work hS hI (xs (6 * j + 1)) (xs (6 * j + 2)) (xs (6 * j + 3)) (xs (6 * j + 4))
  obtain ⟨x0, hX0⟩ := hS.1
  refine v_cv dL_law_441 cw_L_40 ⟨tn_X2_work, tl_X2_work⟩ rfl hX0.1 hx (by rfl) (by rfl) (Nat.le_of_ble_eq_true rfl) (Nat.le_of_ble_eq_true rfl) (Nat.le_of_ble_eq_true rfl) (by show kc + 3 ≤ 838833; omega) (by show ks + 10 ≤ 6585748; omega) rfl (fun r h q => ?_)
  obtain ⟨e, hmid⟩ := q
  subst e
  obtain ⟨y0, hM0⟩ := hmid.2
  refine v_aload_n dL_law_444 rfl rfl ?_
  refine v_arg 1 dL_law_445 dL_law_446 dL_law_447 dL_law_448 dL_law_449 (by decide) (by omega) hL rfl ?_
  refine v_arg 2 dL_law_450 dL_law_451 dL_law_452 dL_law_453 dL_law_454 (by decide) (by omega) hL rfl ?_
  refine v_arg 3 dL_law_455 dL_law_456 dL_law_457 dL_law_458 dL_law_459 (by decide) (by omega) hL rfl ?_
  refine v_arg 4 dL_law_460 dL_law_461 dL_law_462 dL_law_463 dL_law_464 (by decide) (by omega) hL rfl ?_
  refine v_cv dL_law_465 cw_L_44 ⟨tn_X3_work, tl_X3_work⟩ rfl hM0.1 (hm h hmid) (by rfl) (by rfl) (Nat.le_of_ble_eq_true rfl) (Nat.le_of_ble_eq_true rfl) (Nat.le_of_ble_eq_true rfl) (by show kc + 3 + 0 ≤ 838833; omega) (by show ks + 10 + 0 ≤ 6585748; omega) rfl (fun r2 h2 q2 => ?_)
  obtain ⟨e2, hmid2⟩ := q2
  subst e2
  exact v_icmp_eq (tgt := 916) dL_law_468 (by decide) rfl (fun _ => nx s2 h2 _ _ hI2 hmid2 (by omega) (by omega)) (fun q3 => absurd rfl q3)
theorem case_fact (hL : L ≤ 3072) (hj : 6 * j + 6 ≤ L) (hS : Mid G s s hp) (hI : Inv s) (hc : kc + 3 ≤ 838833) (hs : ks + 10 ≤ 6585748) (nx : NX G nm b L xs j kc ks) : VL G nm b L xs 473 (lvL G b j) [] hp kc ks := by
  refine v_aload_n dL_law_473 rfl rfl ?_
  refine v_arg 1 dL_law_474 dL_law_475 dL_law_476 dL_law_477 dL_law_478 (by decide) (by omega) hL rfl ?_
  refine v_arg 2 dL_law_479 dL_law_480 dL_law_481 dL_law_482 dL_law_483 (by decide) (by omega) hL rfl ?_
  refine v_arg 3 dL_law_484 dL_law_485 dL_law_486 dL_law_487 dL_law_488 (by decide) (by omega) hL rfl ?_
  obtain ⟨v, s2, hI2, hx, hm⟩ := op_fact hS hI (xs (6 * j + 1)) (xs (6 * j + 2)) (xs (6 * j + 3))
  obtain ⟨x0, hX0⟩ := hS.1
  refine v_cv dL_law_489 cw_L_45 ⟨tn_X2_fact, tl_X2_fact⟩ rfl hX0.1 hx (by rfl) (by rfl) (Nat.le_of_ble_eq_true rfl) (Nat.le_of_ble_eq_true rfl) (Nat.le_of_ble_eq_true rfl) (by show kc + 0 ≤ 838833; omega) (by show ks + 0 ≤ 6585748; omega) rfl (fun r h q => ?_)
  obtain ⟨e, hmid⟩ := q
  subst e
  obtain ⟨y0, hM0⟩ := hmid.2
  refine v_aload_n dL_law_492 rfl rfl ?_
  refine v_arg 1 dL_law_493 dL_law_494 dL_law_495 dL_law_496 dL_law_497 (by decide) (by omega) hL rfl ?_
  refine v_arg 2 dL_law_498 dL_law_499 dL_law_500 dL_law_501 dL_law_502 (by decide) (by omega) hL rfl ?_
  refine v_arg 3 dL_law_503 dL_law_504 dL_law_505 dL_law_506 dL_law_507 (by decide) (by omega) hL rfl ?_
  refine v_cv dL_law_508 cw_L_48 ⟨tn_X3_fact, tl_X3_fact⟩ rfl hM0.1 (hm h hmid) (by rfl) (by rfl) (Nat.le_of_ble_eq_true rfl) (Nat.le_of_ble_eq_true rfl) (Nat.le_of_ble_eq_true rfl) (by show kc + 0 + 0 ≤ 838833; omega) (by show ks + 0 + 0 ≤ 6585748; omega) rfl (fun r2 h2 q2 => ?_)
  obtain ⟨e2, hmid2⟩ := q2
  subst e2
  exact v_icmp_eq (tgt := 916) dL_law_511 (by decide) rfl (fun _ => nx s2 h2 _ _ hI2 hmid2 (by omega) (by omega)) (fun q3 => absurd rfl q3)
theorem case_points (hL : L ≤ 3072) (hj : 6 * j + 6 ≤ L) (hS : Mid G s s hp) (hI : Inv s) (hc : kc + 3 ≤ 838833) (hs : ks + 10 ≤ 6585748) (nx : NX G nm b L xs j kc ks) : VL G nm b L xs 516 (lvL G b j) [] hp kc ks := by
  refine v_aload_n dL_law_516 rfl rfl ?_
  refine v_arg 1 dL_law_517 dL_law_518 dL_law_519 dL_law_520 dL_law_521 (by decide) (by omega) hL rfl ?_
  refine v_arg 2 dL_law_522 dL_law_523 dL_law_524 dL_law_525 dL_law_526 (by decide) (by omega) hL rfl ?_
  obtain ⟨v, s2, hI2, hx, hm⟩ := op_points hS hI (xs (6 * j + 1)) (xs (6 * j + 2))
  obtain ⟨x0, hX0⟩ := hS.1
  refine v_cv dL_law_527 cw_L_49 ⟨tn_X2_points, tl_X2_points⟩ rfl hX0.1 hx (by rfl) (by rfl) (Nat.le_of_ble_eq_true rfl) (Nat.le_of_ble_eq_true rfl) (Nat.le_of_ble_eq_true rfl) (by show kc + 0 ≤ 838833; omega) (by show ks + 0 ≤ 6585748; omega) rfl (fun r h q => ?_)
  obtain ⟨e, hmid⟩ := q
  subst e
  obtain ⟨y0, hM0⟩ := hmid.2
  refine v_aload_n dL_law_530 rfl rfl ?_
  refine v_arg 1 dL_law_531 dL_law_532 dL_law_533 dL_law_534 dL_law_535 (by decide) (by omega) hL rfl ?_
  refine v_arg 2 dL_law_536 dL_law_537 dL_law_538 dL_law_539 dL_law_540 (by decide) (by omega) hL rfl ?_
  refine v_cv dL_law_541 cw_L_52 ⟨tn_X3_points, tl_X3_points⟩ rfl hM0.1 (hm h hmid) (by rfl) (by rfl) (Nat.le_of_ble_eq_true rfl) (Nat.le_of_ble_eq_true rfl) (Nat.le_of_ble_eq_true rfl) (by show kc + 0 + 0 ≤ 838833; omega) (by show ks + 0 + 0 ≤ 6585748; omega) rfl (fun r2 h2 q2 => ?_)
  obtain ⟨e2, hmid2⟩ := q2
  subst e2
  exact v_icmp_eq (tgt := 916) dL_law_544 (by decide) rfl (fun _ => nx s2 h2 _ _ hI2 hmid2 (by omega) (by omega)) (fun q3 => absurd rfl q3)
theorem case_mark (hL : L ≤ 3072) (hj : 6 * j + 6 ≤ L) (hS : Mid G s s hp) (hI : Inv s) (hc : kc + 3 ≤ 838833) (hs : ks + 10 ≤ 6585748) (nx : NX G nm b L xs j kc ks) : VL G nm b L xs 549 (lvL G b j) [] hp kc ks := by
  refine v_aload_n dL_law_549 rfl rfl ?_
  refine v_arg 1 dL_law_550 dL_law_551 dL_law_552 dL_law_553 dL_law_554 (by decide) (by omega) hL rfl ?_
  refine v_arg 2 dL_law_555 dL_law_556 dL_law_557 dL_law_558 dL_law_559 (by decide) (by omega) hL rfl ?_
  refine v_arg 3 dL_law_560 dL_law_561 dL_law_562 dL_law_563 dL_law_564 (by decide) (by omega) hL rfl ?_
  obtain ⟨v, s2, hI2, hx, hm⟩ := op_mark hS hI (xs (6 * j + 1)) (xs (6 * j + 2)) (xs (6 * j + 3))
  obtain ⟨x0, hX0⟩ := hS.1
  refine v_cv dL_law_565 cw_L_53 ⟨tn_X2_mark, tl_X2_mark⟩ rfl hX0.1 hx (by rfl) (by rfl) (Nat.le_of_ble_eq_true rfl) (Nat.le_of_ble_eq_true rfl) (Nat.le_of_ble_eq_true rfl) (by show kc + 0 ≤ 838833; omega) (by show ks + 0 ≤ 6585748; omega) rfl (fun r h q => ?_)
  obtain ⟨e, hmid⟩ := q
  subst e
  obtain ⟨y0, hM0⟩ := hmid.2
  refine v_aload_n dL_law_568 rfl rfl ?_
  refine v_arg 1 dL_law_569 dL_law_570 dL_law_571 dL_law_572 dL_law_573 (by decide) (by omega) hL rfl ?_
  refine v_arg 2 dL_law_574 dL_law_575 dL_law_576 dL_law_577 dL_law_578 (by decide) (by omega) hL rfl ?_
  refine v_arg 3 dL_law_579 dL_law_580 dL_law_581 dL_law_582 dL_law_583 (by decide) (by omega) hL rfl ?_
  refine v_cv dL_law_584 cw_L_56 ⟨tn_X3_mark, tl_X3_mark⟩ rfl hM0.1 (hm h hmid) (by rfl) (by rfl) (Nat.le_of_ble_eq_true rfl) (Nat.le_of_ble_eq_true rfl) (Nat.le_of_ble_eq_true rfl) (by show kc + 0 + 0 ≤ 838833; omega) (by show ks + 0 + 0 ≤ 6585748; omega) rfl (fun r2 h2 q2 => ?_)
  obtain ⟨e2, hmid2⟩ := q2
  subst e2
  exact v_icmp_eq (tgt := 916) dL_law_587 (by decide) rfl (fun _ => nx s2 h2 _ _ hI2 hmid2 (by omega) (by omega)) (fun q3 => absurd rfl q3)
theorem case_given (hL : L ≤ 3072) (hj : 6 * j + 6 ≤ L) (hS : Mid G s s hp) (hI : Inv s) (hc : kc + 3 ≤ 838833) (hs : ks + 10 ≤ 6585748) (nx : NX G nm b L xs j kc ks) : VL G nm b L xs 592 (lvL G b j) [] hp kc ks := by
  refine v_aload_n dL_law_592 rfl rfl ?_
  refine v_arg 1 dL_law_593 dL_law_594 dL_law_595 dL_law_596 dL_law_597 (by decide) (by omega) hL rfl ?_
  refine v_arg 2 dL_law_598 dL_law_599 dL_law_600 dL_law_601 dL_law_602 (by decide) (by omega) hL rfl ?_
  obtain ⟨v, s2, hI2, hx, hm⟩ := op_given hS hI (xs (6 * j + 1)) (xs (6 * j + 2))
  obtain ⟨x0, hX0⟩ := hS.1
  refine v_cv dL_law_603 cw_L_57 ⟨tn_X2_given, tl_X2_given⟩ rfl hX0.1 hx (by rfl) (by rfl) (Nat.le_of_ble_eq_true rfl) (Nat.le_of_ble_eq_true rfl) (Nat.le_of_ble_eq_true rfl) (by show kc + 0 ≤ 838833; omega) (by show ks + 0 ≤ 6585748; omega) rfl (fun r h q => ?_)
  obtain ⟨e, hmid⟩ := q
  subst e
  obtain ⟨y0, hM0⟩ := hmid.2
  refine v_aload_n dL_law_606 rfl rfl ?_
  refine v_arg 1 dL_law_607 dL_law_608 dL_law_609 dL_law_610 dL_law_611 (by decide) (by omega) hL rfl ?_
  refine v_arg 2 dL_law_612 dL_law_613 dL_law_614 dL_law_615 dL_law_616 (by decide) (by omega) hL rfl ?_
  refine v_cv dL_law_617 cw_L_60 ⟨tn_X3_given, tl_X3_given⟩ rfl hM0.1 (hm h hmid) (by rfl) (by rfl) (Nat.le_of_ble_eq_true rfl) (Nat.le_of_ble_eq_true rfl) (Nat.le_of_ble_eq_true rfl) (by show kc + 0 + 0 ≤ 838833; omega) (by show ks + 0 + 0 ≤ 6585748; omega) rfl (fun r2 h2 q2 => ?_)
  obtain ⟨e2, hmid2⟩ := q2
  subst e2
  exact v_icmp_eq (tgt := 916) dL_law_620 (by decide) rfl (fun _ => nx s2 h2 _ _ hI2 hmid2 (by omega) (by omega)) (fun q3 => absurd rfl q3)
theorem case_like (hL : L ≤ 3072) (hj : 6 * j + 6 ≤ L) (hS : Mid G s s hp) (hI : Inv s) (hc : kc + 3 ≤ 838833) (hs : ks + 10 ≤ 6585748) (nx : NX G nm b L xs j kc ks) : VL G nm b L xs 625 (lvL G b j) [] hp kc ks := by
  refine v_aload_n dL_law_625 rfl rfl ?_
  refine v_arg 1 dL_law_626 dL_law_627 dL_law_628 dL_law_629 dL_law_630 (by decide) (by omega) hL rfl ?_
  refine v_arg 2 dL_law_631 dL_law_632 dL_law_633 dL_law_634 dL_law_635 (by decide) (by omega) hL rfl ?_
  refine v_arg 3 dL_law_636 dL_law_637 dL_law_638 dL_law_639 dL_law_640 (by decide) (by omega) hL rfl ?_
  obtain ⟨v, s2, hI2, hx, hm⟩ := op_like hS hI (xs (6 * j + 1)) (xs (6 * j + 2)) (xs (6 * j + 3))
  obtain ⟨x0, hX0⟩ := hS.1
  refine v_cv dL_law_641 cw_L_61 ⟨tn_X2_like, tl_X2_like⟩ rfl hX0.1 hx (by rfl) (by rfl) (Nat.le_of_ble_eq_true rfl) (Nat.le_of_ble_eq_true rfl) (Nat.le_of_ble_eq_true rfl) (by show kc + 0 ≤ 838833; omega) (by show ks + 0 ≤ 6585748; omega) rfl (fun r h q => ?_)
  obtain ⟨e, hmid⟩ := q
  subst e
  obtain ⟨y0, hM0⟩ := hmid.2
  refine v_aload_n dL_law_644 rfl rfl ?_
  refine v_arg 1 dL_law_645 dL_law_646 dL_law_647 dL_law_648 dL_law_649 (by decide) (by omega) hL rfl ?_
  refine v_arg 2 dL_law_650 dL_law_651 dL_law_652 dL_law_653 dL_law_654 (by decide) (by omega) hL rfl ?_
  refine v_arg 3 dL_law_655 dL_law_656 dL_law_657 dL_law_658 dL_law_659 (by decide) (by omega) hL rfl ?_
  refine v_cv dL_law_660 cw_L_64 ⟨tn_X3_like, tl_X3_like⟩ rfl hM0.1 (hm h hmid) (by rfl) (by rfl) (Nat.le_of_ble_eq_true rfl) (Nat.le_of_ble_eq_true rfl) (Nat.le_of_ble_eq_true rfl) (by show kc + 0 + 0 ≤ 838833; omega) (by show ks + 0 + 0 ≤ 6585748; omega) rfl (fun r2 h2 q2 => ?_)
  obtain ⟨e2, hmid2⟩ := q2
  subst e2
  exact v_icmp_eq (tgt := 916) dL_law_663 (by decide) rfl (fun _ => nx s2 h2 _ _ hI2 hmid2 (by omega) (by omega)) (fun q3 => absurd rfl q3)
theorem case_parts (hL : L ≤ 3072) (hj : 6 * j + 6 ≤ L) (hS : Mid G s s hp) (hI : Inv s) (hc : kc + 3 ≤ 838833) (hs : ks + 10 ≤ 6585748) (nx : NX G nm b L xs j kc ks) : VL G nm b L xs 668 (lvL G b j) [] hp kc ks := by
  refine v_aload_n dL_law_668 rfl rfl ?_
  refine v_arg 1 dL_law_669 dL_law_670 dL_law_671 dL_law_672 dL_law_673 (by decide) (by omega) hL rfl ?_
  refine v_arg 2 dL_law_674 dL_law_675 dL_law_676 dL_law_677 dL_law_678 (by decide) (by omega) hL rfl ?_
  obtain ⟨v, s2, hI2, hx, hm⟩ := op_parts hS hI (xs (6 * j + 1)) (xs (6 * j + 2))
  obtain ⟨x0, hX0⟩ := hS.1
  refine v_cv dL_law_679 cw_L_65 ⟨tn_X2_parts, tl_X2_parts⟩ rfl hX0.1 hx (by rfl) (by rfl) (Nat.le_of_ble_eq_true rfl) (Nat.le_of_ble_eq_true rfl) (Nat.le_of_ble_eq_true rfl) (by show kc + 0 ≤ 838833; omega) (by show ks + 0 ≤ 6585748; omega) rfl (fun r h q => ?_)
  obtain ⟨e, hmid⟩ := q
  subst e
  obtain ⟨y0, hM0⟩ := hmid.2
  refine v_aload_n dL_law_682 rfl rfl ?_
  refine v_arg 1 dL_law_683 dL_law_684 dL_law_685 dL_law_686 dL_law_687 (by decide) (by omega) hL rfl ?_
  refine v_arg 2 dL_law_688 dL_law_689 dL_law_690 dL_law_691 dL_law_692 (by decide) (by omega) hL rfl ?_
  refine v_cv dL_law_693 cw_L_68 ⟨tn_X3_parts, tl_X3_parts⟩ rfl hM0.1 (hm h hmid) (by rfl) (by rfl) (Nat.le_of_ble_eq_true rfl) (Nat.le_of_ble_eq_true rfl) (Nat.le_of_ble_eq_true rfl) (by show kc + 0 + 0 ≤ 838833; omega) (by show ks + 0 + 0 ≤ 6585748; omega) rfl (fun r2 h2 q2 => ?_)
  obtain ⟨e2, hmid2⟩ := q2
  subst e2
  exact v_icmp_eq (tgt := 916) dL_law_696 (by decide) rfl (fun _ => nx s2 h2 _ _ hI2 hmid2 (by omega) (by omega)) (fun q3 => absurd rfl q3)
theorem case_anchor (hL : L ≤ 3072) (hj : 6 * j + 6 ≤ L) (hS : Mid G s s hp) (hI : Inv s) (hc : kc + 3 ≤ 838833) (hs : ks + 10 ≤ 6585748) (nx : NX G nm b L xs j kc ks) : VL G nm b L xs 701 (lvL G b j) [] hp kc ks := by
  refine v_aload_n dL_law_701 rfl rfl ?_
  refine v_arg 1 dL_law_702 dL_law_703 dL_law_704 dL_law_705 dL_law_706 (by decide) (by omega) hL rfl ?_
  refine v_arg 2 dL_law_707 dL_law_708 dL_law_709 dL_law_710 dL_law_711 (by decide) (by omega) hL rfl ?_
  obtain ⟨v, s2, hI2, hx, hm⟩ := op_anchor hS hI (xs (6 * j + 1)) (xs (6 * j + 2))
  obtain ⟨x0, hX0⟩ := hS.1
  refine v_cv dL_law_712 cw_L_69 ⟨tn_X2_anchor, tl_X2_anchor⟩ rfl hX0.1 hx (by rfl) (by rfl) (Nat.le_of_ble_eq_true rfl) (Nat.le_of_ble_eq_true rfl) (Nat.le_of_ble_eq_true rfl) (by show kc + 0 ≤ 838833; omega) (by show ks + 0 ≤ 6585748; omega) rfl (fun r h q => ?_)
  obtain ⟨e, hmid⟩ := q
  subst e
  obtain ⟨y0, hM0⟩ := hmid.2
  refine v_aload_n dL_law_715 rfl rfl ?_
  refine v_arg 1 dL_law_716 dL_law_717 dL_law_718 dL_law_719 dL_law_720 (by decide) (by omega) hL rfl ?_
  refine v_arg 2 dL_law_721 dL_law_722 dL_law_723 dL_law_724 dL_law_725 (by decide) (by omega) hL rfl ?_
  refine v_cv dL_law_726 cw_L_72 ⟨tn_X3_anchor, tl_X3_anchor⟩ rfl hM0.1 (hm h hmid) (by rfl) (by rfl) (Nat.le_of_ble_eq_true rfl) (Nat.le_of_ble_eq_true rfl) (Nat.le_of_ble_eq_true rfl) (by show kc + 0 + 0 ≤ 838833; omega) (by show ks + 0 + 0 ≤ 6585748; omega) rfl (fun r2 h2 q2 => ?_)
  obtain ⟨e2, hmid2⟩ := q2
  subst e2
  exact v_icmp_eq (tgt := 916) dL_law_729 (by decide) rfl (fun _ => nx s2 h2 _ _ hI2 hmid2 (by omega) (by omega)) (fun q3 => absurd rfl q3)
theorem case_off (hL : L ≤ 3072) (hj : 6 * j + 6 ≤ L) (hS : Mid G s s hp) (hI : Inv s) (hc : kc + 3 ≤ 838833) (hs : ks + 10 ≤ 6585748) (nx : NX G nm b L xs j kc ks) : VL G nm b L xs 734 (lvL G b j) [] hp kc ks := by
  refine v_aload_n dL_law_734 rfl rfl ?_
  refine v_arg 1 dL_law_735 dL_law_736 dL_law_737 dL_law_738 dL_law_739 (by decide) (by omega) hL rfl ?_
  refine v_arg 2 dL_law_740 dL_law_741 dL_law_742 dL_law_743 dL_law_744 (by decide) (by omega) hL rfl ?_
  obtain ⟨v, s2, hI2, hx, hm⟩ := op_off hS hI (xs (6 * j + 1)) (xs (6 * j + 2))
  obtain ⟨x0, hX0⟩ := hS.1
  refine v_cv dL_law_745 cw_L_73 ⟨tn_X2_off, tl_X2_off⟩ rfl hX0.1 hx (by rfl) (by rfl) (Nat.le_of_ble_eq_true rfl) (Nat.le_of_ble_eq_true rfl) (Nat.le_of_ble_eq_true rfl) (by show kc + 0 ≤ 838833; omega) (by show ks + 0 ≤ 6585748; omega) rfl (fun r h q => ?_)
  obtain ⟨e, hmid⟩ := q
  subst e
  obtain ⟨y0, hM0⟩ := hmid.2
  refine v_aload_n dL_law_748 rfl rfl ?_
  refine v_arg 1 dL_law_749 dL_law_750 dL_law_751 dL_law_752 dL_law_753 (by decide) (by omega) hL rfl ?_
  refine v_arg 2 dL_law_754 dL_law_755 dL_law_756 dL_law_757 dL_law_758 (by decide) (by omega) hL rfl ?_
  refine v_cv dL_law_759 cw_L_76 ⟨tn_X3_off, tl_X3_off⟩ rfl hM0.1 (hm h hmid) (by rfl) (by rfl) (Nat.le_of_ble_eq_true rfl) (Nat.le_of_ble_eq_true rfl) (Nat.le_of_ble_eq_true rfl) (by show kc + 0 + 0 ≤ 838833; omega) (by show ks + 0 + 0 ≤ 6585748; omega) rfl (fun r2 h2 q2 => ?_)
  obtain ⟨e2, hmid2⟩ := q2
  subst e2
  exact v_icmp_eq (tgt := 916) dL_law_762 (by decide) rfl (fun _ => nx s2 h2 _ _ hI2 hmid2 (by omega) (by omega)) (fun q3 => absurd rfl q3)
theorem case_fair (hL : L ≤ 3072) (hj : 6 * j + 6 ≤ L) (hS : Mid G s s hp) (hI : Inv s) (hc : kc + 3 ≤ 838833) (hs : ks + 10 ≤ 6585748) (nx : NX G nm b L xs j kc ks) : VL G nm b L xs 767 (lvL G b j) [] hp kc ks := by
  refine v_aload_n dL_law_767 rfl rfl ?_
  refine v_arg 1 dL_law_768 dL_law_769 dL_law_770 dL_law_771 dL_law_772 (by decide) (by omega) hL rfl ?_
  refine v_arg 2 dL_law_773 dL_law_774 dL_law_775 dL_law_776 dL_law_777 (by decide) (by omega) hL rfl ?_
  obtain ⟨v, s2, hI2, hx, hm⟩ := op_fair hS hI (xs (6 * j + 1)) (xs (6 * j + 2))
  obtain ⟨x0, hX0⟩ := hS.1
  refine v_cv dL_law_778 cw_L_77 ⟨tn_X2_fair, tl_X2_fair⟩ rfl hX0.1 hx (by rfl) (by rfl) (Nat.le_of_ble_eq_true rfl) (Nat.le_of_ble_eq_true rfl) (Nat.le_of_ble_eq_true rfl) (by show kc + 0 ≤ 838833; omega) (by show ks + 0 ≤ 6585748; omega) rfl (fun r h q => ?_)
  obtain ⟨e, hmid⟩ := q
  subst e
  obtain ⟨y0, hM0⟩ := hmid.2
  refine v_aload_n dL_law_781 rfl rfl ?_
  refine v_arg 1 dL_law_782 dL_law_783 dL_law_784 dL_law_785 dL_law_786 (by decide) (by omega) hL rfl ?_
  refine v_arg 2 dL_law_787 dL_law_788 dL_law_789 dL_law_790 dL_law_791 (by decide) (by omega) hL rfl ?_
  refine v_cv dL_law_792 cw_L_80 ⟨tn_X3_fair, tl_X3_fair⟩ rfl hM0.1 (hm h hmid) (by rfl) (by rfl) (Nat.le_of_ble_eq_true rfl) (Nat.le_of_ble_eq_true rfl) (Nat.le_of_ble_eq_true rfl) (by show kc + 0 + 0 ≤ 838833; omega) (by show ks + 0 + 0 ≤ 6585748; omega) rfl (fun r2 h2 q2 => ?_)
  obtain ⟨e2, hmid2⟩ := q2
  subst e2
  exact v_icmp_eq (tgt := 916) dL_law_795 (by decide) rfl (fun _ => nx s2 h2 _ _ hI2 hmid2 (by omega) (by omega)) (fun q3 => absurd rfl q3)
theorem case_drift (hL : L ≤ 3072) (hj : 6 * j + 6 ≤ L) (hS : Mid G s s hp) (hI : Inv s) (hc : kc + 3 ≤ 838833) (hs : ks + 10 ≤ 6585748) (nx : NX G nm b L xs j kc ks) : VL G nm b L xs 800 (lvL G b j) [] hp kc ks := by
  refine v_aload_n dL_law_800 rfl rfl ?_
  refine v_arg 1 dL_law_801 dL_law_802 dL_law_803 dL_law_804 dL_law_805 (by decide) (by omega) hL rfl ?_
  refine v_arg 2 dL_law_806 dL_law_807 dL_law_808 dL_law_809 dL_law_810 (by decide) (by omega) hL rfl ?_
  obtain ⟨v, s2, hI2, hx, hm⟩ := op_drift hS hI (xs (6 * j + 1)) (xs (6 * j + 2))
  obtain ⟨x0, hX0⟩ := hS.1
  refine v_cv dL_law_811 cw_L_81 ⟨tn_X2_drift, tl_X2_drift⟩ rfl hX0.1 hx (by rfl) (by rfl) (Nat.le_of_ble_eq_true rfl) (Nat.le_of_ble_eq_true rfl) (Nat.le_of_ble_eq_true rfl) (by show kc + 0 ≤ 838833; omega) (by show ks + 0 ≤ 6585748; omega) rfl (fun r h q => ?_)
  obtain ⟨e, hmid⟩ := q
  subst e
  obtain ⟨y0, hM0⟩ := hmid.2
  refine v_aload_n dL_law_814 rfl rfl ?_
  refine v_arg 1 dL_law_815 dL_law_816 dL_law_817 dL_law_818 dL_law_819 (by decide) (by omega) hL rfl ?_
  refine v_arg 2 dL_law_820 dL_law_821 dL_law_822 dL_law_823 dL_law_824 (by decide) (by omega) hL rfl ?_
  refine v_cv dL_law_825 cw_L_84 ⟨tn_X3_drift, tl_X3_drift⟩ rfl hM0.1 (hm h hmid) (by rfl) (by rfl) (Nat.le_of_ble_eq_true rfl) (Nat.le_of_ble_eq_true rfl) (Nat.le_of_ble_eq_true rfl) (by show kc + 0 + 0 ≤ 838833; omega) (by show ks + 0 + 0 ≤ 6585748; omega) rfl (fun r2 h2 q2 => ?_)
  obtain ⟨e2, hmid2⟩ := q2
  subst e2
  exact v_icmp_eq (tgt := 916) dL_law_828 (by decide) rfl (fun _ => nx s2 h2 _ _ hI2 hmid2 (by omega) (by omega)) (fun q3 => absurd rfl q3)
theorem case_moves (hL : L ≤ 3072) (hj : 6 * j + 6 ≤ L) (hS : Mid G s s hp) (hI : Inv s) (hc : kc + 3 ≤ 838833) (hs : ks + 10 ≤ 6585748) (nx : NX G nm b L xs j kc ks) : VL G nm b L xs 833 (lvL G b j) [] hp kc ks := by
  refine v_aload_n dL_law_833 rfl rfl ?_
  refine v_arg 1 dL_law_834 dL_law_835 dL_law_836 dL_law_837 dL_law_838 (by decide) (by omega) hL rfl ?_
  obtain ⟨v, s2, hI2, hx, hm⟩ := op_moves hS hI (xs (6 * j + 1))
  obtain ⟨x0, hX0⟩ := hS.1
  refine v_cv dL_law_839 cw_L_85 ⟨tn_X2_moves, tl_X2_moves⟩ rfl hX0.1 hx (by rfl) (by rfl) (Nat.le_of_ble_eq_true rfl) (Nat.le_of_ble_eq_true rfl) (Nat.le_of_ble_eq_true rfl) (by show kc + 0 ≤ 838833; omega) (by show ks + 0 ≤ 6585748; omega) rfl (fun r h q => ?_)
  obtain ⟨e, hmid⟩ := q
  subst e
  obtain ⟨y0, hM0⟩ := hmid.2
  refine v_aload_n dL_law_842 rfl rfl ?_
  refine v_arg 1 dL_law_843 dL_law_844 dL_law_845 dL_law_846 dL_law_847 (by decide) (by omega) hL rfl ?_
  refine v_cv dL_law_848 cw_L_89 ⟨tn_X3_moves, tl_X3_moves⟩ rfl hM0.1 (hm h hmid) (by rfl) (by rfl) (Nat.le_of_ble_eq_true rfl) (Nat.le_of_ble_eq_true rfl) (Nat.le_of_ble_eq_true rfl) (by show kc + 0 + 0 ≤ 838833; omega) (by show ks + 0 + 0 ≤ 6585748; omega) rfl (fun r2 h2 q2 => ?_)
  obtain ⟨e2, hmid2⟩ := q2
  subst e2
  exact v_icmp_eq (tgt := 916) dL_law_851 (by decide) rfl (fun _ => nx s2 h2 _ _ hI2 hmid2 (by omega) (by omega)) (fun q3 => absurd rfl q3)
theorem case_copy (hL : L ≤ 3072) (hj : 6 * j + 6 ≤ L) (hS : Mid G s s hp) (hI : Inv s) (hc : kc + 3 ≤ 838833) (hs : ks + 10 ≤ 6585748) (nx : NX G nm b L xs j kc ks) : VL G nm b L xs 856 (lvL G b j) [] hp kc ks := by
  refine v_aload_n dL_law_856 rfl rfl ?_
  refine v_arg 1 dL_law_857 dL_law_858 dL_law_859 dL_law_860 dL_law_861 (by decide) (by omega) hL rfl ?_
  obtain ⟨v, s2, hI2, hx, hm⟩ := op_copy hS hI (xs (6 * j + 1))
  obtain ⟨x0, hX0⟩ := hS.1
  refine v_cv dL_law_862 cw_L_90 ⟨tn_X2_copy, tl_X2_copy⟩ rfl hX0.1 hx (by rfl) (by rfl) (Nat.le_of_ble_eq_true rfl) (Nat.le_of_ble_eq_true rfl) (Nat.le_of_ble_eq_true rfl) (by show kc + 0 ≤ 838833; omega) (by show ks + 0 ≤ 6585748; omega) rfl (fun r h q => ?_)
  obtain ⟨e, hmid⟩ := q
  subst e
  obtain ⟨y0, hM0⟩ := hmid.2
  refine v_aload_n dL_law_865 rfl rfl ?_
  refine v_arg 1 dL_law_866 dL_law_867 dL_law_868 dL_law_869 dL_law_870 (by decide) (by omega) hL rfl ?_
  refine v_cv dL_law_871 cw_L_93 ⟨tn_X3_copy, tl_X3_copy⟩ rfl hM0.1 (hm h hmid) (by rfl) (by rfl) (Nat.le_of_ble_eq_true rfl) (Nat.le_of_ble_eq_true rfl) (Nat.le_of_ble_eq_true rfl) (by show kc + 0 + 0 ≤ 838833; omega) (by show ks + 0 + 0 ≤ 6585748; omega) rfl (fun r2 h2 q2 => ?_)
  obtain ⟨e2, hmid2⟩ := q2
  subst e2
  exact v_icmp_eq (tgt := 916) dL_law_874 (by decide) rfl (fun _ => nx s2 h2 _ _ hI2 hmid2 (by omega) (by omega)) (fun q3 => absurd rfl q3)
theorem case_count (hL : L ≤ 3072) (hj : 6 * j + 6 ≤ L) (hS : Mid G s s hp) (hI : Inv s) (hc : kc + 3 ≤ 838833) (hs : ks + 10 ≤ 6585748) (nx : NX G nm b L xs j kc ks) : VL G nm b L xs 879 (lvL G b j) [] hp kc ks := by
  refine v_aload_n dL_law_879 rfl rfl ?_
  refine v_arg 1 dL_law_880 dL_law_881 dL_law_882 dL_law_883 dL_law_884 (by decide) (by omega) hL rfl ?_
  obtain ⟨v, s2, hI2, hx, hm⟩ := op_count hS hI (xs (6 * j + 1))
  obtain ⟨x0, hX0⟩ := hS.1
  refine v_cv dL_law_885 cw_L_94 ⟨tn_X2_count, tl_X2_count⟩ rfl hX0.1 hx (by rfl) (by rfl) (Nat.le_of_ble_eq_true rfl) (Nat.le_of_ble_eq_true rfl) (Nat.le_of_ble_eq_true rfl) (by show kc + 0 ≤ 838833; omega) (by show ks + 0 ≤ 6585748; omega) rfl (fun r h q => ?_)
  obtain ⟨e, hmid⟩ := q
  subst e
  obtain ⟨y0, hM0⟩ := hmid.2
  refine v_aload_n dL_law_888 rfl rfl ?_
  refine v_arg 1 dL_law_889 dL_law_890 dL_law_891 dL_law_892 dL_law_893 (by decide) (by omega) hL rfl ?_
  refine v_cv dL_law_894 cw_L_97 ⟨tn_X3_count, tl_X3_count⟩ rfl hM0.1 (hm h hmid) (by rfl) (by rfl) (Nat.le_of_ble_eq_true rfl) (Nat.le_of_ble_eq_true rfl) (Nat.le_of_ble_eq_true rfl) (by show kc + 0 + 0 ≤ 838833; omega) (by show ks + 0 + 0 ≤ 6585748; omega) rfl (fun r2 h2 q2 => ?_)
  obtain ⟨e2, hmid2⟩ := q2
  subst e2
  exact v_icmp_eq (tgt := 916) dL_law_897 (by decide) rfl (fun _ => nx s2 h2 _ _ hI2 hmid2 (by omega) (by omega)) (fun q3 => absurd rfl q3)
theorem lcmp_self (x : Int64) : lg_cmp x x = 0 := by
  unfold lg_cmp
  simp
theorem case_trace (hL : L ≤ 3072) (hj : 6 * j + 6 ≤ L) (hS : Mid G s s hp) (hI : Inv s) (hc : kc + 3 ≤ 838833) (hs : ks + 10 ≤ 6585748) (nx : NX G nm b L xs j kc ks) : VL G nm b L xs 902 (lvL G b j) [] hp kc ks := by
  refine v_aload_n dL_law_902 rfl rfl ?_
  obtain ⟨⟨x0, hX0⟩, y0, hM0⟩ := hS
  refine v_cvf dL_law_903 cw_L_98 ⟨tn_X2_trace, tl_X2_trace⟩ rfl hX0.1 (x_trace G hp hX0) (by rfl) (by rfl) (Nat.le_of_ble_eq_true rfl) (Nat.le_of_ble_eq_true rfl) (Nat.le_of_ble_eq_true rfl) (by show kc + 0 ≤ 838833; omega) (by show ks + 0 ≤ 6585748; omega) rfl ?_
  refine v_aload_n dL_law_906 rfl rfl ?_
  refine v_cvf dL_law_907 cw_L_102 ⟨tn_X3_trace, tl_X3_trace⟩ rfl hM0.1 (mm_trace G hp hM0) (by rfl) (by rfl) (Nat.le_of_ble_eq_true rfl) (Nat.le_of_ble_eq_true rfl) (Nat.le_of_ble_eq_true rfl) (by show kc + 0 + 0 ≤ 838833; omega) (by show ks + 0 + 0 ≤ 6585748; omega) rfl ?_
  refine v_lcmp dL_law_910 rfl ?_
  exact v_if_eq (tgt := 916) dL_law_911 (by decide) rfl (fun _ => nx s hp _ _ hI ⟨⟨x0, hX0⟩, y0, hM0⟩ (by omega) (by omega)) (fun q3 => absurd (lcmp_self _) q3)
end LAW
