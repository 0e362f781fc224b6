/-! THE LIGHT JUDGEMENT. G: launch, class numbers, array classes, the address of the first cell that the law makes. The abstract heap hp lists all cells made since: place i lies at address o + i. V pc lv st hp: from there the machine comes to Z. -/
abbrev GG : Type := Launch × va_G × (ClassId × ClassId × ClassId) × Nat
def rmOf (d mc ms : Nat) : Room := { frames := d, cells := mc, slots := ms, locals := 48 * d }
def tbl : List Cond := lw_tbl.filter goodWord
theorem tbl_of {w : Cond} (i : Nat) (h : lw_tbl[i]? = some w) (hg : goodWord w = true) : w ∈ tbl := List.mem_filter.mpr ⟨List.mem_of_getElem? h, hg⟩
theorem tbl_good : ∀ w ∈ tbl, goodWord w = true := fun w h => (List.mem_filter.mp h).2
abbrev tysOf (G : GG) : List (ClassId × FieldType) := [(G.2.2.1.1, .int), (G.2.2.1.2.1, .object RX0), (G.2.2.1.2.2, .object RX1)]
def KK (G : GG) (U : State) : Prop := va_K G.2.1 vwCl (tysOf G) U ∧ va_AO RX0 U ∧ va_AO RX1 U
theorem KK.moved {G : GG} {u U : State} (hvm : u.vm.Alike U.vm) (h : KK G u) : KK G U := ⟨va_K.moved hvm h.1, h.2.1.moved hvm, h.2.2.moved hvm⟩
def wz : Nat → List va_E → va_W
  | _, [] => []
  | o, e :: r => (o, e) :: wz (o + 1) r
theorem wz_get : ∀ (hp : List va_E) (o i : Nat), (wz o hp)[i]? = (hp[i]?).map (fun e => (o + i, e))
  | [], o, i => by simp [wz]
  | e :: r, o, 0 => by simp [wz]
  | e :: r, o, i + 1 => by
    simp only [wz, List.getElem?_cons_succ]
    rw [wz_get r (o + 1) i, show o + 1 + i = o + (i + 1) by omega]
theorem wz_at {hp : List va_E} {o i : Nat} {e : va_E} (h : hp[i]? = some e) : (wz o hp)[i]? = some (o + i, e) := by rw [wz_get, h]; rfl
theorem wz_set : ∀ (hp : List va_E) (o i : Nat) (e : va_E), (wz o hp).set i (o + i, e) = wz o (hp.set i e)
  | [], o, i, e => by simp [wz]
  | a :: r, o, 0, e => by simp [wz]
  | a :: r, o, i + 1, e => by
    simp only [wz, List.set_cons_succ]
    rw [← wz_set r (o + 1) i e, show o + 1 + i = o + (i + 1) by omega]
theorem wz_push : ∀ (hp : List va_E) (o : Nat) (e : va_E), wz o (hp ++ [e]) = wz o hp ++ [(o + hp.length, e)]
  | [], o, e => by simp [wz]
  | a :: r, o, e => by
    simp only [wz, List.cons_append, List.length_cons]
    rw [wz_push r (o + 1) e, show o + 1 + r.length = o + (r.length + 1) by omega]
theorem wz_D (o : Nat) (hp : List va_E) : va_D (fun q => o ≤ q) (wz o hp) := by
  have key : ∀ (k : Nat) (q : Nat × va_E), (wz o hp)[k]? = some q → q.1 = o + k := by
    intro k q h
    rw [wz_get] at h
    cases hh : hp[k]? with
    | none => rw [hh] at h; cases h
    | some e => rw [hh] at h; cases h; rfl
  refine ⟨fun i j p q hi hj e => ?_, fun k q h => ?_⟩
  · have h1 := key i p hi
    have h2 := key j q hj
    omega
  · have h1 := key k q h
    show o ≤ q.1
    omega
def Wd (G : GG) (hp : List va_E) (H : Heap) : Prop := va_P G.2.1 vwCl (wz G.2.2.2 hp) H ∧ H.size = G.2.2.2 + hp.length
def Cx (G : GG) (M : MI) (p : Program) (s : State) (m : MethodId) (args : Array Value) (meth : Method) (c : Code) : Prop :=
  p.tables.exec = Jvm.exec ∧ c.code = M.2.1 ∧ c.maxLocals = M.2.2.1 ∧ meth.sig.returnType = M.2.2.2 ∧ meth.locks = false ∧ s.vm.findClass M.1.cls = some m.cls ∧ meth.name = M.1.name ∧ (∀ w ∈ tbl, w.before args s = true) ∧ KK G s ∧ G.2.2.2 ≤ s.heap.size
def lvh (ls : Array Slot) (n : Nat) (lv : List (Option Value)) : Prop := ls.size = n ∧ lv_wf ls ∧ ∀ (i : Nat) (v : Value), lv[i]? = some (some v) → ls[i]? = some (.val v) ∧ v.category = 1
def lget (lv : List (Option Value)) (i : Nat) : Option Value := (lv[i]?).bind id
theorem lget_at {ls : Array Slot} {n : Nat} {lv : List (Option Value)} (h : lvh ls n lv) {i : Nat} {v : Value} (hv : lget lv i = some v) : ls[i]? = some (.val v) := by
  refine (h.2.2 i v ?_).1
  unfold lget at hv
  cases hh : lv[i]? with
  | none => rw [hh] at hv; cases hv
  | some x => rw [hh] at hv; rw [show x = some v from hv]
/-- the pairs of a list of locals -/
def lprs : Nat → List (Option Value) → List (Nat × Value)
  | _, [] => []
  | i, none :: r => lprs (i + 1) r
  | i, some v :: r => (i, v) :: lprs (i + 1) r
theorem lprs_mem : ∀ (lv : List (Option Value)) (k i : Nat) (v : Value), lv[i]? = some (some v) → (k + i, v) ∈ lprs k lv
  | [], k, i, v, h => by simp at h
  | none :: r, k, 0, v, h => by simp at h
  | some x :: r, k, 0, v, h => by
    simp at h
    subst h
    simp [lprs]
  | none :: r, k, i + 1, v, h => by
    have := lprs_mem r (k + 1) i v (by simpa using h)
    rw [show k + 1 + i = k + (i + 1) by omega] at this
    exact this
  | some x :: r, k, i + 1, v, h => by
    have := lprs_mem r (k + 1) i v (by simpa using h)
    rw [show k + 1 + i = k + (i + 1) by omega] at this
    exact List.mem_cons_of_mem _ this
theorem lprs_of : ∀ (lv : List (Option Value)) (k j : Nat) (v : Value), (j, v) ∈ lprs k lv → k ≤ j ∧ lv[j - k]? = some (some v)
  | [], k, j, v, h => by simp [lprs] at h
  | none :: r, k, j, v, h => by
    obtain ⟨h1, h2⟩ := lprs_of r (k + 1) j v h
    refine ⟨by omega, ?_⟩
    rw [show j - k = (j - (k + 1)) + 1 by omega]
    simpa using h2
  | some x :: r, k, j, v, h => by
    rcases List.mem_cons.mp h with h | h
    · cases h
      simp
    · obtain ⟨h1, h2⟩ := lprs_of r (k + 1) j v h
      refine ⟨by omega, ?_⟩
      rw [show j - k = (j - (k + 1)) + 1 by omega]
      simpa using h2
theorem lvh_has {ls : Array Slot} {n : Nat} {lv : List (Option Value)} (h : lvh ls n lv) : lv_has ls n (lprs 0 lv) :=
  ⟨h.1, h.2.1, fun q hq => by
    obtain ⟨j, v⟩ := q
    have := (lprs_of lv 0 j v hq).2
    exact (h.2.2 j v (by simpa using this)).1⟩
theorem lvh_set {ls ls' : Array Slot} {n i : Nat} {lv : List (Option Value)} {v : Value} (h : lvh ls n lv) (hc : v.category = 1) (h' : lv_has ls' n ((i, v) :: (lprs 0 lv).filter (fun q => !(q.1 == i) && !(q.1 + 1 == i && q.2.category == 2)))) : lvh ls' n (lv.set i (some v)) := by
  refine ⟨h'.1, h'.2.1, fun j w hj => ?_⟩
  by_cases hji : j = i
  · subst hji
    have hl : j < lv.length := by
      have := (List.getElem?_eq_some_iff.mp hj).1
      simpa using this
    rw [List.getElem?_set_self hl] at hj
    cases hj
    exact ⟨h'.2.2 (j, v) List.mem_cons_self, hc⟩
  · rw [List.getElem?_set_ne (Ne.symm hji)] at hj
    obtain ⟨-, hw⟩ := h.2.2 j w hj
    refine ⟨h'.2.2 (j, w) (List.mem_cons_of_mem _ (List.mem_filter.mpr ⟨by simpa using lprs_mem lv 0 j w hj, ?_⟩)), hw⟩
    simp [hji, hw]
abbrev ZZ : Type := List Frame → Array Value → State → State → Prop
abbrev SS : Type := Array Value → State → Prop
def V (G : GG) (M : MI) (R : Room) (Z : ZZ) (S : SS) (pc : Nat) (lv : List (Option Value)) (st : List Value) (hp : List va_E) (kc ks : Nat) : Prop :=
  ∀ (p : Program) (e : Env) (s : State) (m : MethodId) (args : Array Value) (below : List Frame) (meth : Method) (c : Code) (H : Heap) (locs : List Loc) (ls : Array Slot), Cx G M p s m args meth c → S args s → Wd G hp H → va_S (fun q => G.2.2.2 ≤ q) s.heap H locs → lvh ls M.2.2.1 lv → W p G.1 e R s m args below meth c H locs kc ks (Z below args s) (F0 m pc ls st)
abbrev QQ : Type := Option Value → List va_E → Prop
def QcM (G : GG) (Q : QQ) : Array Value → State → Outcome → State → Prop := fun _ st oc t => (∃ (r : Option Value) (hp : List va_E), oc = .returned r ∧ Q r hp ∧ Wd G hp t.heap) ∧ va_F (fun q => G.2.2.2 ≤ q) st t
def Zm (G : GG) (Q : QQ) (mc ms : Nat) : ZZ := fun below args s => MQ below (QcM G Q) args s mc ms (fun q => G.2.2.2 ≤ q)
def S0 : SS := fun _ _ => True
def wsM (M : MI) : List Cond := .code M.1 M.2.1 M.2.2.1 M.2.2.2 :: tbl
def PcM (G : GG) (av : List Value) (hp : List va_E) : Array Value → State → Prop := va_Pc av (fun U => Wd G hp U.heap ∧ KK G U)
/-- a method's contract -/
def Ct (G : GG) (M : MI) (d mc ms : Nat) (av : List Value) (hp : List va_E) (Q : QQ) : Prop := Met G.1 M.1 (wsM M) (rmOf d mc ms) (PcM G av hp) (QcM G Q) mc ms (fun q => G.2.2.2 ≤ q)
/-- a method's walk, from its entry -/
abbrev Vm (G : GG) (M : MI) (d mc ms : Nat) (Q : QQ) (pc : Nat) (lv : List (Option Value)) (st : List Value) (hp : List va_E) (kc ks : Nat) : Prop := V G M (rmOf d mc ms) (Zm G Q mc ms) S0 pc lv st hp kc ks
theorem lg_cat1 : ∀ (av : List Value), (∀ v ∈ av, v.category = 1) → ∀ (k i : Nat) (v : Value), av[i]? = some v → (k + i, v) ∈ lv_args k av
  | [], _, k, i, v, h => by simp at h
  | a :: r, hc, k, 0, v, h => by
    simp at h
    subst h
    simp [lv_args]
  | a :: r, hc, k, i + 1, v, h => by
    have := lg_cat1 r (fun v hv => hc v (List.mem_cons_of_mem _ hv)) (k + 1) i v (by simpa using h)
    have ha : ¬ a.category = 2 := by rw [hc a List.mem_cons_self]; decide
    simp only [lv_args, if_neg ha]
    rw [show k + 1 + i = k + (i + 1) by omega] at this
    exact List.mem_cons_of_mem _ this
theorem Ct.of {G : GG} {M : MI} {d mc ms : Nat} {av : List Value} {hp : List va_E} {Q : QQ} {lv : List (Option Value)} (hy : plainFor M.1 = true) (hc : av.all (fun v => v.category == 1) = true) (hn : (lg_sl av).length ≤ M.2.2.1) (hlv : ∀ (i : Nat) (v : Value), lv[i]? = some (some v) → av[i]? = some v) (h : Vm G M d mc ms Q 0 lv [] hp 0 0) : Ct G M d mc ms av hp Q := by
  refine va_MetF (cc := M.2.1) (maxL := M.2.2.1) (ret := M.2.2.2) hy rfl ?_
  intro p e s m args below meth c s₁ B hml hv
  obtain ⟨rfl, hw, hK⟩ := hv
  have hts := atoms_spec (ws := wsM M) B.pre
  have hown : s.vm.findClass M.1.cls = some m.cls := findClass_of_methodNamed B.named
  have hin : meth.name = M.1.name := (name_of_methodNamed B.named B.method).1
  have hc1 : ∀ v ∈ av, v.category = 1 := fun v hv => by simpa using List.all_eq_true.mp hc v hv
  have hl := lv_entry av (n := M.2.2.1) hn
  rw [lg_entry_eq]
  generalize (lg_sl av ++ List.replicate (M.2.2.1 - (lg_sl av).length) Slot.unset).toArray = ls at hl ⊢
  refine h p e s m av.toArray below meth c s.heap [] ls ⟨B.exec, B.bytes, hml, B.returns, B.notSynchronized, hown, hin, fun w hw => hts w (List.mem_cons_of_mem _ hw), hK, by have := hw.2; omega⟩ trivial hw va_S.rf ⟨hl.1, hl.2.1, fun i v hi => ?_⟩
  have h1 := hlv i v hi
  refine ⟨hl.2.2 (i, v) ?_, hc1 v (List.mem_of_getElem? h1)⟩
  simpa using lg_cat1 av hc1 0 i v h1
section LIGHT
variable {G : GG} {M : MI} {R : Room} {Z : ZZ} {S : SS} {pc pc' tgt : Nat} {lv : List (Option Value)} {st : List Value} {hp : List va_E} {kc ks : Nat}

theorem v_iconst {n : Int} {v : Int32} (hd : decode M.2.1 pc = .ok (.iconst n, 1)) (hv : Int32.ofInt n = v) (hn : pc + 1 = pc') (k : V G M R Z S pc' lv (.int v :: st) hp kc ks) : V G M R Z S pc lv (st) hp kc ks := by
  subst hn
  intro p e s m args below meth c H locs ls C hs hw hS hl
  exact lv_iconst C.1 C.2.1 hd hv (k p e s m args below meth c H locs ls C hs hw hS hl)

theorem v_bipush {n : Int} {v : Int32} (hd : decode M.2.1 pc = .ok (.bipush n, 2)) (hv : (Int8.ofInt n).toInt32 = v) (hn : pc + 2 = pc') (k : V G M R Z S pc' lv (.int v :: st) hp kc ks) : V G M R Z S pc lv (st) hp kc ks := by
  subst hn
  intro p e s m args below meth c H locs ls C hs hw hS hl
  exact lv_bipush C.1 C.2.1 hd hv (k p e s m args below meth c H locs ls C hs hw hS hl)

theorem v_sipush {n : Int} {v : Int32} (hd : decode M.2.1 pc = .ok (.sipush n, 3)) (hv : (Int16.ofInt n).toInt32 = v) (hn : pc + 3 = pc') (k : V G M R Z S pc' lv (.int v :: st) hp kc ks) : V G M R Z S pc lv (st) hp kc ks := by
  subst hn
  intro p e s m args below meth c H locs ls C hs hw hS hl
  exact lv_sipush C.1 C.2.1 hd hv (k p e s m args below meth c H locs ls C hs hw hS hl)

theorem v_lconst {n : Fin 2} {v : Int64} (hd : decode M.2.1 pc = .ok (.lconst n, 1)) (hv : Int64.ofNat (n : Nat) = v) (hn : pc + 1 = pc') (k : V G M R Z S pc' lv (.long v :: st) hp kc ks) : V G M R Z S pc lv (st) hp kc ks := by
  subst hn
  intro p e s m args below meth c H locs ls C hs hw hS hl
  exact lv_lconst C.1 C.2.1 hd hv (k p e s m args below meth c H locs ls C hs hw hS hl)

theorem v_null  (hd : decode M.2.1 pc = .ok (.aconst_null, 1))  (hn : pc + 1 = pc') (k : V G M R Z S pc' lv (.null :: st) hp kc ks) : V G M R Z S pc lv (st) hp kc ks := by
  subst hn
  intro p e s m args below meth c H locs ls C hs hw hS hl
  exact lv_null C.1 C.2.1 hd (k p e s m args below meth c H locs ls C hs hw hS hl)

theorem v_iload_n {n : Fin 4} {x : Int32} (hd : decode M.2.1 pc = .ok (.iload_n n, 1)) (hv : lget lv (n : Nat) = some (.int x)) (hn : pc + 1 = pc') (k : V G M R Z S pc' lv (.int x :: st) hp kc ks) : V G M R Z S pc lv (st) hp kc ks := by
  subst hn
  intro p e s m args below meth c H locs ls C hs hw hS hl
  exact lv_iload_n C.1 C.2.1 hd rfl (lget_at hl hv) (k p e s m args below meth c H locs ls C hs hw hS hl)

theorem v_iload {n : Nat} {x : Int32} (hd : decode M.2.1 pc = .ok (.iload n, 2)) (hv : lget lv n = some (.int x)) (hn : pc + 2 = pc') (k : V G M R Z S pc' lv (.int x :: st) hp kc ks) : V G M R Z S pc lv (st) hp kc ks := by
  subst hn
  intro p e s m args below meth c H locs ls C hs hw hS hl
  exact lv_iload C.1 C.2.1 hd (lget_at hl hv) (k p e s m args below meth c H locs ls C hs hw hS hl)

theorem v_aload_n {n : Fin 4} {x : Nat} (hd : decode M.2.1 pc = .ok (.aload_n n, 1)) (hv : lget lv (n : Nat) = some (.ref x)) (hn : pc + 1 = pc') (k : V G M R Z S pc' lv (.ref x :: st) hp kc ks) : V G M R Z S pc lv (st) hp kc ks := by
  subst hn
  intro p e s m args below meth c H locs ls C hs hw hS hl
  exact lv_aload_n C.1 C.2.1 hd rfl (lget_at hl hv) (k p e s m args below meth c H locs ls C hs hw hS hl)

theorem v_aload {n : Nat} {x : Nat} (hd : decode M.2.1 pc = .ok (.aload n, 2)) (hv : lget lv n = some (.ref x)) (hn : pc + 2 = pc') (k : V G M R Z S pc' lv (.ref x :: st) hp kc ks) : V G M R Z S pc lv (st) hp kc ks := by
  subst hn
  intro p e s m args below meth c H locs ls C hs hw hS hl
  exact lv_aload C.1 C.2.1 hd (lget_at hl hv) (k p e s m args below meth c H locs ls C hs hw hS hl)

theorem v_aload_nN {n : Fin 4} (hd : decode M.2.1 pc = .ok (.aload_n n, 1)) (hv : lget lv (n : Nat) = some .null) (hn : pc + 1 = pc') (k : V G M R Z S pc' lv (.null :: st) hp kc ks) : V G M R Z S pc lv (st) hp kc ks := by
  subst hn
  intro p e s m args below meth c H locs ls C hs hw hS hl
  exact lv_aload_nN C.1 C.2.1 hd rfl (lget_at hl hv) (k p e s m args below meth c H locs ls C hs hw hS hl)

theorem v_aloadN {n : Nat} (hd : decode M.2.1 pc = .ok (.aload n, 2)) (hv : lget lv n = some .null) (hn : pc + 2 = pc') (k : V G M R Z S pc' lv (.null :: st) hp kc ks) : V G M R Z S pc lv (st) hp kc ks := by
  subst hn
  intro p e s m args below meth c H locs ls C hs hw hS hl
  exact lv_aloadN C.1 C.2.1 hd (lget_at hl hv) (k p e s m args below meth c H locs ls C hs hw hS hl)

theorem v_iadd {x y : Int32} (hd : decode M.2.1 pc = .ok (.iadd, 1))  (hn : pc + 1 = pc') (k : V G M R Z S pc' lv (.int (x + y) :: st) hp kc ks) : V G M R Z S pc lv (.int y :: .int x :: st) hp kc ks := by
  subst hn
  intro p e s m args below meth c H locs ls C hs hw hS hl
  exact lv_iadd C.1 C.2.1 hd (k p e s m args below meth c H locs ls C hs hw hS hl)

theorem v_isub {x y : Int32} (hd : decode M.2.1 pc = .ok (.isub, 1))  (hn : pc + 1 = pc') (k : V G M R Z S pc' lv (.int (x - y) :: st) hp kc ks) : V G M R Z S pc lv (.int y :: .int x :: st) hp kc ks := by
  subst hn
  intro p e s m args below meth c H locs ls C hs hw hS hl
  exact lv_isub C.1 C.2.1 hd (k p e s m args below meth c H locs ls C hs hw hS hl)

theorem v_imul {x y : Int32} (hd : decode M.2.1 pc = .ok (.imul, 1))  (hn : pc + 1 = pc') (k : V G M R Z S pc' lv (.int (x * y) :: st) hp kc ks) : V G M R Z S pc lv (.int y :: .int x :: st) hp kc ks := by
  subst hn
  intro p e s m args below meth c H locs ls C hs hw hS hl
  exact lv_imul C.1 C.2.1 hd (k p e s m args below meth c H locs ls C hs hw hS hl)

theorem v_iand {x y : Int32} (hd : decode M.2.1 pc = .ok (.iand, 1))  (hn : pc + 1 = pc') (k : V G M R Z S pc' lv (.int (x &&& y) :: st) hp kc ks) : V G M R Z S pc lv (.int y :: .int x :: st) hp kc ks := by
  subst hn
  intro p e s m args below meth c H locs ls C hs hw hS hl
  exact lv_iand C.1 C.2.1 hd (k p e s m args below meth c H locs ls C hs hw hS hl)

theorem v_ior {x y : Int32} (hd : decode M.2.1 pc = .ok (.ior, 1))  (hn : pc + 1 = pc') (k : V G M R Z S pc' lv (.int (x ||| y) :: st) hp kc ks) : V G M R Z S pc lv (.int y :: .int x :: st) hp kc ks := by
  subst hn
  intro p e s m args below meth c H locs ls C hs hw hS hl
  exact lv_ior C.1 C.2.1 hd (k p e s m args below meth c H locs ls C hs hw hS hl)

theorem v_ixor {x y : Int32} (hd : decode M.2.1 pc = .ok (.ixor, 1))  (hn : pc + 1 = pc') (k : V G M R Z S pc' lv (.int (x ^^^ y) :: st) hp kc ks) : V G M R Z S pc lv (.int y :: .int x :: st) hp kc ks := by
  subst hn
  intro p e s m args below meth c H locs ls C hs hw hS hl
  exact lv_ixor C.1 C.2.1 hd (k p e s m args below meth c H locs ls C hs hw hS hl)

theorem v_ishl {x y : Int32} (hd : decode M.2.1 pc = .ok (.ishl, 1))  (hn : pc + 1 = pc') (k : V G M R Z S pc' lv (.int (x <<< (y &&& 31)) :: st) hp kc ks) : V G M R Z S pc lv (.int y :: .int x :: st) hp kc ks := by
  subst hn
  intro p e s m args below meth c H locs ls C hs hw hS hl
  exact lv_ishl C.1 C.2.1 hd (k p e s m args below meth c H locs ls C hs hw hS hl)

theorem v_idiv {x y : Int32} (hd : decode M.2.1 pc = .ok (.idiv, 1)) (hne : ¬ y = 0) (hn : pc + 1 = pc') (k : V G M R Z S pc' lv (.int (x / y) :: st) hp kc ks) : V G M R Z S pc lv (.int y :: .int x :: st) hp kc ks := by
  subst hn
  intro p e s m args below meth c H locs ls C hs hw hS hl
  exact lv_idiv C.1 C.2.1 hd hne (k p e s m args below meth c H locs ls C hs hw hS hl)

theorem v_irem {x y : Int32} (hd : decode M.2.1 pc = .ok (.irem, 1)) (hne : ¬ y = 0) (hn : pc + 1 = pc') (k : V G M R Z S pc' lv (.int (x - x / y * y) :: st) hp kc ks) : V G M R Z S pc lv (.int y :: .int x :: st) hp kc ks := by
  subst hn
  intro p e s m args below meth c H locs ls C hs hw hS hl
  exact lv_irem C.1 C.2.1 hd hne (k p e s m args below meth c H locs ls C hs hw hS hl)

theorem v_ineg {x : Int32} (hd : decode M.2.1 pc = .ok (.ineg, 1))  (hn : pc + 1 = pc') (k : V G M R Z S pc' lv (.int (-x) :: st) hp kc ks) : V G M R Z S pc lv (.int x :: st) hp kc ks := by
  subst hn
  intro p e s m args below meth c H locs ls C hs hw hS hl
  exact lv_ineg C.1 C.2.1 hd (k p e s m args below meth c H locs ls C hs hw hS hl)

theorem v_ladd {x y : Int64} (hd : decode M.2.1 pc = .ok (.ladd, 1))  (hn : pc + 1 = pc') (k : V G M R Z S pc' lv (.long (x + y) :: st) hp kc ks) : V G M R Z S pc lv (.long y :: .long x :: st) hp kc ks := by
  subst hn
  intro p e s m args below meth c H locs ls C hs hw hS hl
  exact lv_ladd C.1 C.2.1 hd (k p e s m args below meth c H locs ls C hs hw hS hl)

theorem v_lcmp {x y : Int64} (hd : decode M.2.1 pc = .ok (.lcmp, 1))  (hn : pc + 1 = pc') (k : V G M R Z S pc' lv (.int (lg_cmp x y) :: st) hp kc ks) : V G M R Z S pc lv (.long y :: .long x :: st) hp kc ks := by
  subst hn
  intro p e s m args below meth c H locs ls C hs hw hS hl
  exact W.lcmp C.1 C.2.1 hd (k p e s m args below meth c H locs ls C hs hw hS hl)

theorem v_i2l {x : Int32} (hd : decode M.2.1 pc = .ok (.i2l, 1))  (hn : pc + 1 = pc') (k : V G M R Z S pc' lv (.long x.toInt64 :: st) hp kc ks) : V G M R Z S pc lv (.int x :: st) hp kc ks := by
  subst hn
  intro p e s m args below meth c H locs ls C hs hw hS hl
  exact lv_i2l C.1 C.2.1 hd rfl (k p e s m args below meth c H locs ls C hs hw hS hl)

theorem v_dup {v : Value} (hd : decode M.2.1 pc = .ok (.dup, 1)) (hv : v.category = 1) (hn : pc + 1 = pc') (k : V G M R Z S pc' lv (v :: v :: st) hp kc ks) : V G M R Z S pc lv (v :: st) hp kc ks := by
  subst hn
  intro p e s m args below meth c H locs ls C hs hw hS hl
  exact lv_dup C.1 C.2.1 hd hv (k p e s m args below meth c H locs ls C hs hw hS hl)

theorem v_pop {v : Value} (hd : decode M.2.1 pc = .ok (.pop, 1)) (hv : v.category = 1) (hn : pc + 1 = pc') (k : V G M R Z S pc' lv (st) hp kc ks) : V G M R Z S pc lv (v :: st) hp kc ks := by
  subst hn
  intro p e s m args below meth c H locs ls C hs hw hS hl
  exact lv_pop C.1 C.2.1 hd hv (k p e s m args below meth c H locs ls C hs hw hS hl)

theorem v_ldc2 {n : Nat} {v : Int64} (hd : decode M.2.1 pc = .ok (.ldc2_w n, 3)) (hc : Cond.constantLong M.1.cls n v ∈ tbl) (hn : pc + 3 = pc') (k : V G M R Z S pc' lv (.long v :: st) hp kc ks) : V G M R Z S pc lv (st) hp kc ks := by
  subst hn
  intro p e s m args below meth c H locs ls C hs hw hS hl
  exact lv_ldc2 C.1 C.2.1 C.2.2.2.2.2.1 (C.2.2.2.2.2.2.2.1 _ hc) hd (k p e s m args below meth c H locs ls C hs hw hS hl)

theorem v_istore_n {n : Fin 4} {x : Int32} (hd : decode M.2.1 pc = .ok (.istore_n n, 1)) (hi : (n : Nat) < M.2.2.1) (hn : pc + 1 = pc') (k : V G M R Z S pc' (lv.set (n : Nat) (some (.int x))) st hp kc ks) : V G M R Z S pc lv (.int x :: st) hp kc ks := by
  subst hn
  intro p e s m args below meth c H locs ls C hs hw hS hl
  exact lv_istore_n C.1 C.2.1 hd rfl (lvh_has hl) hi rfl (fun ls' hl' => k p e s m args below meth c H locs ls' C hs hw hS (lvh_set hl rfl hl'))

theorem v_istore {n : Nat} {x : Int32} (hd : decode M.2.1 pc = .ok (.istore n, 2)) (hi : n < M.2.2.1) (hn : pc + 2 = pc') (k : V G M R Z S pc' (lv.set n (some (.int x))) st hp kc ks) : V G M R Z S pc lv (.int x :: st) hp kc ks := by
  subst hn
  intro p e s m args below meth c H locs ls C hs hw hS hl
  exact lv_istore C.1 C.2.1 hd (lvh_has hl) hi rfl (fun ls' hl' => k p e s m args below meth c H locs ls' C hs hw hS (lvh_set hl rfl hl'))

theorem v_astore_n {n : Fin 4} {x : Nat} (hd : decode M.2.1 pc = .ok (.astore_n n, 1)) (hi : (n : Nat) < M.2.2.1) (hn : pc + 1 = pc') (k : V G M R Z S pc' (lv.set (n : Nat) (some (.ref x))) st hp kc ks) : V G M R Z S pc lv (.ref x :: st) hp kc ks := by
  subst hn
  intro p e s m args below meth c H locs ls C hs hw hS hl
  exact lv_astore_n C.1 C.2.1 hd rfl (lvh_has hl) hi rfl (fun ls' hl' => k p e s m args below meth c H locs ls' C hs hw hS (lvh_set hl rfl hl'))

theorem v_astore {n : Nat} {x : Nat} (hd : decode M.2.1 pc = .ok (.astore n, 2)) (hi : n < M.2.2.1) (hn : pc + 2 = pc') (k : V G M R Z S pc' (lv.set n (some (.ref x))) st hp kc ks) : V G M R Z S pc lv (.ref x :: st) hp kc ks := by
  subst hn
  intro p e s m args below meth c H locs ls C hs hw hS hl
  exact lv_astore C.1 C.2.1 hd (lvh_has hl) hi rfl (fun ls' hl' => k p e s m args below meth c H locs ls' C hs hw hS (lvh_set hl rfl hl'))

theorem v_astore_nN {n : Fin 4} (hd : decode M.2.1 pc = .ok (.astore_n n, 1)) (hi : (n : Nat) < M.2.2.1) (hn : pc + 1 = pc') (k : V G M R Z S pc' (lv.set (n : Nat) (some (.null))) st hp kc ks) : V G M R Z S pc lv (.null :: st) hp kc ks := by
  subst hn
  intro p e s m args below meth c H locs ls C hs hw hS hl
  exact lv_astore_nN C.1 C.2.1 hd rfl (lvh_has hl) hi rfl (fun ls' hl' => k p e s m args below meth c H locs ls' C hs hw hS (lvh_set hl rfl hl'))

theorem v_astoreN {n : Nat} (hd : decode M.2.1 pc = .ok (.astore n, 2)) (hi : n < M.2.2.1) (hn : pc + 2 = pc') (k : V G M R Z S pc' (lv.set n (some (.null))) st hp kc ks) : V G M R Z S pc lv (.null :: st) hp kc ks := by
  subst hn
  intro p e s m args below meth c H locs ls C hs hw hS hl
  exact lv_astoreN C.1 C.2.1 hd (lvh_has hl) hi rfl (fun ls' hl' => k p e s m args below meth c H locs ls' C hs hw hS (lvh_set hl rfl hl'))

theorem v_iinc {i : Nat} {n : Int} {x v : Int32} (hd : decode M.2.1 pc = .ok (.iinc i n, 3)) (hx : lget lv i = some (.int x)) (hv : x + Int32.ofInt n = v) (hi : i < M.2.2.1) (hn : pc + 3 = pc') (k : V G M R Z S pc' (lv.set i (some (.int v))) st hp kc ks) : V G M R Z S pc lv st hp kc ks := by
  subst hn
  intro p e s m args below meth c H locs ls C hs hw hS hl
  have hm : (i, Value.int x) ∈ lprs 0 lv := by
    have h1 : lv[i]? = some (some (.int x)) := by
      unfold lget at hx
      cases hh : lv[i]? with
      | none => rw [hh] at hx; cases hx
      | some z => rw [hh] at hx; rw [show z = some _ from hx]
    simpa using lprs_mem lv 0 i _ h1
  obtain ⟨q, hq⟩ := List.getElem?_of_mem hm
  exact lv_iinc C.1 C.2.1 hd (lvh_has hl) hq hv hi rfl (fun ls' hl' => k p e s m args below meth c H locs ls' C hs hw hS (lvh_set hl rfl hl'))

theorem v_if_eq {x : Int32} {off : Int} (hd : decode M.2.1 pc = .ok (.ifCond .eq off, 3)) (ht : (pc : Int) + off = (tgt : Int)) (hn : pc + 3 = pc') (kt : x = 0 → V G M R Z S tgt lv st hp kc ks) (kf : ¬ x = 0 → V G M R Z S pc' lv st hp kc ks) : V G M R Z S pc lv (.int x :: st) hp kc ks := by
  subst hn
  intro p e s m args below meth c H locs ls C hs hw hS hl
  exact lv_if_eq C.1 C.2.1 hd ht (fun q => kt q p e s m args below meth c H locs ls C hs hw hS hl) (fun q => kf q p e s m args below meth c H locs ls C hs hw hS hl)

theorem v_icmp_eq {x y : Int32} {off : Int} (hd : decode M.2.1 pc = .ok (.if_icmp .eq off, 3)) (ht : (pc : Int) + off = (tgt : Int)) (hn : pc + 3 = pc') (kt : x = y → V G M R Z S tgt lv st hp kc ks) (kf : ¬ x = y → V G M R Z S pc' lv st hp kc ks) : V G M R Z S pc lv (.int y :: .int x :: st) hp kc ks := by
  subst hn
  intro p e s m args below meth c H locs ls C hs hw hS hl
  exact lv_icmp_eq C.1 C.2.1 hd ht (fun q => kt q p e s m args below meth c H locs ls C hs hw hS hl) (fun q => kf q p e s m args below meth c H locs ls C hs hw hS hl)

theorem v_if_ne {x : Int32} {off : Int} (hd : decode M.2.1 pc = .ok (.ifCond .ne off, 3)) (ht : (pc : Int) + off = (tgt : Int)) (hn : pc + 3 = pc') (kt : ¬ x = 0 → V G M R Z S tgt lv st hp kc ks) (kf : x = 0 → V G M R Z S pc' lv st hp kc ks) : V G M R Z S pc lv (.int x :: st) hp kc ks := by
  subst hn
  intro p e s m args below meth c H locs ls C hs hw hS hl
  exact lv_if_ne C.1 C.2.1 hd ht (fun q => kt q p e s m args below meth c H locs ls C hs hw hS hl) (fun q => kf q p e s m args below meth c H locs ls C hs hw hS hl)

theorem v_icmp_ne {x y : Int32} {off : Int} (hd : decode M.2.1 pc = .ok (.if_icmp .ne off, 3)) (ht : (pc : Int) + off = (tgt : Int)) (hn : pc + 3 = pc') (kt : ¬ x = y → V G M R Z S tgt lv st hp kc ks) (kf : x = y → V G M R Z S pc' lv st hp kc ks) : V G M R Z S pc lv (.int y :: .int x :: st) hp kc ks := by
  subst hn
  intro p e s m args below meth c H locs ls C hs hw hS hl
  exact lv_icmp_ne C.1 C.2.1 hd ht (fun q => kt q p e s m args below meth c H locs ls C hs hw hS hl) (fun q => kf q p e s m args below meth c H locs ls C hs hw hS hl)

theorem v_if_lt {x : Int32} {off : Int} (hd : decode M.2.1 pc = .ok (.ifCond .lt off, 3)) (ht : (pc : Int) + off = (tgt : Int)) (hn : pc + 3 = pc') (kt : x < 0 → V G M R Z S tgt lv st hp kc ks) (kf : ¬ x < 0 → V G M R Z S pc' lv st hp kc ks) : V G M R Z S pc lv (.int x :: st) hp kc ks := by
  subst hn
  intro p e s m args below meth c H locs ls C hs hw hS hl
  exact lv_if_lt C.1 C.2.1 hd ht (fun q => kt q p e s m args below meth c H locs ls C hs hw hS hl) (fun q => kf q p e s m args below meth c H locs ls C hs hw hS hl)

theorem v_icmp_lt {x y : Int32} {off : Int} (hd : decode M.2.1 pc = .ok (.if_icmp .lt off, 3)) (ht : (pc : Int) + off = (tgt : Int)) (hn : pc + 3 = pc') (kt : x < y → V G M R Z S tgt lv st hp kc ks) (kf : ¬ x < y → V G M R Z S pc' lv st hp kc ks) : V G M R Z S pc lv (.int y :: .int x :: st) hp kc ks := by
  subst hn
  intro p e s m args below meth c H locs ls C hs hw hS hl
  exact lv_icmp_lt C.1 C.2.1 hd ht (fun q => kt q p e s m args below meth c H locs ls C hs hw hS hl) (fun q => kf q p e s m args below meth c H locs ls C hs hw hS hl)

theorem v_if_ge {x : Int32} {off : Int} (hd : decode M.2.1 pc = .ok (.ifCond .ge off, 3)) (ht : (pc : Int) + off = (tgt : Int)) (hn : pc + 3 = pc') (kt : 0 ≤ x → V G M R Z S tgt lv st hp kc ks) (kf : ¬ 0 ≤ x → V G M R Z S pc' lv st hp kc ks) : V G M R Z S pc lv (.int x :: st) hp kc ks := by
  subst hn
  intro p e s m args below meth c H locs ls C hs hw hS hl
  exact lv_if_ge C.1 C.2.1 hd ht (fun q => kt q p e s m args below meth c H locs ls C hs hw hS hl) (fun q => kf q p e s m args below meth c H locs ls C hs hw hS hl)

theorem v_icmp_ge {x y : Int32} {off : Int} (hd : decode M.2.1 pc = .ok (.if_icmp .ge off, 3)) (ht : (pc : Int) + off = (tgt : Int)) (hn : pc + 3 = pc') (kt : y ≤ x → V G M R Z S tgt lv st hp kc ks) (kf : ¬ y ≤ x → V G M R Z S pc' lv st hp kc ks) : V G M R Z S pc lv (.int y :: .int x :: st) hp kc ks := by
  subst hn
  intro p e s m args below meth c H locs ls C hs hw hS hl
  exact lv_icmp_ge C.1 C.2.1 hd ht (fun q => kt q p e s m args below meth c H locs ls C hs hw hS hl) (fun q => kf q p e s m args below meth c H locs ls C hs hw hS hl)

theorem v_if_gt {x : Int32} {off : Int} (hd : decode M.2.1 pc = .ok (.ifCond .gt off, 3)) (ht : (pc : Int) + off = (tgt : Int)) (hn : pc + 3 = pc') (kt : 0 < x → V G M R Z S tgt lv st hp kc ks) (kf : ¬ 0 < x → V G M R Z S pc' lv st hp kc ks) : V G M R Z S pc lv (.int x :: st) hp kc ks := by
  subst hn
  intro p e s m args below meth c H locs ls C hs hw hS hl
  exact lv_if_gt C.1 C.2.1 hd ht (fun q => kt q p e s m args below meth c H locs ls C hs hw hS hl) (fun q => kf q p e s m args below meth c H locs ls C hs hw hS hl)

theorem v_icmp_gt {x y : Int32} {off : Int} (hd : decode M.2.1 pc = .ok (.if_icmp .gt off, 3)) (ht : (pc : Int) + off = (tgt : Int)) (hn : pc + 3 = pc') (kt : y < x → V G M R Z S tgt lv st hp kc ks) (kf : ¬ y < x → V G M R Z S pc' lv st hp kc ks) : V G M R Z S pc lv (.int y :: .int x :: st) hp kc ks := by
  subst hn
  intro p e s m args below meth c H locs ls C hs hw hS hl
  exact lv_icmp_gt C.1 C.2.1 hd ht (fun q => kt q p e s m args below meth c H locs ls C hs hw hS hl) (fun q => kf q p e s m args below meth c H locs ls C hs hw hS hl)

theorem v_if_le {x : Int32} {off : Int} (hd : decode M.2.1 pc = .ok (.ifCond .le off, 3)) (ht : (pc : Int) + off = (tgt : Int)) (hn : pc + 3 = pc') (kt : x ≤ 0 → V G M R Z S tgt lv st hp kc ks) (kf : ¬ x ≤ 0 → V G M R Z S pc' lv st hp kc ks) : V G M R Z S pc lv (.int x :: st) hp kc ks := by
  subst hn
  intro p e s m args below meth c H locs ls C hs hw hS hl
  exact lv_if_le C.1 C.2.1 hd ht (fun q => kt q p e s m args below meth c H locs ls C hs hw hS hl) (fun q => kf q p e s m args below meth c H locs ls C hs hw hS hl)

theorem v_icmp_le {x y : Int32} {off : Int} (hd : decode M.2.1 pc = .ok (.if_icmp .le off, 3)) (ht : (pc : Int) + off = (tgt : Int)) (hn : pc + 3 = pc') (kt : x ≤ y → V G M R Z S tgt lv st hp kc ks) (kf : ¬ x ≤ y → V G M R Z S pc' lv st hp kc ks) : V G M R Z S pc lv (.int y :: .int x :: st) hp kc ks := by
  subst hn
  intro p e s m args below meth c H locs ls C hs hw hS hl
  exact lv_icmp_le C.1 C.2.1 hd ht (fun q => kt q p e s m args below meth c H locs ls C hs hw hS hl) (fun q => kf q p e s m args below meth c H locs ls C hs hw hS hl)

theorem v_goto {off : Int} (hd : decode M.2.1 pc = .ok (.goto off, 3)) (ht : (pc : Int) + off = (tgt : Int)) (k : V G M R Z S tgt lv st hp kc ks) : V G M R Z S pc lv st hp kc ks := by
  intro p e s m args below meth c H locs ls C hs hw hS hl
  exact lv_goto C.1 C.2.1 hd ht (k p e s m args below meth c H locs ls C hs hw hS hl)

theorem v_ifnullN {off : Int} (hd : decode M.2.1 pc = .ok (.ifnull off, 3)) (ht : (pc : Int) + off = (tgt : Int)) (k : V G M R Z S tgt lv st hp kc ks) : V G M R Z S pc lv (.null :: st) hp kc ks := by
  intro p e s m args below meth c H locs ls C hs hw hS hl
  exact lv_ifnullN C.1 C.2.1 hd ht (k p e s m args below meth c H locs ls C hs hw hS hl)

theorem v_ifnonnull {off : Int} {x : Nat} (hd : decode M.2.1 pc = .ok (.ifnonnull off, 3)) (ht : (pc : Int) + off = (tgt : Int)) (k : V G M R Z S tgt lv st hp kc ks) : V G M R Z S pc lv (.ref x :: st) hp kc ks := by
  intro p e s m args below meth c H locs ls C hs hw hS hl
  exact lv_ifnonnull C.1 C.2.1 hd ht (k p e s m args below meth c H locs ls C hs hw hS hl)

theorem v_ifnull {off : Int} {x : Nat} (hd : decode M.2.1 pc = .ok (.ifnull off, 3))  (hn : pc + 3 = pc') (k : V G M R Z S pc' lv (st) hp kc ks) : V G M R Z S pc lv (.ref x :: st) hp kc ks := by
  subst hn
  intro p e s m args below meth c H locs ls C hs hw hS hl
  exact lv_ifnull C.1 C.2.1 hd (k p e s m args below meth c H locs ls C hs hw hS hl)

theorem v_ifnonnullN {off : Int} (hd : decode M.2.1 pc = .ok (.ifnonnull off, 3))  (hn : pc + 3 = pc') (k : V G M R Z S pc' lv (st) hp kc ks) : V G M R Z S pc lv (.null :: st) hp kc ks := by
  subst hn
  intro p e s m args below meth c H locs ls C hs hw hS hl
  exact lv_ifnonnullN C.1 C.2.1 hd (k p e s m args below meth c H locs ls C hs hw hS hl)

theorem v_tableIn {dflt lo hi off : Int} {offs : Array Int} {len : Nat} {x : Int32} (hd : decode M.2.1 pc = .ok (.tableswitch dflt lo hi offs, len)) (h1 : ¬ x.toInt < lo) (h2 : ¬ hi < x.toInt) (ho : offs[(x.toInt - lo).toNat]? = some off) (ht : (pc : Int) + off = (tgt : Int)) (k : V G M R Z S tgt lv st hp kc ks) : V G M R Z S pc lv (.int x :: st) hp kc ks := by
  intro p e s m args below meth c H locs ls C hs hw hS hl
  exact lv_tableIn C.1 C.2.1 hd h1 h2 ho ht (k p e s m args below meth c H locs ls C hs hw hS hl)

theorem v_tableOut {dflt lo hi : Int} {offs : Array Int} {len : Nat} {x : Int32} (hd : decode M.2.1 pc = .ok (.tableswitch dflt lo hi offs, len)) (h : x.toInt < lo ∨ hi < x.toInt) (ht : (pc : Int) + dflt = (tgt : Int)) (k : V G M R Z S tgt lv st hp kc ks) : V G M R Z S pc lv (.int x :: st) hp kc ks := by
  intro p e s m args below meth c H locs ls C hs hw hS hl
  exact lv_tableOut C.1 C.2.1 hd h ht (k p e s m args below meth c H locs ls C hs hw hS hl)

end LIGHT
/-- what a class's rows of the tables say -/
def CI (ci : Nat) (C : String) (T : u_T) (N : Nat) (ty : Nat → FieldType) : Prop := vwCl[ci]? = some (C, T, N) ∧ (∀ w ∈ u_ws C T N, w ∈ tbl) ∧ (∀ k, k < N → parseFieldDescriptor (T k).2.2.1 = some (ty k)) ∧ (∀ a, a < N → ∀ b, b < N → a ≠ b → (T a).2.1 ≠ (T b).2.1)
/-- a field that a class names: its class's number and place, its type, whether it is final -/
def FL (own : String) (index ci k : Nat) (ty : FieldType) (fin : Bool) : Prop := ∃ (C : String) (T : u_T) (N : Nat) (tf : Nat → FieldType), CI ci C T N tf ∧ k < N ∧ tf k = ty ∧ (T k).2.2.2 = fin ∧ (T k).1 = C ∧ Cond.fieldLink own index C (T k).2.1 (T k).2.2.1 ∈ tbl
abbrev aI (G : GG) (n : Nat) (f : Nat → Int32) : va_E := .inl (G.2.2.1.1, n, .inl f)
abbrev aL (G : GG) (n : Nat) (f : Nat → Option Nat) : va_E := .inl (G.2.2.1.2.1, n, .inr (.inr (.inr (.inr f))))
abbrev aW (G : GG) (n : Nat) (f : Nat → Option Nat) : va_E := .inl (G.2.2.1.2.2, n, .inr (.inr (.inr (.inr f))))
abbrev ob (ci : Nat) (fs : List Value) : va_E := .inr (ci, fs)
section LIGHT2
variable {G : GG} {M : MI} {R : Room} {Z : ZZ} {S : SS} {pc pc' tgt : Nat} {lv : List (Option Value)} {st : List Value} {hp : List va_E} {kc ks : Nat}
theorem v_getf {i ci k index : Nat} {fs : List Value} {v : Value} {ty : FieldType} {fin : Bool} (hd : decode M.2.1 pc = .ok (.getfield index, 3)) (hf : FL M.1.cls index ci k ty fin) (he : hp[i]? = some (ob ci fs)) (hv : fs[k]? = some v) (hn : pc + 3 = pc') (kk : V G M R Z S pc' lv (v :: st) hp kc ks) : V G M R Z S pc lv (.ref (G.2.2.2 + i) :: st) hp kc ks := by
  subst hn
  intro p e s m args below meth c H locs ls X hs hw hS hl
  obtain ⟨C, T, N, tf, hC, hk, -, -, ho, hlk⟩ := hf
  refine va_get X.1 X.2.1 X.2.2.2.2.2.2.2.1 hC.2.1 X.2.2.2.2.2.1 X.2.2.2.2.2.2.2.2.1.1 hw.1 i (wz_at he) hC.1 k hk (X.2.2.2.2.2.2.2.1 _ hlk) (fun x h => by rw [← ho]; exact h) hv hd (kk p e s m args below meth c H locs ls X hs hw hS hl)
theorem Wd.set {G : GG} {hp : List va_E} {i : Nat} {e : va_E} {H H1 : Heap} (hw : Wd G hp H) (hsz : H1.size = H.size) (h : va_P G.2.1 vwCl ((wz G.2.2.2 hp).set i (G.2.2.2 + i, e)) H1) : Wd G (hp.set i e) H1 := by
  rw [wz_set] at h
  exact ⟨h, by rw [hsz, hw.2, List.length_set]⟩
theorem v_putf {i ci k index : Nat} {fs : List Value} {v : Value} {ty : FieldType} (hd : decode M.2.1 pc = .ok (.putfield index, 3)) (hf : FL M.1.cls index ci k ty false) (he : hp[i]? = some (ob ci fs)) (hnr : narrow ty v = v) (hft : fits ty v = true) (hl0 : k < fs.length) (hn : pc + 3 = pc') (kk : V G M R Z S pc' lv st (hp.set i (ob ci (fs.set k v))) kc ks) : V G M R Z S pc lv (v :: .ref (G.2.2.2 + i) :: st) hp kc ks := by
  subst hn
  intro p e s m args below meth c H locs ls X hs hw hS hl
  obtain ⟨C, T, N, tf, hC, hk, hty, hfin, ho, hlk⟩ := hf
  subst hty
  have hts := X.2.2.2.2.2.2.2.1
  have hK := X.2.2.2.2.2.2.2.2.1.1
  have hD0 := wz_D G.2.2.2 hp
  have hap := va_apart (own := C) hts hC.2.1 tf hC.2.2.1 hC.2.2.2 hK hC.1
  obtain ⟨r, h1, cell, q1, q2, q3, q4⟩ := hw.1 i _ (wz_at he)
  cases Option.some.inj (h1.symm.trans hC.1)
  obtain ⟨hSl, hfc, kC, hkC, hkind⟩ := hK.1 ci _ hC.1
  obtain ⟨cf, kf, fi, f, hi, hsl⟩ := hSl k hk
  have hlay := hts _ (hC.2.1 _ (u_in_lay hk))
  rw [u_lay, if_neg (by rw [hfin]; decide)] at hlay
  have hst := (u_facts hfc hkC (u_lays hts hC.2.1 hk) hi).1
  have h6 := u_store hfc hkC hkind hlay hi (hC.2.2.1 k hk) hnr hft
  refine W.putK X.1 X.2.1 (f := f) ⟨X.2.2.2.2.2.1, hts _ hlk, ⟨cf, kf, fi, by rw [← ho]; exact hi⟩, hst⟩ (by rw [q2]; exact h6) q1 q3 (by rw [hsl]; exact k2_hasslot (q4 k hk)) rfl rfl hd fun H' e1 e2 e3 => ?_
  rw [hsl] at e1 ⊢
  exact kk p e s m args below meth c H' _ ls X hs (hw.set e2 (hw.1.set hD0 (wz_at he) ⟨_, hC.1, t_OB.to (V := updV (vp_V fs) k v) ⟨_, e1, q2, q3, t_set q4 hap hk v⟩ (fun j _ => vp_updV_set hl0 v j)⟩ e3)) (hS.put e2 e3 (Nat.le_add_right _ _)) hl
theorem v_putF {i ci k index : Nat} {fs : List Value} {v : Value} {ty : FieldType} (hd : decode M.2.1 pc = .ok (.putfield index, 3)) (hf : FL M.1.cls index ci k ty true) (hcls : (vwCl[ci]?).map (fun q => q.1) = some M.1.cls) (hinit : M.1.name = "<init>") (he : hp[i]? = some (ob ci fs)) (hnr : narrow ty v = v) (hft : fits ty v = true) (hl0 : k < fs.length) (hn : pc + 3 = pc') (kk : V G M R Z S pc' lv st (hp.set i (ob ci (fs.set k v))) kc ks) : V G M R Z S pc lv (v :: .ref (G.2.2.2 + i) :: st) hp kc ks := by
  subst hn
  intro p e s m args below meth c H locs ls X hs hw hS hl
  obtain ⟨C, T, N, tf, hC, hk, hty, hfin, ho, hlk⟩ := hf
  subst hty
  have hts := X.2.2.2.2.2.2.2.1
  have hK := X.2.2.2.2.2.2.2.2.1.1
  have hown := X.2.2.2.2.2.1
  have hD0 := wz_D G.2.2.2 hp
  have hap := va_apart (own := C) hts hC.2.1 tf hC.2.2.1 hC.2.2.2 hK hC.1
  have hcc : C = M.1.cls := by rw [hC.1] at hcls; exact Option.some.inj hcls
  obtain ⟨r, h1, cell, q1, q2, q3, q4⟩ := hw.1 i _ (wz_at he)
  cases Option.some.inj (h1.symm.trans hC.1)
  obtain ⟨hSl, hfc, kC, hkC, hkind⟩ := hK.1 ci _ hC.1
  obtain ⟨cf, kf, fi, f, hi, hsl⟩ := hSl k hk
  have hlay := hts _ (hC.2.1 _ (u_in_lay hk))
  rw [u_lay, if_pos hfin] at hlay
  have hst := (u_facts hfc hkC (u_lays hts hC.2.1 hk) hi).1
  have hcf : m.cls = cf := by
    obtain ⟨_, _, c', _, _, _, -, -, hf', -, -, -, hown2, -⟩ := Cond.laysFinal_spec hlay
    have e1 : c' = cf := by have := hi.symm.trans hf'; simp at this; exact this.1.symm
    rw [ho, hcc] at hown2
    rw [← e1]; exact Option.some.inj (hown.symm.trans hown2)
  have h6 := u_fits hfc hkC hkind (Or.inr hlay) hi (hC.2.2.1 k hk) hnr hft
  refine W.putFinK X.1 X.2.1 hown (hts _ hlk) (by rw [← ho]; exact hi) hst hcf (X.2.2.2.2.2.2.1.trans hinit) (by rw [q2]; exact h6) q1 q3 (by rw [hsl]; exact k2_hasslot (q4 k hk)) rfl rfl hd fun H' e1 e2 e3 => ?_
  rw [hsl] at e1 ⊢
  exact kk p e s m args below meth c H' _ ls X hs (hw.set e2 (hw.1.set hD0 (wz_at he) ⟨_, hC.1, t_OB.to (V := updV (vp_V fs) k v) ⟨_, e1, q2, q3, t_set q4 hap hk v⟩ (fun j _ => vp_updV_set hl0 v j)⟩ e3)) (hS.put e2 e3 (Nat.le_add_right _ _)) hl
theorem v_iald {i n : Nat} {f : Nat → Int32} {x : Int32} (j : Nat) (hd : decode M.2.1 pc = .ok (.iaload, 1)) (he : hp[i]? = some (aI G n f)) (hx : x = nI j) (hj : j < n) (hb : n < 2 ^ 31) (hn : pc + 1 = pc') (kk : V G M R Z S pc' lv (.int (f j) :: st) hp kc ks) : V G M R Z S pc lv (.int x :: .ref (G.2.2.2 + i) :: st) hp kc ks := by
  subst hn; subst hx
  intro p e s m args below meth c H locs ls X hs hw hS hl
  refine va_iald X.1 X.2.1 X.2.2.2.2.2.2.2.2.1.1 hw.1 i 0 (wz_at he) rfl (vp_in_nI hj hb) hd ?_
  rw [nI_clamp (by omega)]
  exact kk p e s m args below meth c H locs ls X hs hw hS hl
theorem v_iast {i n : Nat} {f : Nat → Int32} {x y : Int32} (j : Nat) (hd : decode M.2.1 pc = .ok (.iastore, 1)) (he : hp[i]? = some (aI G n f)) (hx : x = nI j) (hj : j < n) (hb : n < 2 ^ 31) (hn : pc + 1 = pc') (kk : V G M R Z S pc' lv st (hp.set i (aI G n (upd f j y))) kc ks) : V G M R Z S pc lv (.int y :: .int x :: .ref (G.2.2.2 + i) :: st) hp kc ks := by
  subst hn; subst hx
  intro p e s m args below meth c H locs ls X hs hw hS hl
  have hD0 := wz_D G.2.2.2 hp
  have hin := vp_in_nI hj hb
  refine W.iast X.1 X.2.1 (hw.1 i _ (wz_at he)) ((X.2.2.2.2.2.2.2.2.1.1.2 0 _ rfl).1 n (fun j => .int (f j))) (fun q => by cases q) (by show ¬ (nI j < 0 ∨ (arrV _ _ _).slots.size ≤ _); rw [arrV_size]; exact hin) rfl rfl hd fun H1 e1 z oq => ?_
  refine kk p e s m args below meth c H1 _ ls X hs (hw.set z (hw.1.set hD0 (wz_at he) ?_ oq)) (hS.put z oq (Nat.le_add_right _ _)) hl
  show H1[_]? = some (vp_cell _ _)
  rw [e1, nI_clamp (by omega)]
  rw [vp_cell_i, vp_cell_i, arrV_store]
  congr 2
  funext q
  by_cases hq : q = j
  · subst hq
    simp [updV, upd]
  · simp [updV, upd, hq]
theorem v_alen {i n : Nat} {f : Nat → Int32} (hd : decode M.2.1 pc = .ok (.arraylength, 1)) (he : hp[i]? = some (aI G n f)) (hn : pc + 1 = pc') (kk : V G M R Z S pc' lv (.int (nI n) :: st) hp kc ks) : V G M R Z S pc lv (.ref (G.2.2.2 + i) :: st) hp kc ks := by
  subst hn
  intro p e s m args below meth c H locs ls X hs hw hS hl
  exact va_alen X.1 X.2.1 X.2.2.2.2.2.2.2.2.1.1 hw.1 i 0 (wz_at he) rfl rfl hd (kk p e s m args below meth c H locs ls X hs hw hS hl)
theorem v_aaldL {i n : Nat} {f : Nat → Option Nat} {x : Int32} (j : Nat) {v : Value} (hd : decode M.2.1 pc = .ok (.aaload, 1)) (he : hp[i]? = some (aL G n f)) (hx : x = nI j) (hj : j < n) (hb : n < 2 ^ 31) (hv : va_rf (f j) = v) (hn : pc + 1 = pc') (kk : V G M R Z S pc' lv (v :: st) hp kc ks) : V G M R Z S pc lv (.int x :: .ref (G.2.2.2 + i) :: st) hp kc ks := by
  subst hn; subst hx; subst hv
  intro p e s m args below meth c H locs ls X hs hw hS hl
  refine va_aldq X.1 X.2.1 X.2.2.2.2.2.2.2.2.1.1 hw.1 i 1 (wz_at he) rfl (vp_in_nI hj hb) hd ?_
  rw [nI_clamp (by omega)]
  exact kk p e s m args below meth c H locs ls X hs hw hS hl
theorem v_aaldW {i n : Nat} {f : Nat → Option Nat} {x : Int32} (j : Nat) {v : Value} (hd : decode M.2.1 pc = .ok (.aaload, 1)) (he : hp[i]? = some (aW G n f)) (hx : x = nI j) (hj : j < n) (hb : n < 2 ^ 31) (hv : va_rf (f j) = v) (hn : pc + 1 = pc') (kk : V G M R Z S pc' lv (v :: st) hp kc ks) : V G M R Z S pc lv (.int x :: .ref (G.2.2.2 + i) :: st) hp kc ks := by
  subst hn; subst hx; subst hv
  intro p e s m args below meth c H locs ls X hs hw hS hl
  refine va_aldq X.1 X.2.1 X.2.2.2.2.2.2.2.2.1.1 hw.1 i 2 (wz_at he) rfl (vp_in_nI hj hb) hd ?_
  rw [nI_clamp (by omega)]
  exact kk p e s m args below meth c H locs ls X hs hw hS hl
theorem v_aastL {i n iv : Nat} {vs : List Value} {f : Nat → Option Nat} {x : Int32} (j : Nat) (hd : decode M.2.1 pc = .ok (.aastore, 1)) (he : hp[i]? = some (aL G n f)) (hev : hp[iv]? = some (ob 0 vs)) (hx : x = nI j) (hj : j < n) (hb : n < 2 ^ 31) (hn : pc + 1 = pc') (kk : V G M R Z S pc' lv st (hp.set i (aL G n (va_up f j (some (G.2.2.2 + iv))))) kc ks) : V G M R Z S pc lv (.ref (G.2.2.2 + iv) :: .int x :: .ref (G.2.2.2 + i) :: st) hp kc ks := by
  subst hn; subst hx
  intro p e s m args below meth c H locs ls X hs hw hS hl
  have hD0 := wz_D G.2.2.2 hp
  have hin := vp_in_nI hj hb
  have hK := X.2.2.2.2.2.2.2.2.1.1
  obtain ⟨r', hr', cellV, g1, g2, g3, -⟩ := hw.1 iv _ (wz_at hev)
  have hcls := (hK.1 0 _ rfl).2
  obtain ⟨kA, comp, k1, k2, k3, -⟩ := (hK.2 1 _ rfl).2
  have hcomp : comp = G.2.1.1 0 := Option.some.inj (k3.symm.trans hcls.1)
  subst hcomp
  obtain ⟨kC, hkC, -⟩ := hcls.2
  refine W.aast X.1 X.2.1 (hw.1 i _ (wz_at he)) (fun q h => by cases h) (fun h => by cases h) k1 k2 rfl hkC ⟨fun q => hin (Or.inl q), by show _ < (arrV _ _ _).slots.size; rw [arrV_size, nI_clamp (by omega)]; exact hj⟩ g1 (fun q h => by rw [g3] at h; cases h) (by rw [g2]; exact hkC) (by rw [g2]; exact va_assign hcls) rfl rfl hd fun H1 e1 z oq => ?_
  refine kk p e s m args below meth c H1 _ ls X hs (hw.set z (hw.1.set hD0 (wz_at he) ?_ oq)) (hS.put z oq (Nat.le_add_right _ _)) hl
  show H1[_]? = some (vp_cell _ _)
  rw [e1, nI_clamp (by omega)]
  rw [vp_cell_q, vp_cell_q, arrV_store]
  congr 2
  funext q
  by_cases hq : q = j
  · subst hq
    simp [updV, va_up, va_rf]
  · simp [updV, va_up, hq]
theorem v_aastW {i n iv : Nat} {vs : List Value} {f : Nat → Option Nat} {x : Int32} (j : Nat) (hd : decode M.2.1 pc = .ok (.aastore, 1)) (he : hp[i]? = some (aW G n f)) (hev : hp[iv]? = some (ob 1 vs)) (hx : x = nI j) (hj : j < n) (hb : n < 2 ^ 31) (hn : pc + 1 = pc') (kk : V G M R Z S pc' lv st (hp.set i (aW G n (va_up f j (some (G.2.2.2 + iv))))) kc ks) : V G M R Z S pc lv (.ref (G.2.2.2 + iv) :: .int x :: .ref (G.2.2.2 + i) :: st) hp kc ks := by
  subst hn; subst hx
  intro p e s m args below meth c H locs ls X hs hw hS hl
  have hD0 := wz_D G.2.2.2 hp
  have hin := vp_in_nI hj hb
  have hK := X.2.2.2.2.2.2.2.2.1.1
  obtain ⟨r', hr', cellV, g1, g2, g3, -⟩ := hw.1 iv _ (wz_at hev)
  have hcls := (hK.1 1 _ rfl).2
  obtain ⟨kA, comp, k1, k2, k3, -⟩ := (hK.2 2 _ rfl).2
  have hcomp : comp = G.2.1.1 1 := Option.some.inj (k3.symm.trans hcls.1)
  subst hcomp
  obtain ⟨kC, hkC, -⟩ := hcls.2
  refine W.aast X.1 X.2.1 (hw.1 i _ (wz_at he)) (fun q h => by cases h) (fun h => by cases h) k1 k2 rfl hkC ⟨fun q => hin (Or.inl q), by show _ < (arrV _ _ _).slots.size; rw [arrV_size, nI_clamp (by omega)]; exact hj⟩ g1 (fun q h => by rw [g3] at h; cases h) (by rw [g2]; exact hkC) (by rw [g2]; exact va_assign hcls) rfl rfl hd fun H1 e1 z oq => ?_
  refine kk p e s m args below meth c H1 _ ls X hs (hw.set z (hw.1.set hD0 (wz_at he) ?_ oq)) (hS.put z oq (Nat.le_add_right _ _)) hl
  show H1[_]? = some (vp_cell _ _)
  rw [e1, nI_clamp (by omega)]
  rw [vp_cell_q, vp_cell_q, arrV_store]
  congr 2
  funext q
  by_cases hq : q = j
  · subst hq
    simp [updV, va_up, va_rf]
  · simp [updV, va_up, hq]
theorem Wd.push {G : GG} {hp : List va_E} {e : va_E} {H H1 : Heap} (hw : Wd G hp H) (hsz : H1.size = H.size + 1) (ho : ∀ q, q < H.size → H1[q]? = H[q]?) (h : va_at G.2.1 vwCl (G.2.2.2 + hp.length, e) H1) : Wd G (hp ++ [e]) H1 := by
  refine ⟨?_, by rw [hsz, hw.2, List.length_append]; rfl⟩
  rw [wz_push]
  refine (hw.1.kept (fun k x hx => ho x.1 ((hw.1 k x hx).lt))).app (fun k x hx => ?_)
  have hz : k < 1 := (List.getElem?_eq_some_iff.mp hx).1
  rw [show k = 0 by omega] at hx
  cases hx
  exact h
theorem va_S.grow {A : Nat → Prop} {H0 H H1 : Heap} {locs : List Loc} (hS : va_S A H0 H locs) (hsz : H1.size = H.size + 1) (ho : ∀ q, q < H.size → H1[q]? = H[q]?) : va_S A H0 H1 locs :=
  ⟨by have := hS.1; omega, fun x h1 h2 => (ho x (Nat.lt_of_lt_of_le h1 hS.1)).trans (hS.2.1 x h1 h2), hS.2.2⟩
theorem v_new {ci index : Nat} {C : String} {T : u_T} {N : Nat} {tf : Nat → FieldType} {fs : List Value} (hd : decode M.2.1 pc = .ok (.new index, 3)) (hC : CI ci C T N tf) (hcl : Cond.classLink M.1.cls index C ∈ tbl) (hinst : Cond.instantiable C N ∈ tbl) (hini : Cond.initialized C ∈ tbl) (hfs : ∀ j, j < N → defaultValue (tf j) = vp_V fs j) (hcells : kc + 1 ≤ R.cells) (hslots : ks + N ≤ R.slots) (hn : pc + 3 = pc') (kk : V G M R Z S pc' lv (.ref (G.2.2.2 + hp.length) :: st) (hp ++ [ob ci fs]) (kc + 1) (ks + N)) : V G M R Z S pc lv st hp kc ks := by
  subst hn
  intro p e s m args below meth c H locs ls X hs hw hS hl
  have hts := X.2.2.2.2.2.2.2.1
  have hKn := X.2.2.2.2.2.2.2.2.1.1.1 ci _ hC.1
  refine W.newcK X.1 X.2.1 X.2.2.2.2.2.1 (hts _ hcl) (hts _ hinst) (hts _ hini) rfl hd hcells hslots hKn.2.1 hw.2 fun H1 kC hkC e1 z1 o1 => ?_
  rw [← hw.2] at z1 o1
  exact kk p e s m args below meth c H1 locs ls X hs (hw.push z1 o1 ⟨_, hC.1, (u_born tf hts hC.2.1 hKn hkC e1 hC.2.2.1).to hfs⟩) (hS.grow z1 o1) hl
theorem v_newa {n : Int32} {N : Nat} (hd : decode M.2.1 pc = .ok (.newarray .int, 2)) (harr : Cond.arrayClass .int ∈ tbl) (hN : n = nI N) (hN2 : N ≤ 1000) (hcells : kc + 1 ≤ R.cells) (hslots : ks + N ≤ R.slots) (hn : pc + 2 = pc') (kk : V G M R Z S pc' lv (.ref (G.2.2.2 + hp.length) :: st) (hp ++ [aI G N (fun _ => 0)]) (kc + 1) (ks + N)) : V G M R Z S pc lv (.int n :: st) hp kc ks := by
  subst hn; subst hN
  intro p e s m args below meth c H locs ls X hs hw hS hl
  have hts := X.2.2.2.2.2.2.2.1
  have hK := X.2.2.2.2.2.2.2.2.1.1
  refine va_newaK X.1 X.2.1 (atype := .int) (hts _ harr) rfl hd rfl (nI_pos (by omega)) (nI_clamp (by omega)) (by show N * 4 ≤ _; omega) hcells hslots hw.2 fun H1 cA e1 z1 o1 hAr hNm => ?_
  rw [← hw.2] at z1 o1
  have hcA : G.2.2.1.1 = cA := Option.some.inj ((hK.2 0 _ rfl).2.symm.trans hNm)
  subst hcA
  refine kk p e s m args below meth c H1 locs ls X hs (hw.push z1 o1 ?_) (hS.grow z1 o1) hl
  exact e1
theorem v_anewL {index : Nat} {n : Int32} {N : Nat} (hd : decode M.2.1 pc = .ok (.anewarray index, 3)) (hcl : Cond.classLink M.1.cls index RX0 ∈ tbl) (hN : n = nI N) (hN2 : N ≤ 1000) (hcells : kc + 1 ≤ R.cells) (hslots : ks + N ≤ R.slots) (hn : pc + 3 = pc') (kk : V G M R Z S pc' lv (.ref (G.2.2.2 + hp.length) :: st) (hp ++ [aL G N (fun _ => none)]) (kc + 1) (ks + N)) : V G M R Z S pc lv (.int n :: st) hp kc ks := by
  subst hn; subst hN
  intro p e s m args below meth c H locs ls X hs hw hS hl
  have hts := X.2.2.2.2.2.2.2.1
  have hK := X.2.2.2.2.2.2.2.2.1.1
  have hcl2 : (nI N).toNatClampNeg = N := nI_clamp (by omega)
  refine W.anew X.1 X.2.1 X.2.2.2.2.2.1 (hts _ hcl) (va_AO.use X.2.2.2.2.2.2.2.2.1.2.1) rfl hd rfl (nI_pos (by omega)) (by rw [hcl2]; omega) hcells (by rw [hcl2]; exact hslots) fun cA kA comp f1 f2 f3 f4 => ?_
  obtain ⟨-, -, -, -, -, hNm⟩ := (hK.2 1 _ rfl).2
  have hcA : G.2.2.1.2.1 = cA := Option.some.inj (hNm.symm.trans f1)
  subst hcA
  rw [hcl2]
  generalize hH1 : H.push ({ cls := G.2.2.1.2.1, slots := Array.replicate N .null, vm := .none } : Cell) = H1
  have z1 : H1.size = H.size + 1 := by rw [← hH1, Array.size_push]
  have e1 : H1[H.size]? = some (arrV G.2.2.1.2.1 N (fun _ => .null)) := by rw [← hH1, Array.getElem?_push_size, ← arrV_new]
  have o1 : ∀ q : Nat, q < H.size → H1[q]? = H[q]? := fun q hq => by rw [← hH1, Array.getElem?_push, if_neg (Nat.ne_of_lt hq)]
  have hsz := hw.2
  rw [hsz] at e1 ⊢
  refine kk p e s m args below meth c H1 locs ls X hs (hw.push z1 o1 ?_) (hS.grow z1 o1) hl
  exact e1
theorem v_anewW {index : Nat} {n : Int32} {N : Nat} (hd : decode M.2.1 pc = .ok (.anewarray index, 3)) (hcl : Cond.classLink M.1.cls index RX1 ∈ tbl) (hN : n = nI N) (hN2 : N ≤ 1000) (hcells : kc + 1 ≤ R.cells) (hslots : ks + N ≤ R.slots) (hn : pc + 3 = pc') (kk : V G M R Z S pc' lv (.ref (G.2.2.2 + hp.length) :: st) (hp ++ [aW G N (fun _ => none)]) (kc + 1) (ks + N)) : V G M R Z S pc lv (.int n :: st) hp kc ks := by
  subst hn; subst hN
  intro p e s m args below meth c H locs ls X hs hw hS hl
  have hts := X.2.2.2.2.2.2.2.1
  have hK := X.2.2.2.2.2.2.2.2.1.1
  have hcl2 : (nI N).toNatClampNeg = N := nI_clamp (by omega)
  refine W.anew X.1 X.2.1 X.2.2.2.2.2.1 (hts _ hcl) (va_AO.use X.2.2.2.2.2.2.2.2.1.2.2) rfl hd rfl (nI_pos (by omega)) (by rw [hcl2]; omega) hcells (by rw [hcl2]; exact hslots) fun cA kA comp f1 f2 f3 f4 => ?_
  obtain ⟨-, -, -, -, -, hNm⟩ := (hK.2 2 _ rfl).2
  have hcA : G.2.2.1.2.2 = cA := Option.some.inj (hNm.symm.trans f1)
  subst hcA
  rw [hcl2]
  generalize hH1 : H.push ({ cls := G.2.2.1.2.2, slots := Array.replicate N .null, vm := .none } : Cell) = H1
  have z1 : H1.size = H.size + 1 := by rw [← hH1, Array.size_push]
  have e1 : H1[H.size]? = some (arrV G.2.2.1.2.2 N (fun _ => .null)) := by rw [← hH1, Array.getElem?_push_size, ← arrV_new]
  have o1 : ∀ q : Nat, q < H.size → H1[q]? = H[q]? := fun q hq => by rw [← hH1, Array.getElem?_push, if_neg (Nat.ne_of_lt hq)]
  have hsz := hw.2
  rw [hsz] at e1 ⊢
  refine kk p e s m args below meth c H1 locs ls X hs (hw.push z1 o1 ?_) (hS.grow z1 o1) hl
  exact e1
theorem v_objInit {idx i : Nat} (hd : decode M.2.1 pc = .ok (.invokespecial idx, 3)) (hlink : Cond.methodLink M.1.cls idx Lib.objectInit ∈ tbl) (hinst : Cond.instanceMethod Lib.objectInit ∈ tbl) (hcode : Cond.code Lib.objectInit ⟨#[0xb1]⟩ 1 none ∈ tbl) (hframes : 1 ≤ R.frames) (hlocals : (st.map fun v => v.category).sum + 12 ≤ R.locals) (hn : pc + 3 = pc') (kk : V G M R Z S pc' lv st hp kc ks) : V G M R Z S pc lv (.ref i :: st) hp kc ks := by
  subst hn
  intro p e s m args below meth c H locs ls X hs hw hS hl
  have hts := X.2.2.2.2.2.2.2.1
  refine W.objInit X.1 X.2.1 X.2.2.2.2.2.1 (hts _ hlink) (hts _ hinst) (hts _ hcode) rfl (by rw [X.2.2.1]; exact hl.1) rfl hd hframes (by show 2 * 0 + _ + 12 ≤ _; omega) ?_
  exact kk p e s m args below meth c H locs ls X hs hw hS hl
/-- behind a call -/
theorem v_cont {p : Program} {e : Env} {s : State} {m : MethodId} {args a : Array Value} {below : List Frame} {meth : Method} {c : Code} {H : Heap} {locs : List Loc} {ls : Array Slot} {Q : QQ} {Z' : State → Prop} {mc ms : Nat} {st0 rest : List Value} (hr : va_Run p G.1 e R s m args below meth c H locs kc ks mc ms (F0 m pc ls st0) rest (QcM G Q a) (fun q => G.2.2.2 ≤ q)) (hS : va_S (fun q => G.2.2.2 ≤ q) s.heap H locs)
    (kk : ∀ (r : Option Value) (hp' : List va_E) (H1 : Heap) (locs1 : List Loc), Q r hp' → Wd G hp' H1 → va_S (fun q => G.2.2.2 ≤ q) s.heap H1 locs1 → W p G.1 e R s m args below meth c H1 locs1 (kc + mc) (ks + ms) Z' (F0 m (pc + 3) ls (r.toList ++ rest))) : W p G.1 e R s m args below meth c H locs kc ks Z' (F0 m pc ls st0) := by
  intro T hT X
  obtain ⟨v, st₀, t, T', L, h0, X', hL, e1, e2, ⟨⟨r, hp', hv, hp, hb⟩, hz, hk⟩, go⟩ := hr T hT X
  cases hv
  rw [h0] at hz hk
  obtain ⟨t2, a1, b1⟩ := kk v hp' T'.heap (locs ++ L) hp (by rw [e1]; exact hb)
    ⟨Nat.le_trans hS.1 (by rw [e1]; exact hz), fun q h1 h2 => by rw [e1, hk q (Nat.lt_of_lt_of_le h1 hS.1) h2]; exact hS.2.1 q h1 h2, fun q hq => by
      rcases List.mem_append.mp hq with h | h
      · exact hS.2.2 q h
      · exact hL q h⟩ T' rfl X'
  exact ⟨t2, go t2 a1, b1⟩
theorem pcm_blind {av : List Value} : FrameBlind (PcM G av hp) := fun a U g mk q => ⟨q.1, q.2.1, KK.moved (u := U) (U := U.calling g mk a) (Vm.Alike.refl U.vm) q.2.2⟩
/-- the words of a callee, by the tables -/
def CW (own : String) (index : Nat) (N : MI) (n : Nat) : Prop := Cond.code N.1 N.2.1 N.2.2.1 N.2.2.2 ∈ tbl ∧ Cond.methodLink own index N.1 ∈ tbl ∧ Cond.initialized N.1.cls ∈ tbl ∧ (N.1.cls ≠ "java/lang/invoke/MethodHandle" ∧ N.1.cls ≠ "java/lang/invoke/VarHandle" ∧ (parseMethodDescriptor N.1.desc).map (fun d => d.parameters.length) = some n) ∧ N.2.2.1 ≤ 29
theorem good_code (y : MethodName) (b : ByteArray) (n : Nat) (r : Option FieldType) : goodWord (.code y b n r) = true := rfl
theorem wsM_good {N : MI} (h : Cond.code N.1 N.2.1 N.2.2.1 N.2.2.2 ∈ tbl) : GoodIn tbl (wsM N) := fun w hw => by
  rcases List.mem_cons.mp hw with h1 | h1
  · subst h1
    exact ⟨h, good_of_word (tbl_good _ h)⟩
  · exact ⟨h1, good_of_word (tbl_good _ h1)⟩
theorem CW.callB {own : String} {index n d mc ms : Nat} {N : MI} {s : State} {args : Array Value} (h : CW own index N n) (hts : ∀ w ∈ tbl, w.before args s = true) (hf : d + 1 ≤ R.frames) (hlo : 48 * d + 48 ≤ R.locals) : CallB R s args own index N.1 N.2.1 N.2.2.1 N.2.2.2 (wsM N) (rmOf d mc ms) mc ms n :=
  callB_of n hts (wsM_good h.1) rfl rfl rfl (hts _ h.2.2.1) (hts _ h.2.1) h.2.2.2.1 ⟨hf, by have := h.2.2.2.2; show 8 + (N.2.2.1 + 11) + 48 * d ≤ _; omega⟩
theorem v_cs {index n d mc ms : Nat} {N : MI} {As rest : List Value} {Q : QQ} (hd : decode M.2.1 pc = .ok (.invokestatic index, 3)) (hcw : CW M.1.cls index N n) (hst : Cond.static N.1 ∈ tbl) (hM : Ct G N d mc ms As hp Q) (hlen : As.length = n) (hstk : st = As.reverse ++ rest) (hW : (rest.map fun v => v.category).sum ≤ 8) (hf : d + 1 ≤ R.frames) (hlo : 48 * d + 48 ≤ R.locals) (hc1 : kc + mc ≤ R.cells) (hc2 : ks + ms ≤ R.slots) (hn : pc + 3 = pc') (kk : ∀ r hp', Q r hp' → V G M R Z S pc' lv (r.toList ++ rest) hp' (kc + mc) (ks + ms)) : V G M R Z S pc lv st hp kc ks := by
  subst hn
  intro p e s m args below meth c H locs ls X hs hw hS hl
  have hts := X.2.2.2.2.2.2.2.1
  refine v_cont (va_runS (n := n) ⟨X.1, X.2.1, X.2.2.1, X.2.2.2.2.2.1, hts⟩ hM ⟨hcw.callB hts hf hlo, hts _ hst⟩ ⟨pcm_blind, fun U hU hWm => ⟨rfl, by rw [hU]; exact hw, KK.moved hWm.alike X.2.2.2.2.2.2.2.2.1⟩⟩ rfl hlen hl.1 hstk (lv_room hW) hd ⟨hc1, hc2⟩) hS ?_
  intro r hp' H1 locs1 hq hw1 hS1
  exact kk r hp' hq p e s m args below meth c H1 locs1 ls X hs hw1 hS1 hl
theorem v_cv {index n d mc ms i ci : Nat} {fs : List Value} {N : MI} {As rest : List Value} {Q : QQ} (hd : decode M.2.1 pc = .ok (.invokevirtual index, 3)) (hcw : CW M.1.cls index N n) (hst : Cond.instanceMethod N.1 ∈ tbl ∧ Cond.selects N.1.cls N.1 N.1 ∈ tbl) (hrc : (vwCl[ci]?).map (fun q => q.1) = some N.1.cls) (he : hp[i]? = some (ob ci fs)) (hM : Ct G N d mc ms (.ref (G.2.2.2 + i) :: As) hp Q) (hlen : As.length = n) (hstk : st = As.reverse ++ .ref (G.2.2.2 + i) :: rest) (hW : (rest.map fun v => v.category).sum ≤ 8) (hf : d + 1 ≤ R.frames) (hlo : 48 * d + 48 ≤ R.locals) (hc1 : kc + mc ≤ R.cells) (hc2 : ks + ms ≤ R.slots) (hn : pc + 3 = pc') (kk : ∀ r hp', Q r hp' → V G M R Z S pc' lv (r.toList ++ rest) hp' (kc + mc) (ks + ms)) : V G M R Z S pc lv st hp kc ks := by
  subst hn
  intro p e s m args below meth c H locs ls X hs hw hS hl
  have hts := X.2.2.2.2.2.2.2.1
  have hK := X.2.2.2.2.2.2.2.2.1.1
  obtain ⟨q, hq, hq2⟩ : ∃ q, vwCl[ci]? = some q ∧ q.1 = N.1.cls := by
    cases hh : vwCl[ci]? with
    | none => rw [hh] at hrc; cases hrc
    | some q => rw [hh] at hrc; exact ⟨q, rfl, Option.some.inj hrc⟩
  have hrv := va_recv hK hw.1 hq (wz_at he)
  rw [hq2] at hrv
  refine v_cont (va_runV (n := n) ⟨X.1, X.2.1, X.2.2.1, X.2.2.2.2.2.1, hts⟩ hM ⟨hcw.callB hts hf hlo, hts _ hst.1, hts _ hst.2⟩ ⟨pcm_blind, hrv, fun U hU hWm => ⟨rfl, by rw [hU]; exact hw, KK.moved hWm.alike X.2.2.2.2.2.2.2.2.1⟩⟩ rfl hlen hl.1 hstk (lv_room hW) hd ⟨hc1, hc2⟩) hS ?_
  intro r hp' H1 locs1 hq hw1 hS1
  exact kk r hp' hq p e s m args below meth c H1 locs1 ls X hs hw1 hS1 hl
theorem v_ci {index n d mc ms i : Nat} {N : MI} {As rest : List Value} {Q : QQ} (hd : decode M.2.1 pc = .ok (.invokespecial index, 3)) (hcw : CW M.1.cls index N n) (hst : N.1.name = "<init>" ∧ Cond.instanceMethod N.1 ∈ tbl) (hret : N.2.2.2 = none) (hM : Ct G N d mc ms (.ref i :: As) hp Q) (hlen : As.length = n) (hstk : st = As.reverse ++ .ref i :: rest) (hW : (rest.map fun v => v.category).sum ≤ 8) (hf : d + 1 ≤ R.frames) (hlo : 48 * d + 48 ≤ R.locals) (hc1 : kc + mc ≤ R.cells) (hc2 : ks + ms ≤ R.slots) (hn : pc + 3 = pc') (kk : ∀ r hp', Q r hp' → V G M R Z S pc' lv (r.toList ++ rest) hp' (kc + mc) (ks + ms)) : V G M R Z S pc lv st hp kc ks := by
  subst hn
  intro p e s m args below meth c H locs ls X hs hw hS hl
  have hts := X.2.2.2.2.2.2.2.1
  have hB := hcw.callB (R := R) (d := d) (mc := mc) (ms := ms) hts hf hlo
  rw [hret] at hB
  refine v_cont (va_runI (n := n) ⟨X.1, X.2.1, X.2.2.1, X.2.2.2.2.2.1, hts⟩ hM ⟨hB, hst.1, hts _ hst.2⟩ ⟨pcm_blind, fun U hU hWm => ⟨rfl, by rw [hU]; exact hw, KK.moved hWm.alike X.2.2.2.2.2.2.2.2.1⟩⟩ rfl hlen hl.1 hstk (lv_room hW) hd ⟨hc1, hc2⟩) hS ?_
  intro r hp' H1 locs1 hq hw1 hS1
  exact kk r hp' hq p e s m args below meth c H1 locs1 ls X hs hw1 hS1 hl
end LIGHT2
section LIGHT3
variable {G : GG} {M : MI} {d mc ms : Nat} {Q : QQ} {pc : Nat} {lv : List (Option Value)} {hp : List va_E} {kc ks : Nat}
theorem qcm_end {r : Option Value} {H : Heap} {locs : List Loc} {s t : State} {args : Array Value} (hq : Q r hp) (hw : Wd G hp H) (hS : va_S (fun q => G.2.2.2 ≤ q) s.heap H locs) (ht : t.heap = H) : QcM G Q args s (.returned r) t := ⟨⟨r, hp, rfl, hq, by rw [ht]; exact hw⟩, hS.F ht⟩
theorem v_iret {v : Int32} (hd : decode M.2.1 pc = .ok (.ireturn, 1)) (hr : M.2.2.2 = some .int) (hc : kc ≤ mc ∧ ks ≤ ms) (hq : Q (some (.int v)) hp) : Vm G M d mc ms Q pc lv [.int v] hp kc ks := by
  intro p e s m args below meth c H locs ls X hs hw hS hl
  have hlocks := X.2.2.2.2.1
  exact W.widen hc.1 hc.2 (W.iret X.1 X.2.1 (X.2.2.2.1.trans hr) (fun t ht _ => qcm_end hq hw hS ht) hS.2.2 hd)
theorem v_zret {v : Int32} (hd : decode M.2.1 pc = .ok (.ireturn, 1)) (hr : M.2.2.2 = some .boolean) (hnr : narrow .boolean (.int v) = .int v) (hc : kc ≤ mc ∧ ks ≤ ms) (hq : Q (some (.int v)) hp) : Vm G M d mc ms Q pc lv [.int v] hp kc ks := by
  intro p e s m args below meth c H locs ls X hs hw hS hl
  have hlocks := X.2.2.2.2.1
  exact W.widen hc.1 hc.2 (W.zret X.1 X.2.1 (X.2.2.2.1.trans hr) hnr (fun t ht _ => qcm_end hq hw hS ht) hS.2.2 hd)
theorem v_lret {v : Int64} (hd : decode M.2.1 pc = .ok (.lreturn, 1)) (hr : M.2.2.2 = some .long) (hc : kc ≤ mc ∧ ks ≤ ms) (hq : Q (some (.long v)) hp) : Vm G M d mc ms Q pc lv [.long v] hp kc ks := by
  intro p e s m args below meth c H locs ls X hs hw hS hl
  have hlocks := X.2.2.2.2.1
  exact W.widen hc.1 hc.2 (W.lret X.1 X.2.1 (X.2.2.2.1.trans hr) (fun t ht _ => qcm_end hq hw hS ht) hS.2.2 hd)
theorem v_vret (hd : decode M.2.1 pc = .ok (.return_, 1)) (hr : M.2.2.2 = none) (hc : kc ≤ mc ∧ ks ≤ ms) (hq : Q none hp) : Vm G M d mc ms Q pc lv [] hp kc ks := by
  intro p e s m args below meth c H locs ls X hs hw hS hl
  have hlocks := X.2.2.2.2.1
  exact W.widen hc.1 hc.2 (W.vret X.1 X.2.1 (X.2.2.2.1.trans hr) (fun t ht _ => qcm_end hq hw hS ht) hS.2.2 hd)
theorem v_aret {v : Value} {C : String} (hd : decode M.2.1 pc = .ok (.areturn, 1)) (hr : M.2.2.2 = some (.object C)) (hv : v = .null ∨ ∃ a, v = .ref a) (hc : kc ≤ mc ∧ ks ≤ ms) (hq : Q (some v) hp) : Vm G M d mc ms Q pc lv [v] hp kc ks := by
  intro p e s m args below meth c H locs ls X hs hw hS hl
  have hlocks := X.2.2.2.2.1
  exact W.widen hc.1 hc.2 (W.aret X.1 X.2.1 (X.2.2.2.1.trans hr) (Or.inl ⟨C, rfl⟩) hv (fun t ht _ => qcm_end hq hw hS ht) hS.2.2 hd)
theorem Ct.weaken {Q' : QQ} {av : List Value} (h : Ct G M d mc ms av hp Q) (hq : ∀ r h, Q r h → Q' r h) : Ct G M d mc ms av hp Q' := by
  intro p e ha hc hk s m args below hf happ hP hT
  obtain ⟨k, o, h1, h2, h3, ⟨⟨⟨r, hp', e1, e2, e3⟩, e4⟩, e5⟩⟩ := h p e ha hc hk s m args below hf happ hP hT
  exact ⟨k, o, h1, h2, h3, ⟨⟨r, hp', e1, hq _ _ e2, e3⟩, e4⟩, e5⟩
end LIGHT3
