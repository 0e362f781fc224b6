/-! RULES FOR COUNTED NUMBERS (nI) AND FOR CALLS WHOSE ANSWER IS KNOWN -/
def Qf (r0 : Option Value) (h0 : List va_E) : QQ := fun r h => r = r0 ∧ h = h0
section RULES
variable {G : GG} {M : MI} {R : Room} {Z : ZZ} {S : SS} {pc pc' tgt : Nat} {lv : List (Option Value)} {st : List Value} {hp : List va_E} {kc ks : Nat}
theorem v_top {x y : Int32} (h : x = y) (k : V G M R Z S pc lv (.int y :: st) hp kc ks) : V G M R Z S pc lv (.int x :: st) hp kc ks := h ▸ k
theorem v_hp {hp' : List va_E} (h : hp = hp') (k : V G M R Z S pc lv st hp' kc ks) : V G M R Z S pc lv st hp kc ks := h ▸ k
theorem v_iaddN {a b : Nat} (hd : decode M.2.1 pc = .ok (.iadd, 1)) (hn : pc + 1 = pc') (k : V G M R Z S pc' lv (.int (nI (a + b)) :: st) hp kc ks) : V G M R Z S pc lv (.int (nI b) :: .int (nI a) :: st) hp kc ks := v_iadd hd hn (v_top (nI_add a b) k)
theorem v_imulN {a b : Nat} (hd : decode M.2.1 pc = .ok (.imul, 1)) (hn : pc + 1 = pc') (k : V G M R Z S pc' lv (.int (nI (a * b)) :: st) hp kc ks) : V G M R Z S pc lv (.int (nI b) :: .int (nI a) :: st) hp kc ks := v_imul hd hn (v_top (pk_mul a b) k)
theorem v_isubN {a b : Nat} (hd : decode M.2.1 pc = .ok (.isub, 1)) (h : b ≤ a) (hn : pc + 1 = pc') (k : V G M R Z S pc' lv (.int (nI (a - b)) :: st) hp kc ks) : V G M R Z S pc lv (.int (nI b) :: .int (nI a) :: st) hp kc ks := v_isub hd hn (v_top (pk_sub h) k)
theorem v_iremN {a b : Nat} (hd : decode M.2.1 pc = .ok (.irem, 1)) (ha : a < 2 ^ 31) (h0 : 0 < b) (hb : b < 2 ^ 31) (hn : pc + 1 = pc') (k : V G M R Z S pc' lv (.int (nI (a % b)) :: st) hp kc ks) : V G M R Z S pc lv (.int (nI b) :: .int (nI a) :: st) hp kc ks := v_irem hd (nI_ne0 h0 hb) hn (v_top (pk_rem ha h0 hb) k)
theorem v_idivN {a b : Nat} (hd : decode M.2.1 pc = .ok (.idiv, 1)) (ha : a < 2 ^ 31) (h0 : 0 < b) (hb : b < 2 ^ 31) (hn : pc + 1 = pc') (k : V G M R Z S pc' lv (.int (nI (a / b)) :: st) hp kc ks) : V G M R Z S pc lv (.int (nI b) :: .int (nI a) :: st) hp kc ks := v_idiv hd (nI_ne0 h0 hb) hn (v_top (pk_div ha h0 hb) k)
theorem v_iinc1 {i a : Nat} (hd : decode M.2.1 pc = .ok (.iinc i 1, 3)) (hx : lget lv i = some (.int (nI a))) (hi : i < M.2.2.1) (hn : pc + 3 = pc') (k : V G M R Z S pc' (lv.set i (some (.int (nI (a + 1))))) st hp kc ks) : V G M R Z S pc lv st hp kc ks := v_iinc hd hx (nI_1 a) hi hn k
theorem v_iincM {i a : Nat} (hd : decode M.2.1 pc = .ok (.iinc i (-1), 3)) (hx : lget lv i = some (.int (nI (a + 1)))) (hi : i < M.2.2.1) (hn : pc + 3 = pc') (k : V G M R Z S pc' (lv.set i (some (.int (nI a)))) st hp kc ks) : V G M R Z S pc lv st hp kc ks := v_iinc hd hx (pk_m1 a) hi hn k
theorem v_icmp_eqN {a b : Nat} {off : Int} (hd : decode M.2.1 pc = .ok (.if_icmp .eq off, 3)) (ht : (pc : Int) + off = (tgt : Int)) (hn : pc + 3 = pc') (ha : a < 2 ^ 31) (hb : b < 2 ^ 31) (kt : a = b → V G M R Z S tgt lv st hp kc ks) (kf : ¬ a = b → V G M R Z S pc' lv st hp kc ks) : V G M R Z S pc lv (.int (nI b) :: .int (nI a) :: st) hp kc ks := v_icmp_eq hd ht hn (fun h => kt ((nI_eq ha hb).mp h)) (fun h => kf (fun q => h ((nI_eq ha hb).mpr q)))
theorem v_icmp_neN {a b : Nat} {off : Int} (hd : decode M.2.1 pc = .ok (.if_icmp .ne off, 3)) (ht : (pc : Int) + off = (tgt : Int)) (hn : pc + 3 = pc') (ha : a < 2 ^ 31) (hb : b < 2 ^ 31) (kt : ¬ a = b → V G M R Z S tgt lv st hp kc ks) (kf : a = b → V G M R Z S pc' lv st hp kc ks) : V G M R Z S pc lv (.int (nI b) :: .int (nI a) :: st) hp kc ks := v_icmp_ne hd ht hn (fun h => kt (fun q => h ((nI_eq ha hb).mpr q))) (fun h => kf ((nI_eq ha hb).mp h))
theorem v_icmp_ltN {a b : Nat} {off : Int} (hd : decode M.2.1 pc = .ok (.if_icmp .lt off, 3)) (ht : (pc : Int) + off = (tgt : Int)) (hn : pc + 3 = pc') (ha : a < 2 ^ 31) (hb : b < 2 ^ 31) (kt : a < b → V G M R Z S tgt lv st hp kc ks) (kf : b ≤ a → V G M R Z S pc' lv st hp kc ks) : V G M R Z S pc lv (.int (nI b) :: .int (nI a) :: st) hp kc ks := v_icmp_lt hd ht hn (fun h => kt ((nI_ltI ha hb).mp h)) (fun h => kf (Nat.not_lt.mp (fun q => h ((nI_ltI ha hb).mpr q))))
theorem v_icmp_geN {a b : Nat} {off : Int} (hd : decode M.2.1 pc = .ok (.if_icmp .ge off, 3)) (ht : (pc : Int) + off = (tgt : Int)) (hn : pc + 3 = pc') (ha : a < 2 ^ 31) (hb : b < 2 ^ 31) (kt : b ≤ a → V G M R Z S tgt lv st hp kc ks) (kf : a < b → V G M R Z S pc' lv st hp kc ks) : V G M R Z S pc lv (.int (nI b) :: .int (nI a) :: st) hp kc ks := v_icmp_ge hd ht hn (fun h => kt ((nI_leI hb ha).mp h)) (fun h => kf (Nat.not_le.mp (fun q => h ((nI_leI hb ha).mpr q))))
theorem v_icmp_gtN {a b : Nat} {off : Int} (hd : decode M.2.1 pc = .ok (.if_icmp .gt off, 3)) (ht : (pc : Int) + off = (tgt : Int)) (hn : pc + 3 = pc') (ha : a < 2 ^ 31) (hb : b < 2 ^ 31) (kt : b < a → V G M R Z S tgt lv st hp kc ks) (kf : a ≤ b → V G M R Z S pc' lv st hp kc ks) : V G M R Z S pc lv (.int (nI b) :: .int (nI a) :: st) hp kc ks := v_icmp_gt hd ht hn (fun h => kt ((nI_ltI hb ha).mp h)) (fun h => kf (Nat.not_lt.mp (fun q => h ((nI_ltI hb ha).mpr q))))
theorem v_icmp_leN {a b : Nat} {off : Int} (hd : decode M.2.1 pc = .ok (.if_icmp .le off, 3)) (ht : (pc : Int) + off = (tgt : Int)) (hn : pc + 3 = pc') (ha : a < 2 ^ 31) (hb : b < 2 ^ 31) (kt : a ≤ b → V G M R Z S tgt lv st hp kc ks) (kf : b < a → V G M R Z S pc' lv st hp kc ks) : V G M R Z S pc lv (.int (nI b) :: .int (nI a) :: st) hp kc ks := v_icmp_le hd ht hn (fun h => kt ((nI_leI ha hb).mp h)) (fun h => kf (Nat.not_le.mp (fun q => h ((nI_leI ha hb).mpr q))))
theorem v_if_eqN {a : Nat} {off : Int} (hd : decode M.2.1 pc = .ok (.ifCond .eq off, 3)) (ht : (pc : Int) + off = (tgt : Int)) (hn : pc + 3 = pc') (ha : a < 2 ^ 31) (kt : a = 0 → V G M R Z S tgt lv st hp kc ks) (kf : ¬ a = 0 → V G M R Z S pc' lv st hp kc ks) : V G M R Z S pc lv (.int (nI a) :: st) hp kc ks := v_if_eq hd ht hn (fun h => kt ((nI_eq ha (by decide)).mp (h.trans nI_0.symm))) (fun h => kf (fun q => h (by rw [q]; rfl)))
theorem v_if_neN {a : Nat} {off : Int} (hd : decode M.2.1 pc = .ok (.ifCond .ne off, 3)) (ht : (pc : Int) + off = (tgt : Int)) (hn : pc + 3 = pc') (ha : a < 2 ^ 31) (kt : ¬ a = 0 → V G M R Z S tgt lv st hp kc ks) (kf : a = 0 → V G M R Z S pc' lv st hp kc ks) : V G M R Z S pc lv (.int (nI a) :: st) hp kc ks := v_if_ne hd ht hn (fun h => kt (fun q => h (by rw [q]; rfl))) (fun h => kf ((nI_eq ha (by decide)).mp (h.trans nI_0.symm)))
theorem v_if_ltN {a : Nat} {off : Int} (hd : decode M.2.1 pc = .ok (.ifCond .lt off, 3)) (ht : (pc : Int) + off = (tgt : Int)) (hn : pc + 3 = pc') (ha : a < 2 ^ 31) (k : V G M R Z S pc' lv st hp kc ks) : V G M R Z S pc lv (.int (nI a) :: st) hp kc ks := v_if_lt hd ht hn (fun h => absurd h (nI_pos ha)) (fun _ => k)
theorem v_if_geN {a : Nat} {off : Int} (hd : decode M.2.1 pc = .ok (.ifCond .ge off, 3)) (ht : (pc : Int) + off = (tgt : Int)) (ha : a < 2 ^ 31) (k : V G M R Z S tgt lv st hp kc ks) : V G M R Z S pc lv (.int (nI a) :: st) hp kc ks := v_if_ge hd ht rfl (fun _ => k) (fun h => absurd (nI_pos' ha) h)
theorem v_if_gtN {a : Nat} {off : Int} (hd : decode M.2.1 pc = .ok (.ifCond .gt off, 3)) (ht : (pc : Int) + off = (tgt : Int)) (hn : pc + 3 = pc') (ha : a < 2 ^ 31) (kt : 0 < a → V G M R Z S tgt lv st hp kc ks) (kf : a = 0 → V G M R Z S pc' lv st hp kc ks) : V G M R Z S pc lv (.int (nI a) :: st) hp kc ks := v_if_gt hd ht hn (fun h => kt (Nat.pos_of_ne_zero (fun q => absurd h (by rw [q]; decide)))) (fun h => kf (Nat.eq_zero_of_not_pos (fun q => h (by have := (nI_ltI (a := 0) (by decide) ha).mpr q; exact this))))
theorem v_if_leN {a : Nat} {off : Int} (hd : decode M.2.1 pc = .ok (.ifCond .le off, 3)) (ht : (pc : Int) + off = (tgt : Int)) (hn : pc + 3 = pc') (ha : a < 2 ^ 31) (kt : a = 0 → V G M R Z S tgt lv st hp kc ks) (kf : 0 < a → V G M R Z S pc' lv st hp kc ks) : V G M R Z S pc lv (.int (nI a) :: st) hp kc ks := v_if_le hd ht hn (fun h => kt (Nat.eq_zero_of_not_pos (fun q => nI_nle q ha h))) (fun h => kf (Nat.pos_of_ne_zero (fun q => h (by rw [q]; decide))))
theorem v_icmp_gtA {x y : Int32} {off : Int} (hd : decode M.2.1 pc = .ok (.if_icmp .gt off, 3)) (ht : (pc : Int) + off = (tgt : Int)) (hn : pc + 3 = pc') (kt : ¬ x ≤ y → V G M R Z S tgt lv st hp kc ks) (kf : x ≤ y → V G M R Z S pc' lv st hp kc ks) : V G M R Z S pc lv (.int y :: .int x :: st) hp kc ks := v_icmp_gt hd ht hn (fun h => kt (Int32.not_le.mpr h)) (fun h => kf (Int32.not_lt.mp h))
theorem v_icmp_ltA {x y : Int32} {off : Int} (hd : decode M.2.1 pc = .ok (.if_icmp .lt off, 3)) (ht : (pc : Int) + off = (tgt : Int)) (hn : pc + 3 = pc') (kt : ¬ y ≤ x → V G M R Z S tgt lv st hp kc ks) (kf : y ≤ x → V G M R Z S pc' lv st hp kc ks) : V G M R Z S pc lv (.int y :: .int x :: st) hp kc ks := v_icmp_lt hd ht hn (fun h => kt (Int32.not_le.mpr h)) (fun h => kf (Int32.not_lt.mp h))
theorem v_if_gtA {x : Int32} {off : Int} (hd : decode M.2.1 pc = .ok (.ifCond .gt off, 3)) (ht : (pc : Int) + off = (tgt : Int)) (hn : pc + 3 = pc') (kt : ¬ x ≤ 0 → V G M R Z S tgt lv st hp kc ks) (kf : x ≤ 0 → V G M R Z S pc' lv st hp kc ks) : V G M R Z S pc lv (.int x :: st) hp kc ks := v_if_gt hd ht hn (fun h => kt (Int32.not_le.mpr h)) (fun h => kf (Int32.not_lt.mp h))
theorem v_if_ltA {x : Int32} {off : Int} (hd : decode M.2.1 pc = .ok (.ifCond .lt off, 3)) (ht : (pc : Int) + off = (tgt : Int)) (hn : pc + 3 = pc') (kt : ¬ 0 ≤ x → V G M R Z S tgt lv st hp kc ks) (kf : 0 ≤ x → V G M R Z S pc' lv st hp kc ks) : V G M R Z S pc lv (.int x :: st) hp kc ks := v_if_lt hd ht hn (fun h => kt (Int32.not_le.mpr h)) (fun h => kf (Int32.not_lt.mp h))
theorem v_csf {index n d mc ms : Nat} {N : MI} {As rest : List Value} {v : Value} {hp' : List va_E} (hd : decode M.2.1 pc = .ok (.invokestatic index, 3)) (hcw : CW M.1.cls index N n) (hst : Cond.static N.1 ∈ tbl) (hM : Ct G N d mc ms As hp (Qf (some v) hp')) (hlen : As.length = n) (hstk : st = As.reverse ++ rest) (hW : (rest.map fun v => v.category).sum ≤ 8) (hf : d + 1 ≤ R.frames) (hlo : 48 * d + 48 ≤ R.locals) (hc1 : kc + mc ≤ R.cells) (hc2 : ks + ms ≤ R.slots) (hn : pc + 3 = pc') (kk : V G M R Z S pc' lv (v :: rest) hp' (kc + mc) (ks + ms)) : V G M R Z S pc lv st hp kc ks := v_cs hd hcw hst hM hlen hstk hW hf hlo hc1 hc2 hn (fun r h q => by obtain ⟨rfl, rfl⟩ := q; exact kk)
theorem v_cvf {index n d mc ms i ci : Nat} {fs : List Value} {N : MI} {As rest : List Value} {v : Value} {hp' : List va_E} (hd : decode M.2.1 pc = .ok (.invokevirtual index, 3)) (hcw : CW M.1.cls index N n) (hst : Cond.instanceMethod N.1 ∈ tbl ∧ Cond.selects N.1.cls N.1 N.1 ∈ tbl) (hrc : (vwCl[ci]?).map (fun q => q.1) = some N.1.cls) (he : hp[i]? = some (ob ci fs)) (hM : Ct G N d mc ms (.ref (G.2.2.2 + i) :: As) hp (Qf (some v) hp')) (hlen : As.length = n) (hstk : st = As.reverse ++ .ref (G.2.2.2 + i) :: rest) (hW : (rest.map fun v => v.category).sum ≤ 8) (hf : d + 1 ≤ R.frames) (hlo : 48 * d + 48 ≤ R.locals) (hc1 : kc + mc ≤ R.cells) (hc2 : ks + ms ≤ R.slots) (hn : pc + 3 = pc') (kk : V G M R Z S pc' lv (v :: rest) hp' (kc + mc) (ks + ms)) : V G M R Z S pc lv st hp kc ks := v_cv hd hcw hst hrc he hM hlen hstk hW hf hlo hc1 hc2 hn (fun r h q => by obtain ⟨rfl, rfl⟩ := q; exact kk)
theorem v_cvn {index n d mc ms i ci : Nat} {fs : List Value} {N : MI} {As rest : List Value} {hp' : List va_E} (hd : decode M.2.1 pc = .ok (.invokevirtual index, 3)) (hcw : CW M.1.cls index N n) (hst : Cond.instanceMethod N.1 ∈ tbl ∧ Cond.selects N.1.cls N.1 N.1 ∈ tbl) (hrc : (vwCl[ci]?).map (fun q => q.1) = some N.1.cls) (he : hp[i]? = some (ob ci fs)) (hM : Ct G N d mc ms (.ref (G.2.2.2 + i) :: As) hp (Qf none hp')) (hlen : As.length = n) (hstk : st = As.reverse ++ .ref (G.2.2.2 + i) :: rest) (hW : (rest.map fun v => v.category).sum ≤ 8) (hf : d + 1 ≤ R.frames) (hlo : 48 * d + 48 ≤ R.locals) (hc1 : kc + mc ≤ R.cells) (hc2 : ks + ms ≤ R.slots) (hn : pc + 3 = pc') (kk : V G M R Z S pc' lv rest hp' (kc + mc) (ks + ms)) : V G M R Z S pc lv st hp kc ks := v_cv hd hcw hst hrc he hM hlen hstk hW hf hlo hc1 hc2 hn (fun r h q => by obtain ⟨rfl, rfl⟩ := q; exact kk)
theorem v_cin {index n d mc ms i : Nat} {N : MI} {As rest : List Value} {hp' : List va_E} (hd : decode M.2.1 pc = .ok (.invokespecial index, 3)) (hcw : CW M.1.cls index N n) (hst : N.1.name = "<init>" ∧ Cond.instanceMethod N.1 ∈ tbl) (hret : N.2.2.2 = none) (hM : Ct G N d mc ms (.ref i :: As) hp (Qf none hp')) (hlen : As.length = n) (hstk : st = As.reverse ++ .ref i :: rest) (hW : (rest.map fun v => v.category).sum ≤ 8) (hf : d + 1 ≤ R.frames) (hlo : 48 * d + 48 ≤ R.locals) (hc1 : kc + mc ≤ R.cells) (hc2 : ks + ms ≤ R.slots) (hn : pc + 3 = pc') (kk : V G M R Z S pc' lv rest hp' (kc + mc) (ks + ms)) : V G M R Z S pc lv st hp kc ks := v_ci hd hcw hst hret hM hlen hstk hW hf hlo hc1 hc2 hn (fun r h q => by obtain ⟨rfl, rfl⟩ := q; exact kk)
end RULES
/-- in range: 0 .. n - 1 -/
abbrev InR (x : Int32) (n : Nat) : Prop := 0 ≤ x ∧ ¬ nI n ≤ x
theorem i_toInt {n : Nat} (h : n < 2 ^ 31) : (nI n).toInt = n := nI_toInt h
theorem inR_of {x : Int32} {n : Nat} (hn : n < 2 ^ 31) (h : InR x n) : ∃ j, j < n ∧ x = nI j := by
  have h1 := Int32.le_iff_toInt_le.mp h.1
  obtain ⟨j, hj, rfl⟩ := nI_of (x := x) (fun q => by
    have h2 := Int32.lt_iff_toInt_lt.mp q
    omega)
  exact ⟨j, Nat.not_le.mp (fun q => h.2 (nI_le q hj)), rfl⟩
theorem inR_nI {j n : Nat} (hj : j < n) (hn : n < 2 ^ 31) : InR (nI j) n := ⟨nI_pos' (by omega), fun q => absurd ((nI_leI hn (by omega)).mp q) (by omega)⟩
theorem inR_iff {j n : Nat} (hj : j < 2 ^ 31) (hn : n < 2 ^ 31) : InR (nI j) n ↔ j < n := ⟨fun h => Nat.not_le.mp (fun q => h.2 (nI_le q hj)), fun h => inR_nI h hn⟩
theorem i_le1 {x : Int32} {n : Nat} (hn : n + 1 < 2 ^ 31) : x ≤ nI n ↔ ¬ nI (n + 1) ≤ x := by
  rw [Int32.not_le, Int32.le_iff_toInt_le, Int32.lt_iff_toInt_lt, nI_toInt hn, nI_toInt (by omega)]
  omega
/-- a yes or no -/
noncomputable def bP (p : Prop) : Int32 := @ite _ p (Classical.propDecidable p) (nI 1) (nI 0)
theorem bP_t {p : Prop} (h : p) : bP p = nI 1 := if_pos h
theorem bP_f {p : Prop} (h : ¬ p) : bP p = nI 0 := if_neg h
theorem bP_c {p q : Prop} (h : p ↔ q) : bP p = bP q := by
  by_cases hp : p
  · rw [bP_t hp, bP_t (h.mp hp)]
  · rw [bP_f hp, bP_f (fun x => hp (h.mpr x))]
theorem Ct.yes {G : GG} {M : MI} {d mc ms : Nat} {av : List Value} {hp hp' : List va_E} {p : Prop} (h : Ct G M d mc ms av hp (Qf (some (.int (bP p))) hp')) (hh : p) : Ct G M d mc ms av hp (Qf (some (.int (nI 1))) hp') := by rw [bP_t hh] at h; exact h
theorem Ct.no {G : GG} {M : MI} {d mc ms : Nat} {av : List Value} {hp hp' : List va_E} {p : Prop} (h : Ct G M d mc ms av hp (Qf (some (.int (bP p))) hp')) (hh : ¬ p) : Ct G M d mc ms av hp (Qf (some (.int (nI 0))) hp') := by rw [bP_f hh] at h; exact h
theorem Ct.is {G : GG} {M : MI} {d mc ms : Nat} {av : List Value} {hp hp' : List va_E} {x y : Int32} (h : Ct G M d mc ms av hp (Qf (some (.int x)) hp')) (hh : x = y) : Ct G M d mc ms av hp (Qf (some (.int y)) hp') := by rw [hh] at h; exact h
/-- how many of the first n -/
noncomputable def cnt (p : Nat → Prop) : Nat → Nat
  | 0 => 0
  | n + 1 => @ite _ (p n) (Classical.propDecidable (p n)) (cnt p n + 1) (cnt p n)
theorem cnt_t {p : Nat → Prop} {n : Nat} (h : p n) : cnt p (n + 1) = cnt p n + 1 := if_pos h
theorem cnt_f {p : Nat → Prop} {n : Nat} (h : ¬ p n) : cnt p (n + 1) = cnt p n := if_neg h
theorem cnt_le (p : Nat → Prop) : ∀ n, cnt p n ≤ n
  | 0 => Nat.le_refl 0
  | n + 1 => by
    have := cnt_le p n
    by_cases h : p n
    · rw [cnt_t h]; omega
    · rw [cnt_f h]; omega
theorem ct_lv {av : List Value} (k : Nat) : ∀ (i : Nat) (v : Value), (av.map some ++ List.replicate k none)[i]? = some (some v) → av[i]? = some v := by
  intro i v h
  by_cases hi : i < av.length
  · rw [List.getElem?_append_left (by simpa using hi), List.getElem?_map] at h
    cases hh : av[i]? with
    | none => rw [hh] at h; cases h
    | some w => rw [hh] at h; cases h; rfl
  · rw [List.getElem?_append_right (by simpa using hi)] at h
    have := List.mem_of_getElem? h
    simp at this
theorem Ct.start {G : GG} {M : MI} {d mc ms : Nat} {av : List Value} {hp : List va_E} {Q : QQ} (k : Nat) (hy : plainFor M.1 = true) (hc : av.all (fun v => v.category == 1) = true) (hn : (lg_sl av).length ≤ M.2.2.1) (h : Vm G M d mc ms Q 0 (av.map some ++ List.replicate k none) [] hp 0 0) : Ct G M d mc ms av hp Q := Ct.of hy hc hn (ct_lv k) h
