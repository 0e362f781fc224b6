/-! ODDS: the class's recursion over marks counts what the reference's numbers count -/
noncomputable def iP (p : Prop) : Nat := @ite _ p (Classical.propDecidable p) 1 0
theorem iP_c {p q : Prop} (h : p ↔ q) : iP p = iP q := by rw [propext h]
def smN : Nat → (Nat → Nat) → Nat
  | 0, _ => 0
  | n + 1, f => smN n f + f n
theorem smN_congr {f g : Nat → Nat} : ∀ n, (∀ i, i < n → f i = g i) → smN n f = smN n g
  | 0, _ => rfl
  | n + 1, h => by rw [smN, smN, smN_congr n (fun i hi => h i (by omega)), h n (by omega)]
theorem smN_add (f g : Nat → Nat) : ∀ n, smN n (fun i => f i + g i) = smN n f + smN n g
  | 0 => rfl
  | n + 1 => by rw [smN, smN, smN, smN_add f g n]; omega
theorem smN_zero : ∀ n, smN n (fun _ => 0) = 0
  | 0 => rfl
  | n + 1 => by rw [smN, smN_zero n]
theorem smN_left (f : Nat → Nat) : ∀ n, smN (n + 1) f = f 0 + smN n (fun i => f (i + 1))
  | 0 => by simp [smN]
  | n + 1 => by
    rw [smN, smN_left f n, smN]
    omega
theorem smN_comm (f : Nat → Nat → Nat) (b : Nat) : ∀ a, smN a (fun i => smN b (fun j => f i j)) = smN b (fun j => smN a (fun i => f i j))
  | 0 => by simp only [smN]; exact (smN_zero b).symm
  | a + 1 => by
    simp only [smN]
    rw [smN_comm f b a, ← smN_add]
theorem smN_app (f : Nat → Nat) (a : Nat) : ∀ b, smN (a + b) f = smN a f + smN b (fun j => f (a + j))
  | 0 => rfl
  | b + 1 => by
    rw [show a + (b + 1) = (a + b) + 1 from rfl, smN, smN_app f a b, smN]
    omega
theorem smN_block (f : Nat → Nat) (b : Nat) : ∀ a, smN (a * b) f = smN a (fun d => smN b (fun j => f (d * b + j)))
  | 0 => by rw [Nat.zero_mul]; rfl
  | a + 1 => by rw [Nat.add_mul, Nat.one_mul, smN_app, smN_block f b a, smN]
theorem cnt_sm (p : Nat → Prop) : ∀ n, cnt p n = smN n (fun i => iP (p i))
  | 0 => rfl
  | n + 1 => by
    rw [smN, ← cnt_sm p n]
    by_cases h : p n
    · rw [cnt_t h, iP, if_pos h]
    · rw [cnt_f h, iP, if_neg h]; rfl
theorem facN_pos : ∀ n, 0 < facN n
  | 0 => by decide
  | n + 1 => Nat.mul_pos (by omega) (facN_pos n)
theorem tkL_rest (p : Nat → Int32) (num : Nat) : ∀ z, (tkL p num z).2 = num / facN z
  | 0 => (Nat.div_one _).symm
  | z + 1 => by
    show (tkL p num z).2 / (z + 1) = _
    rw [tkL_rest p num z, Nat.div_div_eq_div_mul, Nat.mul_comm]
    rfl
theorem tkL_mod (p : Nat → Int32) : ∀ z a b, a % facN z = b % facN z → (tkL p a z).1 = (tkL p b z).1
  | 0, _, _, _ => rfl
  | z + 1, a, b, h => by
    have e : facN (z + 1) = facN z * (z + 1) := Nat.mul_comm _ _
    rw [e] at h
    have h1 : a % facN z = b % facN z := by
      rw [← Nat.mod_mod_of_dvd a (Nat.dvd_mul_right (facN z) (z + 1)), h, Nat.mod_mod_of_dvd b (Nat.dvd_mul_right (facN z) (z + 1))]
    have h2 : a / facN z % (z + 1) = b / facN z % (z + 1) := by
      rw [← Nat.mod_mul_right_div_self, h, Nat.mod_mul_right_div_self]
    show insL ((tkL p a z).2 % (z + 1)) (p z) (tkL p a z).1 = insL ((tkL p b z).2 % (z + 1)) (p z) (tkL p b z).1
    rw [tkL_rest, tkL_rest, h2, tkL_mod p z a b h1]
def sIns (p : Nat → Int32) (z : Nat) (f : List Int32 → Nat) : Nat := smN (facN z) (fun num => f (tkL p num z).1)
theorem sIns_succ (p : Nat → Int32) (z : Nat) (f : List Int32 → Nat) : sIns p (z + 1) f = sIns p z (fun r => smN (z + 1) (fun d => f (insL d (p z) r))) := by
  unfold sIns
  rw [show facN (z + 1) = (z + 1) * facN z from rfl, smN_block, smN_comm (fun num d => f (insL d (p z) (tkL p num z).1))]
  refine smN_congr _ (fun d hd => smN_congr _ (fun j hj => ?_))
  have e1 : (tkL p (d * facN z + j) z).2 = d := by
    rw [tkL_rest, Nat.mul_comm, Nat.mul_add_div (facN_pos z), Nat.div_eq_of_lt hj, Nat.add_zero]
  have e2 : (tkL p (d * facN z + j) z).1 = (tkL p j z).1 := tkL_mod p z _ _ (by rw [Nat.mul_comm, Nat.mul_add_mod])
  show f (insL ((tkL p (d * facN z + j) z).2 % (z + 1)) (p z) (tkL p (d * facN z + j) z).1) = _
  rw [e1, e2, Nat.mod_eq_of_lt hd]
def smL {β : Type} : List β → (β → Nat) → Nat
  | [], _ => 0
  | a :: l, f => f a + smL l f
theorem smL_congr {β : Type} {f g : β → Nat} : ∀ l : List β, (∀ a ∈ l, f a = g a) → smL l f = smL l g
  | [], _ => rfl
  | a :: l, h => by rw [smL, smL, h a List.mem_cons_self, smL_congr l (fun b hb => h b (List.mem_cons_of_mem _ hb))]
theorem smL_add {β : Type} (f g : β → Nat) : ∀ l : List β, smL l (fun a => f a + g a) = smL l f + smL l g
  | [] => rfl
  | a :: l => by rw [smL, smL, smL, smL_add f g l]; omega
theorem smL_map {β γ : Type} (g : β → γ) (f : γ → Nat) : ∀ l : List β, smL (l.map g) f = smL l (fun a => f (g a))
  | [] => rfl
  | a :: l => by rw [List.map_cons, smL, smL, smL_map g f l]
def sel : List Int32 → List (Int32 × List Int32)
  | [] => []
  | x :: l => (x, l) :: (sel l).map (fun q => (q.1, x :: q.2))
theorem sel_ind {P : List Int32 → Int32 × List Int32 → Prop} (h0 : ∀ x l, P (x :: l) (x, l)) (h1 : ∀ x l q, P l q → P (x :: l) (q.1, x :: q.2)) : ∀ l q, q ∈ sel l → P l q
  | [], q, h => by simp [sel] at h
  | x :: l, q, h => by
    rcases List.mem_cons.mp h with e | e
    · subst e; exact h0 x l
    · obtain ⟨q', hq, rfl⟩ := List.mem_map.mp e
      exact h1 x l q' (sel_ind h0 h1 l q' hq)
theorem sel_len {l : List Int32} {q : Int32 × List Int32} (h : q ∈ sel l) : q.2.length + 1 = l.length :=
  sel_ind (P := fun l q => q.2.length + 1 = l.length) (fun _ _ => rfl) (fun x l q h => by simp only [List.length_cons]; omega) l q h
theorem sel_mem {l : List Int32} {q : Int32 × List Int32} (h : q ∈ sel l) : q.1 ∈ l ∧ ∀ v ∈ q.2, v ∈ l :=
  sel_ind (P := fun l q => q.1 ∈ l ∧ ∀ v ∈ q.2, v ∈ l) (fun x l => ⟨List.mem_cons_self, fun v hv => List.mem_cons_of_mem _ hv⟩) (fun x l q h => ⟨List.mem_cons_of_mem _ h.1, fun v hv => by
    rcases List.mem_cons.mp hv with e | e
    · subst e; exact List.mem_cons_self
    · exact List.mem_cons_of_mem _ (h.2 v e)⟩) l q h
def sSel : Nat → List Int32 → (List Int32 → Nat) → Nat
  | 0, _, f => f []
  | n + 1, l, f => smL (sel l) (fun q => sSel n q.2 (fun t => f (q.1 :: t)))
theorem sSel_add : ∀ (n : Nat) (l : List Int32) (f g : List Int32 → Nat), sSel n l (fun t => f t + g t) = sSel n l f + sSel n l g
  | 0, _, _, _ => rfl
  | n + 1, l, f, g => by
    simp only [sSel]
    rw [← smL_add]
    exact smL_congr _ (fun q _ => sSel_add n q.2 _ _)
theorem sel_ins : ∀ (n : Nat) (x : Int32) (l : List Int32) (f : List Int32 → Nat), l.length = n → sSel (n + 1) (x :: l) f = sSel n l (fun r => smN (n + 1) (fun d => f (insL d x r)))
  | 0, x, l, f, h => by
    obtain rfl : l = [] := List.eq_nil_of_length_eq_zero h
    simp [sSel, sel, smL, smN, insL]
  | n + 1, x, l, f, h => by
    have e1 : sSel (n + 2) (x :: l) f = sSel (n + 1) l (fun t => f (x :: t)) + smL (sel l) (fun q => sSel (n + 1) (x :: q.2) (fun t => f (q.1 :: t))) := by
      rw [sSel, sel, smL, smL_map]
    rw [e1]
    rw [show sSel (n + 1) l (fun r => smN (n + 2) (fun d => f (insL d x r))) = smL (sel l) (fun q => sSel n q.2 (fun t => smN (n + 2) (fun d => f (insL d x (q.1 :: t))))) from rfl]
    rw [show sSel (n + 1) l (fun t => f (x :: t)) = smL (sel l) (fun q => sSel n q.2 (fun t => f (x :: q.1 :: t))) from rfl]
    rw [← smL_add]
    refine smL_congr _ (fun q hq => ?_)
    rw [sel_ins n x q.2 _ (by have := sel_len hq; omega), ← sSel_add]
    congr 1
    funext t
    exact (smN_left (fun d => f (insL d x (q.1 :: t))) (n + 1)).symm
def rvL (p : Nat → Int32) : Nat → List Int32
  | 0 => []
  | z + 1 => p z :: rvL p z
theorem rvL_len (p : Nat → Int32) : ∀ z, (rvL p z).length = z
  | 0 => rfl
  | z + 1 => by rw [rvL, List.length_cons, rvL_len p z]
theorem rvL_mem {p : Nat → Int32} {v : Int32} : ∀ z, v ∈ rvL p z → ∃ j, j < z ∧ v = p j
  | 0, h => by simp [rvL] at h
  | z + 1, h => by
    rcases List.mem_cons.mp h with e | e
    · exact ⟨z, by omega, e⟩
    · obtain ⟨j, hj, e⟩ := rvL_mem z e
      exact ⟨j, by omega, e⟩
theorem ins_sel (p : Nat → Int32) : ∀ (z : Nat) (f : List Int32 → Nat), sIns p z f = sSel z (rvL p z) f
  | 0, f => by simp [sIns, facN, smN, tkL, sSel]
  | z + 1, f => by
    rw [sIns_succ, ins_sel p z, rvL, sel_ins z (p z) (rvL p z) f (rvL_len p z)]
def beZ (x : Int32) : List Int32 → Int
  | [] => 0
  | y :: r => (cmpI y x).toInt + beZ x r
def dZ : List Int32 → Int
  | [] => 0
  | x :: r => beZ x r + dZ r
theorem cmp_bd (a b : Int32) : -1 ≤ (cmpI a b).toInt ∧ (cmpI a b).toInt ≤ 1 := by
  unfold cmpI
  split
  · split <;> decide
  · decide
theorem beZ_bd (x : Int32) : ∀ l : List Int32, -(l.length : Int) ≤ beZ x l ∧ beZ x l ≤ l.length
  | [] => by simp [beZ]
  | y :: r => by
    have h1 := cmp_bd y x
    have h2 := beZ_bd x r
    simp only [beZ, List.length_cons]
    omega
theorem sel_be {l : List Int32} {q : Int32 × List Int32} (h : q ∈ sel l) (x : Int32) : beZ x l = beZ x (q.1 :: q.2) :=
  sel_ind (P := fun l q => beZ x l = beZ x (q.1 :: q.2)) (fun _ _ => rfl) (fun y l q h => by
    simp only [beZ] at h ⊢
    omega) l q h
theorem sSel_congr : ∀ (n : Nat) (l : List Int32) (f g : List Int32 → Nat), l.length = n → (∀ t, (∀ x, beZ x t = beZ x l) → f t = g t) → sSel n l f = sSel n l g
  | 0, l, f, g, hl, h => by
    obtain rfl : l = [] := List.eq_nil_of_length_eq_zero hl
    exact h [] (fun _ => rfl)
  | n + 1, l, f, g, hl, h => by
    simp only [sSel]
    refine smL_congr _ (fun q hq => sSel_congr n q.2 _ _ (by have := sel_len hq; omega) (fun t ht => h _ (fun x => ?_)))
    rw [sel_be hq x, beZ, beZ, ht x]
def ctL (k : Nat) : List Int32 → Nat
  | [] => 0
  | v :: r => (if v = nI k then 1 else 0) + ctL k r
theorem sel_ct {l : List Int32} {q : Int32 × List Int32} (h : q ∈ sel l) (k : Nat) : ctL k l = ctL k (q.1 :: q.2) :=
  sel_ind (P := fun l q => ctL k l = ctL k (q.1 :: q.2)) (fun _ _ => rfl) (fun y l q h => by
    simp only [ctL] at h ⊢
    omega) l q h
theorem ctL_le (k : Nat) : ∀ l : List Int32, ctL k l ≤ l.length
  | [] => Nat.le_refl _
  | v :: r => by
    have := ctL_le k r
    simp only [ctL, List.length_cons]
    split <;> omega
def smI {β : Type} : List β → (β → Int32) → Int32
  | [], _ => nI 0
  | a :: l, f => f a + smI l f
theorem smI_congr {β : Type} {f g : β → Int32} : ∀ l : List β, (∀ a ∈ l, f a = g a) → smI l f = smI l g
  | [], _ => rfl
  | a :: l, h => by rw [smI, smI, h a List.mem_cons_self, smI_congr l (fun b hb => h b (List.mem_cons_of_mem _ hb))]
theorem smI_nI {β : Type} (f : β → Nat) : ∀ l : List β, nI (smL l f) = smI l (fun a => nI (f a))
  | [] => rfl
  | a :: l => by rw [smL, smI, ← smI_nI f l, nI_add]
theorem smI_map {β γ : Type} (g : β → γ) (f : γ → Int32) : ∀ l : List β, smI (l.map g) f = smI l (fun a => f (g a))
  | [] => rfl
  | a :: l => by rw [List.map_cons, smI, smI, smI_map g f l]
theorem smI_sel (c : Int32 → Int32) : ∀ l : List Int32, smI (sel l) (fun q => c q.1) = smI l c
  | [] => rfl
  | x :: l => by rw [sel, smI, smI_map, smI_sel c l, smI]
theorem smI_four (c : Int32 → Int32) : ∀ l : List Int32, (∀ v ∈ l, ∃ k, k < 4 ∧ v = nI k) → smI l c = nI (ctL 0 l) * c (nI 0) + nI (ctL 1 l) * c (nI 1) + nI (ctL 2 l) * c (nI 2) + nI (ctL 3 l) * c (nI 3)
  | [], _ => by
    simp only [smI, ctL]
    have h : nI 0 = 0 := rfl
    rw [h]
    simp
  | v :: r, h => by
    have ih := smI_four c r (fun w hw => h w (List.mem_cons_of_mem _ hw))
    obtain ⟨k, hk, e⟩ := h v List.mem_cons_self
    have h4 : k = 0 ∨ k = 1 ∨ k = 2 ∨ k = 3 := by omega
    have one : ∀ n, nI (1 + n) = 1 + nI n := fun n => by rw [← nI_add]; rfl
    have zer : ∀ n, nI (0 + n) = nI n := fun n => by rw [Nat.zero_add]
    rw [smI, ih]
    subst e
    rcases h4 with h4 | h4 | h4 | h4 <;> subst h4
    · simp only [ctL, if_pos, if_neg (show ¬ nI 0 = nI 1 by decide), if_neg (show ¬ nI 0 = nI 2 by decide), if_neg (show ¬ nI 0 = nI 3 by decide), one, zer]
      grind
    · simp only [ctL, if_pos, if_neg (show ¬ nI 1 = nI 0 by decide), if_neg (show ¬ nI 1 = nI 2 by decide), if_neg (show ¬ nI 1 = nI 3 by decide), one, zer]
      grind
    · simp only [ctL, if_pos, if_neg (show ¬ nI 2 = nI 0 by decide), if_neg (show ¬ nI 2 = nI 1 by decide), if_neg (show ¬ nI 2 = nI 3 by decide), one, zer]
      grind
    · simp only [ctL, if_pos, if_neg (show ¬ nI 3 = nI 0 by decide), if_neg (show ¬ nI 3 = nI 1 by decide), if_neg (show ¬ nI 3 = nI 2 by decide), one, zer]
      grind
theorem smI_be (x : Int32) : ∀ l : List Int32, l.length ≤ 100 → (smI l (fun v => cmpI v x)).toInt = beZ x l
  | [], _ => rfl
  | y :: r, h => by
    have ih := smI_be x r (by simp only [List.length_cons] at h; omega)
    have h1 := cmp_bd y x
    have h2 := beZ_bd x r
    simp only [List.length_cons] at h
    rw [smI, Int32.toInt_add, ih, bmod_ok (by omega) (by omega), beZ]
theorem db_be {k : Nat} {u : Nat → Int32} {r : List Int32} (hr : r.length ≤ 100) (hm : ∀ v ∈ r, ∃ k, k < 4 ∧ v = nI k) (hu : ∀ j, j < 4 → u j = nI (ctL j r)) : (dbI k u 4).toInt = beZ (nI k) r := by
  rw [← smI_be (nI k) r hr, smI_four _ r hm]
  congr 1
  simp only [dbI]
  rw [hu 0 (by decide), hu 1 (by decide), hu 2 (by decide), hu 3 (by decide)]
  have h : nI 0 = 0 := rfl
  rw [show nI 0 + nI (ctL 0 r) * cmpI (nI 0) (nI k) = nI (ctL 0 r) * cmpI (nI 0) (nI k) from by rw [h]; simp]
theorem co_zero (l : List Int32) (u : Nat → Int32) (w : Int32) : coI 0 u w = nI (sSel 0 l (fun r => iP (w.toInt ≤ dZ r))) := by
  have h0 : (0 : Int32).toInt = 0 := rfl
  have e1 : coI 0 u w = if w ≤ 0 then nI 1 else nI 0 := rfl
  have e2 : sSel 0 l (fun r => iP (w.toInt ≤ dZ r)) = iP (w.toInt ≤ 0) := rfl
  rw [e1, e2]
  by_cases h : w ≤ 0
  · rw [if_pos h, iP, if_pos (by have := Int32.le_iff_toInt_le.mp h; omega)]
  · rw [if_neg h, iP, if_neg (fun q => h (Int32.le_iff_toInt_le.mpr (by omega)))]
theorem co_sel (t : Nat) : ∀ (l : List Int32) (u : Nat → Int32) (w : Int32), l.length = t → t ≤ 6 → (∀ v ∈ l, ∃ k, k < 4 ∧ v = nI k) → (∀ k, k < 4 → u k = nI (ctL k l)) → 10 * (t : Int) - 200 ≤ w.toInt → w.toInt ≤ 200 - 10 * (t : Int) → coI t u w = nI (sSel t l (fun r => iP (w.toInt ≤ dZ r))) := by
  induction t with
  | zero => exact fun l u w _ _ _ _ _ _ => co_zero l u w
  | succ t IH =>
    intro l u w hl ht hm hu hw1 hw2
    let c : Int32 → Int32 := fun v => coI t (upd u v.toNatClampNeg (u v.toNatClampNeg - nI 1)) (w - dbI v.toNatClampNeg (upd u v.toNatClampNeg (u v.toNatClampNeg - nI 1)) 4)
    have hc : ∀ k, k < 4 → c (nI k) = coI t (upd u k (u k - nI 1)) (w - dbI k (upd u k (u k - nI 1)) 4) := fun k hk => by
      show coI t (upd u (nI k).toNatClampNeg (u (nI k).toNatClampNeg - nI 1)) (w - dbI (nI k).toNatClampNeg (upd u (nI k).toNatClampNeg (u (nI k).toNatClampNeg - nI 1)) 4) = _
      rw [nI_clamp (by omega)]
    have e1 : nI (sSel (t + 1) l (fun r => iP (w.toInt ≤ dZ r))) = smI l c := by
      rw [← smI_sel c l, sSel, smI_nI]
      refine smI_congr _ (fun q hq => ?_)
      obtain ⟨k, hk, ek⟩ := hm q.1 (sel_mem hq).1
      have hlen := sel_len hq
      have hm2 : ∀ v ∈ q.2, ∃ k, k < 4 ∧ v = nI k := fun v hv => hm v ((sel_mem hq).2 v hv)
      have hb := beZ_bd q.1 q.2
      have hu2 : ∀ j, j < 4 → upd u k (u k - nI 1) j = nI (ctL j q.2) := fun j hj => by
        have hct := sel_ct hq j
        simp only [ctL] at hct
        by_cases e : j = k
        · subst e
          rw [upd_s, hu j hj, hct, if_pos ek, pk_sub (by omega)]
          congr 1
          omega
        · rw [upd_n e, hu j hj, hct, if_neg (fun q => e ((nI_eq (by omega) (by omega)).mp (q.symm.trans ek))), Nat.zero_add]
      have hdb := db_be (k := k) (r := q.2) (by omega) hm2 hu2
      rw [← ek] at hdb
      have hw' : (w - dbI k (upd u k (u k - nI 1)) 4).toInt = w.toInt - beZ q.1 q.2 := by
        rw [Int32.toInt_sub, hdb, bmod_ok (by omega) (by omega)]
      have ih := IH q.2 (upd u k (u k - nI 1)) (w - dbI k (upd u k (u k - nI 1)) 4) (by omega) (by omega) hm2 hu2 (by rw [hw']; omega) (by rw [hw']; omega)
      rw [ek, hc k hk, ih, hw']
      congr 1
      refine sSel_congr t q.2 _ _ (by omega) (fun r hr => iP_c ?_)
      rw [dZ, ← ek, hr q.1]
      constructor <;> intro z <;> omega
    rw [e1, smI_four c l hm]
    have st : ∀ k, k < 4 → coT (coI t) u w (k + 1) = coT (coI t) u w k + nI (ctL k l) * c (nI k) := fun k hk => by
      have hle := ctL_le k l
      by_cases h : u k ≤ 0
      · rw [coT_t h]
        have h0 : ctL k l = 0 := by
          rcases Nat.eq_zero_or_pos (ctL k l) with q | q
          · exact q
          · rw [hu k hk] at h; exact absurd h (nI_nle q (by omega))
        have hz : nI 0 = 0 := rfl
        rw [h0, hz]
        simp
      · rw [coT_f h, hc k hk, hu k hk]
    show coT (coI t) u w 4 = _
    rw [st 3 (by decide), st 2 (by decide), st 1 (by decide), st 0 (by decide)]
    have h : nI 0 = 0 := rfl
    rw [show coT (coI t) u w 0 = 0 from rfl]
    simp
def afZ (x : Int32) : List Int32 → Int
  | [] => 0
  | e :: r => (cmpI x e).toInt + afZ x r
theorem afZ_app (x y : Int32) : ∀ r, afZ x (r ++ [y]) = afZ x r + (cmpI x y).toInt
  | [] => by simp [afZ]
  | e :: r => by
    have := afZ_app x y r
    simp only [List.cons_append, afZ, this]
    omega
theorem beZ_app (x y : Int32) : ∀ r, beZ x (r ++ [y]) = beZ x r + (cmpI y x).toInt
  | [] => by simp [beZ]
  | e :: r => by
    have := beZ_app x y r
    simp only [List.cons_append, beZ, this]
    omega
theorem dZ_app (x : Int32) : ∀ r, dZ (r ++ [x]) = dZ r + afZ x r
  | [] => by simp [dZ, beZ, afZ]
  | e :: r => by
    have := dZ_app x r
    simp only [List.cons_append, dZ, afZ, this, beZ_app]
    omega
def lst (p : Nat → Int32) (n : Nat) : List Int32 := (List.range n).map p
theorem lst_succ (p : Nat → Int32) (n : Nat) : lst p (n + 1) = lst p n ++ [p n] := by
  unfold lst
  rw [List.range_succ, List.map_append]
  rfl
theorem lst_get (L : List Int32) : lst (fun j => L.getD j 0) L.length = L := by
  apply List.ext_getElem?
  intro i
  unfold lst
  by_cases h : i < L.length
  · simp [h, List.getD_eq_getElem?_getD]
  · simp [h]
theorem inn_Z {a : Int32} (p : Nat → Int32) (l : Nat) (ha1 : -1000 ≤ a.toInt) (ha2 : a.toInt ≤ 1000) : ∀ k, k ≤ 100 → (innI a p l k).toInt = a.toInt + afZ (p l) (lst p k) ∧ -(k : Int) ≤ afZ (p l) (lst p k) ∧ afZ (p l) (lst p k) ≤ k
  | 0, _ => by simp [innI, lst, afZ]
  | k + 1, hk => by
    obtain ⟨h1, h2, h3⟩ := inn_Z p l ha1 ha2 k (by omega)
    have hb := cmp_bd (p l) (p k)
    rw [innI, Int32.toInt_add, h1, lst_succ, afZ_app, bmod_ok (by omega) (by omega)]
    omega
theorem dr_Z (p : Nat → Int32) : ∀ n, n ≤ 20 → (drI p n).toInt = dZ (lst p n) ∧ -(20 * n : Int) ≤ (drI p n).toInt ∧ (drI p n).toInt ≤ 20 * n
  | 0, _ => by
    refine ⟨rfl, ?_, ?_⟩
    · show _ ≤ (nI 0).toInt; decide
    · show (nI 0).toInt ≤ _; decide
  | n + 1, hn => by
    obtain ⟨h1, h2, h3⟩ := dr_Z p n (by omega)
    obtain ⟨i1, i2, i3⟩ := inn_Z (a := drI p n) p n (by omega) (by omega) n (by omega)
    rw [drI, i1, lst_succ, dZ_app, h1]
    rw [h1] at h2 h3
    omega
theorem un_ct (p : Nat → Int32) (k : Nat) : ∀ z, cnt (fun i => p i = nI k) z = ctL k (rvL p z)
  | 0 => rfl
  | z + 1 => by
    have ih := un_ct p k z
    rw [rvL, ctL]
    by_cases h : p z = nI k
    · rw [cnt_t (p := fun i => p i = nI k) h, if_pos h, ih]; omega
    · rw [cnt_f (p := fun i => p i = nI k) h, if_neg h, ih]; omega
/-- THE ODDS ARE ONE NUMBER -/
theorem odds_eq (p : Nat → Int32) {z : Nat} (hz : z ≤ 6) (hm : ∀ j, j < z → ∃ k, k < 4 ∧ p j = nI k) : coI z (unI p z) (drI p z) = nI (cnt (fun num => drI p z ≤ drL (tkL p num z).1) (facN z)) := by
  obtain ⟨d1, d2, d3⟩ := dr_Z p z (by omega)
  rw [co_sel z (rvL p z) (unI p z) (drI p z) (rvL_len p z) (by omega) (fun v hv => by
    obtain ⟨j, hj, e⟩ := rvL_mem z hv
    obtain ⟨k, hk, e2⟩ := hm j hj
    exact ⟨k, hk, e.trans e2⟩) (fun k hk => by rw [unI, un_ct p k z]) (by omega) (by omega), ← ins_sel, cnt_sm]
  congr 1
  unfold sIns
  refine smN_congr _ (fun num _ => iP_c ?_)
  have hl := tkL_len p num z
  have e : (drL (tkL p num z).1).toInt = dZ (tkL p num z).1 := by
    have h := (dr_Z (fun j => (tkL p num z).1.getD j 0) (tkL p num z).1.length (by omega)).1
    rw [lst_get] at h
    exact h
  rw [Int32.le_iff_toInt_le, e]
theorem pil_marks {s : ST} (hI : Inv s) {m : Nat} (hm : m < 3) : ∀ k, k ≤ s.n → ∀ v ∈ pilL s m k, ∃ q, q < 4 ∧ v = nI q
  | 0, _, v, h => by simp [pilL] at h
  | k + 1, hk, v, h => by
    by_cases q : mkdP s m k ∧ (pilL s m k).length < 6
    · rw [pilL_t q] at h
      rcases List.mem_append.mp h with e | e
      · exact pil_marks hI hm k (by omega) v e
      · rw [List.mem_singleton.mp e]
        exact inR_of (by decide) ((hI.2.1 k (by omega) m hm).resolve_left q.1)
    · rw [pilL_f q] at h
      exact pil_marks hI hm k (by omega) v h
theorem dfM_eq {s : ST} (hI : Inv s) {m : Nat} (hm : m < 3) (w : Nat) : dfM s m w = dfI s m w := by
  unfold dfM dfI
  by_cases h2 : w = 2
  · rw [if_pos h2, if_pos h2]
  · rw [if_neg h2, if_neg h2]
    by_cases h0 : w = 0
    · rw [if_pos h0, if_pos h0]
    · rw [if_neg h0, if_neg h0]
      refine (odds_eq (pL s m) (pilL_le s m s.n) (fun j hj => ?_)).symm
      refine pil_marks hI hm s.n (Nat.le_refl _) _ ?_
      show (pilL s m s.n).getD j 0 ∈ _
      rw [List.getD_eq_getElem?_getD, List.getElem?_eq_getElem hj]
      exact List.getElem_mem hj

