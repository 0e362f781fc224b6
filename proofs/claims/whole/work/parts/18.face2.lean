-- LOOK: by first | assumption | exact set_get (by assumption) | exact set_get (set_get (by assumption))
/-! THE CLASS'S FACE: works, marks, anchors, drift, counts -/
def setWf (s : ST) (w i : Nat) (v : Int32) : ST := (s.1, s.2.1, s.2.2.1, s.2.2.2.1, s.2.2.2.2.1, s.2.2.2.2.2.1, updF s.2.2.2.2.2.2.1 w (upd (s.2.2.2.2.2.2.1 w) i v), s.2.2.2.2.2.2.2)
def setMr (s : ST) (w m : Nat) (v : Int32) : ST := (s.1, s.2.1, s.2.2.1, s.2.2.2.1, s.2.2.2.2.1, s.2.2.2.2.2.1, s.2.2.2.2.2.2.1, updF s.2.2.2.2.2.2.2.1 w (upd (s.2.2.2.2.2.2.2.1 w) m v), s.2.2.2.2.2.2.2.2)
def setTr (s : ST) (w : Nat) (v : Int32) : ST := (s.1, s.2.1, s.2.2.1, s.2.2.2.1, s.2.2.2.2.1, s.2.2.2.2.2.1, s.2.2.2.2.2.2.1, s.2.2.2.2.2.2.2.1, upd s.2.2.2.2.2.2.2.2.1 w v, s.2.2.2.2.2.2.2.2.2)
section PXW
variable {G : GG} {hp : List va_E} {s : ST} {x : XT}
theorem PX.setWf (hX : PX G s x hp) {w : Nat} (hw : w < s.n) (i : Nat) (v : Int32) : PX G (setWf s w i v) x (hp.set (42 + 3 * w + 1) (aI G 4 (upd (s.wf w) i v))) := by
  obtain ⟨h0, h1, hgl, h2, hgw, h3, h4, h5, h6, hln, hwk, hn, hlen⟩ := hX
  refine ⟨(set_ne (by omega)).trans h0, (set_ne (by omega)).trans h1, hgl, (set_ne (by omega)).trans h2, hgw, (set_ne (by omega)).trans h3, (set_ne (by omega)).trans h4, (set_ne (by omega)).trans h5, (set_ne (by omega)).trans h6, fun j hj => (hln j hj).frame (fun i q1 q2 => set_ne (by have := la_in x.1 hj; omega)), fun q hq => ?_, hn, by rw [List.length_set]; exact hlen⟩
  by_cases e : q = w
  · subst e
    obtain ⟨l1, l2, l3⟩ := hwk q hw
    show WK G _ _ (updF s.wf q (upd (s.wf q) i v) q) (s.mr q) (s.tr q)
    rw [updF_s]
    exact ⟨(set_ne (by omega)).trans l1, set_get l2, (set_ne (by omega)).trans l3⟩
  · show WK G _ _ (updF s.wf w (upd (s.wf w) i v) q) (s.mr q) (s.tr q)
    rw [updF_n e]
    exact (hwk q hq).frame (fun i q1 q2 => set_ne (by omega))
theorem PX.setMr (hX : PX G s x hp) {w : Nat} (hw : w < s.n) (i : Nat) (v : Int32) : PX G (setMr s w i v) x (hp.set (42 + 3 * w + 2) (aI G 3 (upd (s.mr w) i v))) := by
  obtain ⟨h0, h1, hgl, h2, hgw, h3, h4, h5, h6, hln, hwk, hn, hlen⟩ := hX
  refine ⟨(set_ne (by omega)).trans h0, (set_ne (by omega)).trans h1, hgl, (set_ne (by omega)).trans h2, hgw, (set_ne (by omega)).trans h3, (set_ne (by omega)).trans h4, (set_ne (by omega)).trans h5, (set_ne (by omega)).trans h6, fun j hj => (hln j hj).frame (fun i q1 q2 => set_ne (by have := la_in x.1 hj; omega)), fun q hq => ?_, hn, by rw [List.length_set]; exact hlen⟩
  by_cases e : q = w
  · subst e
    obtain ⟨l1, l2, l3⟩ := hwk q hw
    show WK G _ _ (s.wf q) (updF s.mr q (upd (s.mr q) i v) q) (s.tr q)
    rw [updF_s]
    exact ⟨(set_ne (by omega)).trans l1, (set_ne (by omega)).trans l2, set_get l3⟩
  · show WK G _ _ (s.wf q) (updF s.mr w (upd (s.mr w) i v) q) (s.tr q)
    rw [updF_n e]
    exact (hwk q hq).frame (fun i q1 q2 => set_ne (by omega))
theorem PX.setTr (hX : PX G s x hp) {w : Nat} (hw : w < s.n) (v : Int32) : PX G (setTr s w v) x (hp.set (42 + 3 * w) (ob 1 [.ref (G.2.2.2 + (42 + 3 * w + 1)), .ref (G.2.2.2 + (42 + 3 * w + 2)), .int v])) := by
  obtain ⟨h0, h1, hgl, h2, hgw, h3, h4, h5, h6, hln, hwk, hn, hlen⟩ := hX
  refine ⟨(set_ne (by omega)).trans h0, (set_ne (by omega)).trans h1, hgl, (set_ne (by omega)).trans h2, hgw, (set_ne (by omega)).trans h3, (set_ne (by omega)).trans h4, (set_ne (by omega)).trans h5, (set_ne (by omega)).trans h6, fun j hj => (hln j hj).frame (fun i q1 q2 => set_ne (by have := la_in x.1 hj; omega)), fun q hq => ?_, hn, by rw [List.length_set]; exact hlen⟩
  by_cases e : q = w
  · subst e
    obtain ⟨l1, l2, l3⟩ := hwk q hw
    show WK G _ _ (s.wf q) (s.mr q) (upd s.tr q v q)
    rw [upd_s]
    exact ⟨set_get l1, (set_ne (by omega)).trans l2, (set_ne (by omega)).trans l3⟩
  · show WK G _ _ (s.wf q) (s.mr q) (upd s.tr w v q)
    rw [upd_n e]
    exact (hwk q hq).frame (fun i q1 q2 => set_ne (by omega))
end PXW
theorem cnt_mono {p q : Nat → Prop} : ∀ n, (∀ i, i < n → p i → q i) → cnt p n ≤ cnt q n
  | 0, _ => Nat.le_refl _
  | n + 1, h => by
    have ih := cnt_mono n (fun i hi => h i (by omega))
    by_cases hp : p n
    · rw [cnt_t hp, cnt_t (h n (by omega) hp)]; omega
    · rw [cnt_f hp]
      by_cases hq : q n
      · rw [cnt_t hq]; omega
      · rw [cnt_f hq]; exact ih
theorem cnt_congr {p q : Nat → Prop} (n : Nat) (h : ∀ i, i < n → (p i ↔ q i)) : cnt p n = cnt q n := Nat.le_antisymm (cnt_mono n (fun i hi => (h i hi).mp)) (cnt_mono n (fun i hi => (h i hi).mpr))
theorem gav_sum (s : ST) (a b : Nat) : ∀ n, cnt (gavP s a b 0) n + cnt (gavP s a b 1) n + cnt (gavP s a b 2) n + cnt (gavP s a b 3) n ≤ cnt (bothP s a b) n
  | 0 => Nat.le_refl _
  | n + 1 => by
    have ih := gav_sum s a b n
    have no : ∀ v, ¬ s.mr n a = nI v → cnt (gavP s a b v) (n + 1) = cnt (gavP s a b v) n := fun v h => cnt_f (fun q => h q.2)
    have le : ∀ v, cnt (gavP s a b v) (n + 1) ≤ cnt (gavP s a b v) n + 1 := fun v => by
      by_cases h : gavP s a b v n
      · rw [cnt_t h]; omega
      · rw [cnt_f h]; omega
    by_cases hb : bothP s a b n
    · rw [cnt_t hb]
      by_cases e0 : s.mr n a = nI 0
      · rw [no 1 (by rw [e0]; decide), no 2 (by rw [e0]; decide), no 3 (by rw [e0]; decide)]
        have := le 0
        omega
      · by_cases e1 : s.mr n a = nI 1
        · rw [no 0 e0, no 2 (by rw [e1]; decide), no 3 (by rw [e1]; decide)]
          have := le 1
          omega
        · by_cases e2 : s.mr n a = nI 2
          · rw [no 0 e0, no 1 e1, no 3 (by rw [e2]; decide)]
            have := le 2
            omega
          · rw [no 0 e0, no 1 e1, no 2 e2]
            have := le 3
            omega
    · rw [cnt_f hb, cnt_f (fun q : gavP s a b 0 n => hb q.1), cnt_f (fun q : gavP s a b 1 n => hb q.1), cnt_f (fun q : gavP s a b 2 n => hb q.1), cnt_f (fun q : gavP s a b 3 n => hb q.1)]
      exact ih
theorem chN_le (s : ST) (a b : Nat) : chN s a b 4 ≤ cnt (bothP s a b) s.n * cnt (bothP s a b) s.n := by
  have h1 := gav_sum s a b s.n
  have hle : ∀ v, cnt (gavP s b a v) s.n ≤ cnt (bothP s a b) s.n := fun v => cnt_mono _ (fun i _ q => ⟨q.1.2, q.1.1⟩)
  have m : ∀ v, cnt (gavP s a b v) s.n * cnt (gavP s b a v) s.n ≤ cnt (gavP s a b v) s.n * cnt (bothP s a b) s.n := fun v => Nat.mul_le_mul_left _ (hle v)
  have h2 := Nat.mul_le_mul_right (cnt (bothP s a b) s.n) h1
  rw [Nat.add_mul, Nat.add_mul, Nat.add_mul] at h2
  have m0 := m 0
  have m1 := m 1
  have m2 := m 2
  have m3 := m 3
  simp only [chN]
  omega
noncomputable def lkI (s : ST) (a b p : Nat) : Int32 := if p = 2 then nI (cnt (bothP s a b) s.n) else ratI (nI (cnt (alkP s a b) s.n * cnt (bothP s a b) s.n) - nI (chN s a b 4)) (cnt (bothP s a b) s.n * cnt (bothP s a b) s.n - chN s a b 4) (nI p)
/-- the widest so far, and whose -/
noncomputable def prtS (s : ST) (a b : Nat) : Nat → Int32 × Int32
  | 0 => (nI 0, -900)
  | w + 1 => @ite _ (bothP s a b w ∧ ¬ absI (s.mr w a - s.mr w b) ≤ (prtS s a b w).1) (Classical.propDecidable _) (absI (s.mr w a - s.mr w b), nI w) (prtS s a b w)
theorem prtS_t {s : ST} {a b w : Nat} (h : bothP s a b w ∧ ¬ absI (s.mr w a - s.mr w b) ≤ (prtS s a b w).1) : prtS s a b (w + 1) = (absI (s.mr w a - s.mr w b), nI w) := if_pos h
theorem prtS_f {s : ST} {a b w : Nat} (h : ¬ (bothP s a b w ∧ ¬ absI (s.mr w a - s.mr w b) ≤ (prtS s a b w).1)) : prtS s a b (w + 1) = prtS s a b w := if_neg h
noncomputable def ofI (s : ST) (m p : Nat) : Int32 := if p = 2 then nI (cnt (offP s m) s.n) else ratI (offS s m s.n) (cnt (offP s m) s.n) (nI p)
def faI (mark : Int32) (A : Nat) (S : Int32) : Int32 :=
  if (if nI 3 ≤ fdI (nI 2 * (mark * nI A - S) + nI A) (nI (2 * A)) then nI 3 else fdI (nI 2 * (mark * nI A - S) + nI A) (nI (2 * A))) ≤ nI 0 then nI 0 else (if nI 3 ≤ fdI (nI 2 * (mark * nI A - S) + nI A) (nI (2 * A)) then nI 3 else fdI (nI 2 * (mark * nI A - S) + nI A) (nI (2 * A)))
noncomputable def frI (s : ST) (m w : Nat) : Int32 := @ite _ (mkdP s m w ∧ 0 < cnt (offP s m) s.n) (Classical.propDecidable _) (faI (s.mr w m) (cnt (offP s m) s.n) (offS s m s.n)) (-200)
theorem frI_t {s : ST} {m w : Nat} (h : mkdP s m w ∧ 0 < cnt (offP s m) s.n) : frI s m w = faI (s.mr w m) (cnt (offP s m) s.n) (offS s m s.n) := if_pos h
theorem frI_f {s : ST} {m w : Nat} (h : ¬ (mkdP s m w ∧ 0 < cnt (offP s m) s.n)) : frI s m w = -200 := if_neg h
noncomputable def pL (s : ST) (m : Nat) : Nat → Int32 := fun j => (pilL s m s.n).getD j 0
noncomputable def pN (s : ST) (m : Nat) : Nat := (pilL s m s.n).length
noncomputable def dfI (s : ST) (m w : Nat) : Int32 := if w = 2 then nI (pN s m) else if w = 0 then drI (pL s m) (pN s m) else coI (pN s m) (unI (pL s m) (pN s m)) (drI (pL s m) (pN s m))
theorem unI_congr {p q : Nat → Int32} {z : Nat} (h : ∀ j, j < z → p j = q j) (v : Nat) : unI p z v = unI q z v := by
  unfold unI
  rw [cnt_congr z (fun i hi => by rw [h i hi])]
noncomputable def ctI (s : ST) (w : Nat) : Int32 := if w = 0 then nI s.n else if w = 1 then nI (cnt (ancP s) s.n) else if w = 2 then nI (mksN s s.n) else if w = 3 then nI (cnt (senS s 0) 4) else nI (cnt (senS s 1) 4)
section FACE2
variable (G : GG) (hp : List va_E) {s : ST} {x : XT}
theorem x_fact_y (hX : PX G s x hp) {w i : Nat} (hw : w < s.n) (hi : i < 4) {v : Int32} (hv : InR v 10) : Ct G mX2_fact 2 0 0 [.ref (G.2.2.2 + 0), .int (nI w), .int (nI i), .int v] hp (QX G hp (s.wf w i) (setWf s w i v)) := by
  have h0 := hX.1
  have hn := hX.2.2.2.2.2.2.2.2.2.2.2.1
  obtain ⟨l1, l2, l3⟩ := hX.2.2.2.2.2.2.2.2.2.2.1 w hw
  refine Ct.start 2 (by decide) rfl (Nat.le_of_ble_eq_true rfl) ?_
  refine v_aload_n dX2_fact_0 rfl rfl ?_
  refine v_iload_n dX2_fact_1 rfl rfl ?_
  refine v_cvf dX2_fact_2 cw_X2_92 ⟨tn_X2_workAt, tl_X2_workAt⟩ rfl (by first | assumption | exact set_get (by assumption) | exact set_get (set_get (by assumption))) (c_workAt G hp hX hw) (by rfl) (by rfl) (Nat.le_of_ble_eq_true rfl) (Nat.le_of_ble_eq_true rfl) (Nat.le_of_ble_eq_true rfl) (Nat.le_of_ble_eq_true rfl) (Nat.le_of_ble_eq_true rfl) rfl ?_
  refine v_astore dX2_fact_5 (Nat.le_of_ble_eq_true rfl) rfl ?_
  refine v_aload dX2_fact_7 rfl rfl ?_
  refine v_ifnull dX2_fact_9 rfl ?_
  refine v_iload_n dX2_fact_12 rfl rfl ?_
  refine v_iconst (v := nI 4) dX2_fact_13 (by decide) rfl ?_
  refine v_csf dX2_fact_14 cw_X2_49 ts_X2_isBelow ((c_isBelow G hp (nI i) 4).yes (inR_nI hi (by decide))) (by rfl) (by rfl) (Nat.le_of_ble_eq_true rfl) (Nat.le_of_ble_eq_true rfl) (Nat.le_of_ble_eq_true rfl) (Nat.le_of_ble_eq_true rfl) (Nat.le_of_ble_eq_true rfl) rfl ?_
  refine v_if_eq (tgt := 29) dX2_fact_17 (by decide) rfl (fun q => absurd q (by decide)) (fun _ => ?_)
  refine v_iload_n dX2_fact_20 rfl rfl ?_
  refine v_bipush (v := nI 9) dX2_fact_21 (by decide) rfl ?_
  refine v_csf dX2_fact_23 cw_X2_53 ts_X2_isUpTo ((c_isUpTo G hp v 9 (by decide)).yes hv) (by rfl) (by rfl) (Nat.le_of_ble_eq_true rfl) (Nat.le_of_ble_eq_true rfl) (Nat.le_of_ble_eq_true rfl) (Nat.le_of_ble_eq_true rfl) (Nat.le_of_ble_eq_true rfl) rfl ?_
  refine v_if_ne (tgt := 32) dX2_fact_26 (by decide) rfl (fun _ => ?_) (fun q => absurd q (by decide))
  refine v_aload dX2_fact_32 rfl rfl ?_
  refine v_getf dX2_fact_34 fl_X2_96 (by first | assumption | exact set_get (by assumption) | exact set_get (set_get (by assumption))) (by rfl) rfl ?_
  refine v_iload_n dX2_fact_37 rfl rfl ?_
  refine v_iald _ dX2_fact_38 (by first | assumption | exact set_get (by assumption) | exact set_get (set_get (by assumption))) rfl (by omega) (by decide) rfl ?_
  refine v_istore dX2_fact_39 (Nat.le_of_ble_eq_true rfl) rfl ?_
  refine v_aload dX2_fact_41 rfl rfl ?_
  refine v_getf dX2_fact_43 fl_X2_96 (by first | assumption | exact set_get (by assumption) | exact set_get (set_get (by assumption))) (by rfl) rfl ?_
  refine v_iload_n dX2_fact_46 rfl rfl ?_
  refine v_iload_n dX2_fact_47 rfl rfl ?_
  refine v_iast _ dX2_fact_48 (by first | assumption | exact set_get (by assumption) | exact set_get (set_get (by assumption))) rfl (by omega) (by decide) rfl ?_
  refine v_iload dX2_fact_49 rfl rfl ?_
  exact v_iret dX2_fact_51 rfl ⟨Nat.le_of_ble_eq_true rfl, Nat.le_of_ble_eq_true rfl⟩ (⟨rfl, ⟨x, hX.setWf hw i v⟩, FrX.rf.set (by omega)⟩)
theorem x_fact_n (hX : PX G s x hp) {y z v : Int32} (h : ¬ (InR y s.n ∧ InR z 4 ∧ InR v 10)) : Ct G mX2_fact 2 0 0 [.ref (G.2.2.2 + 0), .int y, .int z, .int v] hp (Qf (some (.int (-100))) hp) := by
  have h0 := hX.1
  have hn := hX.2.2.2.2.2.2.2.2.2.2.2.1
  refine Ct.start 2 (by decide) rfl (Nat.le_of_ble_eq_true rfl) ?_
  refine v_aload_n dX2_fact_0 rfl rfl ?_
  refine v_iload_n dX2_fact_1 rfl rfl ?_
  by_cases q2 : InR y s.n
  · obtain ⟨w, hw, rfl⟩ := inR_of (by omega) q2
    refine v_cvf dX2_fact_2 cw_X2_92 ⟨tn_X2_workAt, tl_X2_workAt⟩ rfl (by first | assumption | exact set_get (by assumption) | exact set_get (set_get (by assumption))) (c_workAt G hp hX hw) (by rfl) (by rfl) (Nat.le_of_ble_eq_true rfl) (Nat.le_of_ble_eq_true rfl) (Nat.le_of_ble_eq_true rfl) (Nat.le_of_ble_eq_true rfl) (Nat.le_of_ble_eq_true rfl) rfl ?_
    refine v_astore dX2_fact_5 (Nat.le_of_ble_eq_true rfl) rfl ?_
    refine v_aload dX2_fact_7 rfl rfl ?_
    refine v_ifnull dX2_fact_9 rfl ?_
    refine v_iload_n dX2_fact_12 rfl rfl ?_
    refine v_iconst (v := nI 4) dX2_fact_13 (by decide) rfl ?_
    by_cases q14 : InR z 4
    · refine v_csf dX2_fact_14 cw_X2_49 ts_X2_isBelow ((c_isBelow G hp z 4).yes ‹_›) (by rfl) (by rfl) (Nat.le_of_ble_eq_true rfl) (Nat.le_of_ble_eq_true rfl) (Nat.le_of_ble_eq_true rfl) (Nat.le_of_ble_eq_true rfl) (Nat.le_of_ble_eq_true rfl) rfl ?_
      refine v_if_eq (tgt := 29) dX2_fact_17 (by decide) rfl (fun q => absurd q (by decide)) (fun _ => ?_)
      refine v_iload_n dX2_fact_20 rfl rfl ?_
      refine v_bipush (v := nI 9) dX2_fact_21 (by decide) rfl ?_
      by_cases q23 : InR v 10
      · refine v_csf dX2_fact_23 cw_X2_53 ts_X2_isUpTo ((c_isUpTo G hp v 9 (by decide)).yes ‹_›) (by rfl) (by rfl) (Nat.le_of_ble_eq_true rfl) (Nat.le_of_ble_eq_true rfl) (Nat.le_of_ble_eq_true rfl) (Nat.le_of_ble_eq_true rfl) (Nat.le_of_ble_eq_true rfl) rfl ?_
        refine v_if_ne (tgt := 32) dX2_fact_26 (by decide) rfl (fun _ => ?_) (fun q => absurd q (by decide))
        exact absurd ⟨q2, q14, q23⟩ h
      · refine v_csf dX2_fact_23 cw_X2_53 ts_X2_isUpTo ((c_isUpTo G hp v 9 (by decide)).no ‹_›) (by rfl) (by rfl) (Nat.le_of_ble_eq_true rfl) (Nat.le_of_ble_eq_true rfl) (Nat.le_of_ble_eq_true rfl) (Nat.le_of_ble_eq_true rfl) (Nat.le_of_ble_eq_true rfl) rfl ?_
        refine v_if_ne (tgt := 32) dX2_fact_26 (by decide) rfl (fun q => absurd (by decide) q) (fun _ => ?_)
        refine v_bipush (v := (-100)) dX2_fact_29 (by decide) rfl ?_
        exact v_iret dX2_fact_31 rfl ⟨Nat.le_of_ble_eq_true rfl, Nat.le_of_ble_eq_true rfl⟩ (⟨rfl, rfl⟩)
    · refine v_csf dX2_fact_14 cw_X2_49 ts_X2_isBelow ((c_isBelow G hp z 4).no ‹_›) (by rfl) (by rfl) (Nat.le_of_ble_eq_true rfl) (Nat.le_of_ble_eq_true rfl) (Nat.le_of_ble_eq_true rfl) (Nat.le_of_ble_eq_true rfl) (Nat.le_of_ble_eq_true rfl) rfl ?_
      refine v_if_eq (tgt := 29) dX2_fact_17 (by decide) rfl (fun _ => ?_) (fun q => absurd (by decide) q)
      refine v_bipush (v := (-100)) dX2_fact_29 (by decide) rfl ?_
      exact v_iret dX2_fact_31 rfl ⟨Nat.le_of_ble_eq_true rfl, Nat.le_of_ble_eq_true rfl⟩ (⟨rfl, rfl⟩)
  · refine v_cvf dX2_fact_2 cw_X2_92 ⟨tn_X2_workAt, tl_X2_workAt⟩ rfl (by first | assumption | exact set_get (by assumption) | exact set_get (set_get (by assumption))) (c_workAt_no G hp hX q2) (by rfl) (by rfl) (Nat.le_of_ble_eq_true rfl) (Nat.le_of_ble_eq_true rfl) (Nat.le_of_ble_eq_true rfl) (Nat.le_of_ble_eq_true rfl) (Nat.le_of_ble_eq_true rfl) rfl ?_
    refine v_astoreN dX2_fact_5 (Nat.le_of_ble_eq_true rfl) rfl ?_
    refine v_aloadN dX2_fact_7 rfl rfl ?_
    refine v_ifnullN (tgt := 29) dX2_fact_9 (by decide) ?_
    refine v_bipush (v := (-100)) dX2_fact_29 (by decide) rfl ?_
    exact v_iret dX2_fact_31 rfl ⟨Nat.le_of_ble_eq_true rfl, Nat.le_of_ble_eq_true rfl⟩ (⟨rfl, rfl⟩)
theorem x_points_y (hX : PX G s x hp) (hI : Inv s) {a w : Nat} (ha : a < 2) (hw : w < s.n) : Ct G mX2_points 6 0 0 [.ref (G.2.2.2 + 0), .int (nI a), .int (nI w)] hp (Qf (some (.int (ptsI s a w 4))) hp) := by
  have h0 := hX.1
  refine Ct.start 1 (by decide) rfl (Nat.le_of_ble_eq_true rfl) ?_
  refine v_aload_n dX2_points_0 rfl rfl ?_
  refine v_iload_n dX2_points_1 rfl rfl ?_
  refine v_cvf dX2_points_2 cw_X2_92 ⟨tn_X2_workAt, tl_X2_workAt⟩ rfl (by first | assumption | exact set_get (by assumption) | exact set_get (set_get (by assumption))) (c_workAt G hp hX hw) (by rfl) (by rfl) (Nat.le_of_ble_eq_true rfl) (Nat.le_of_ble_eq_true rfl) (Nat.le_of_ble_eq_true rfl) (Nat.le_of_ble_eq_true rfl) (Nat.le_of_ble_eq_true rfl) rfl ?_
  refine v_astore_n dX2_points_5 (Nat.le_of_ble_eq_true rfl) rfl ?_
  refine v_aload_n dX2_points_6 rfl rfl ?_
  refine v_ifnull dX2_points_7 rfl ?_
  refine v_iload_n dX2_points_10 rfl rfl ?_
  refine v_iconst (v := nI 2) dX2_points_11 (by decide) rfl ?_
  refine v_csf dX2_points_12 cw_X2_49 ts_X2_isBelow ((c_isBelow G hp (nI a) 2).yes (inR_nI ha (by decide))) (by rfl) (by rfl) (Nat.le_of_ble_eq_true rfl) (Nat.le_of_ble_eq_true rfl) (Nat.le_of_ble_eq_true rfl) (Nat.le_of_ble_eq_true rfl) (Nat.le_of_ble_eq_true rfl) rfl ?_
  refine v_if_ne (tgt := 21) dX2_points_15 (by decide) rfl (fun _ => ?_) (fun q => absurd q (by decide))
  refine v_aload_n dX2_points_21 rfl rfl ?_
  refine v_iload_n dX2_points_22 rfl rfl ?_
  refine v_aload_n dX2_points_23 rfl rfl ?_
  refine v_cvf dX2_points_24 cw_X2_99 ⟨tn_X2_pointsBy, tl_X2_pointsBy⟩ rfl (by first | assumption | exact set_get (by assumption) | exact set_get (set_get (by assumption))) (c_pointsBy G hp hX hI ha hw) (by rfl) (by rfl) (Nat.le_of_ble_eq_true rfl) (Nat.le_of_ble_eq_true rfl) (Nat.le_of_ble_eq_true rfl) (Nat.le_of_ble_eq_true rfl) (Nat.le_of_ble_eq_true rfl) rfl ?_
  exact v_iret dX2_points_27 rfl ⟨Nat.le_of_ble_eq_true rfl, Nat.le_of_ble_eq_true rfl⟩ (⟨rfl, rfl⟩)
theorem x_points_n (hX : PX G s x hp) {y z : Int32} (h : ¬ (InR y 2 ∧ InR z s.n)) : Ct G mX2_points 6 0 0 [.ref (G.2.2.2 + 0), .int y, .int z] hp (Qf (some (.int (-100))) hp) := by
  have h0 := hX.1
  have hn := hX.2.2.2.2.2.2.2.2.2.2.2.1
  refine Ct.start 1 (by decide) rfl (Nat.le_of_ble_eq_true rfl) ?_
  refine v_aload_n dX2_points_0 rfl rfl ?_
  refine v_iload_n dX2_points_1 rfl rfl ?_
  by_cases q2 : InR z s.n
  · obtain ⟨w, hw, rfl⟩ := inR_of (by omega) q2
    refine v_cvf dX2_points_2 cw_X2_92 ⟨tn_X2_workAt, tl_X2_workAt⟩ rfl (by first | assumption | exact set_get (by assumption) | exact set_get (set_get (by assumption))) (c_workAt G hp hX hw) (by rfl) (by rfl) (Nat.le_of_ble_eq_true rfl) (Nat.le_of_ble_eq_true rfl) (Nat.le_of_ble_eq_true rfl) (Nat.le_of_ble_eq_true rfl) (Nat.le_of_ble_eq_true rfl) rfl ?_
    refine v_astore_n dX2_points_5 (Nat.le_of_ble_eq_true rfl) rfl ?_
    refine v_aload_n dX2_points_6 rfl rfl ?_
    refine v_ifnull dX2_points_7 rfl ?_
    refine v_iload_n dX2_points_10 rfl rfl ?_
    refine v_iconst (v := nI 2) dX2_points_11 (by decide) rfl ?_
    by_cases q12 : InR y 2
    · refine v_csf dX2_points_12 cw_X2_49 ts_X2_isBelow ((c_isBelow G hp y 2).yes ‹_›) (by rfl) (by rfl) (Nat.le_of_ble_eq_true rfl) (Nat.le_of_ble_eq_true rfl) (Nat.le_of_ble_eq_true rfl) (Nat.le_of_ble_eq_true rfl) (Nat.le_of_ble_eq_true rfl) rfl ?_
      refine v_if_ne (tgt := 21) dX2_points_15 (by decide) rfl (fun _ => ?_) (fun q => absurd q (by decide))
      exact absurd ⟨q12, q2⟩ h
    · refine v_csf dX2_points_12 cw_X2_49 ts_X2_isBelow ((c_isBelow G hp y 2).no ‹_›) (by rfl) (by rfl) (Nat.le_of_ble_eq_true rfl) (Nat.le_of_ble_eq_true rfl) (Nat.le_of_ble_eq_true rfl) (Nat.le_of_ble_eq_true rfl) (Nat.le_of_ble_eq_true rfl) rfl ?_
      refine v_if_ne (tgt := 21) dX2_points_15 (by decide) rfl (fun q => absurd (by decide) q) (fun _ => ?_)
      refine v_bipush (v := (-100)) dX2_points_18 (by decide) rfl ?_
      exact v_iret dX2_points_20 rfl ⟨Nat.le_of_ble_eq_true rfl, Nat.le_of_ble_eq_true rfl⟩ (⟨rfl, rfl⟩)
  · refine v_cvf dX2_points_2 cw_X2_92 ⟨tn_X2_workAt, tl_X2_workAt⟩ rfl (by first | assumption | exact set_get (by assumption) | exact set_get (set_get (by assumption))) (c_workAt_no G hp hX q2) (by rfl) (by rfl) (Nat.le_of_ble_eq_true rfl) (Nat.le_of_ble_eq_true rfl) (Nat.le_of_ble_eq_true rfl) (Nat.le_of_ble_eq_true rfl) (Nat.le_of_ble_eq_true rfl) rfl ?_
    refine v_astore_nN dX2_points_5 (Nat.le_of_ble_eq_true rfl) rfl ?_
    refine v_aload_nN dX2_points_6 rfl rfl ?_
    refine v_ifnullN (tgt := 18) dX2_points_7 (by decide) ?_
    refine v_bipush (v := (-100)) dX2_points_18 (by decide) rfl ?_
    exact v_iret dX2_points_20 rfl ⟨Nat.le_of_ble_eq_true rfl, Nat.le_of_ble_eq_true rfl⟩ (⟨rfl, rfl⟩)
theorem x_mark_y (hX : PX G s x hp) {m w : Nat} (hm : m < 3) (hw : w < s.n) {v : Int32} (hv : v = -900 ∨ InR v 4) : Ct G mX2_mark 2 0 0 [.ref (G.2.2.2 + 0), .int (nI m), .int (nI w), .int v] hp (QX G hp (s.mr w m) (setMr s w m v)) := by
  have h0 := hX.1
  have hn := hX.2.2.2.2.2.2.2.2.2.2.2.1
  obtain ⟨l1, l2, l3⟩ := hX.2.2.2.2.2.2.2.2.2.2.1 w hw
  refine Ct.start 2 (by decide) rfl (Nat.le_of_ble_eq_true rfl) ?_
  refine v_aload_n dX2_mark_0 rfl rfl ?_
  refine v_iload_n dX2_mark_1 rfl rfl ?_
  refine v_cvf dX2_mark_2 cw_X2_92 ⟨tn_X2_workAt, tl_X2_workAt⟩ rfl (by first | assumption | exact set_get (by assumption) | exact set_get (set_get (by assumption))) (c_workAt G hp hX hw) (by rfl) (by rfl) (Nat.le_of_ble_eq_true rfl) (Nat.le_of_ble_eq_true rfl) (Nat.le_of_ble_eq_true rfl) (Nat.le_of_ble_eq_true rfl) (Nat.le_of_ble_eq_true rfl) rfl ?_
  refine v_astore dX2_mark_5 (Nat.le_of_ble_eq_true rfl) rfl ?_
  refine v_aload dX2_mark_7 rfl rfl ?_
  refine v_ifnull dX2_mark_9 rfl ?_
  refine v_iload_n dX2_mark_12 rfl rfl ?_
  refine v_iconst (v := nI 3) dX2_mark_13 (by decide) rfl ?_
  refine v_csf dX2_mark_14 cw_X2_49 ts_X2_isBelow ((c_isBelow G hp (nI m) 3).yes (inR_nI hm (by decide))) (by rfl) (by rfl) (Nat.le_of_ble_eq_true rfl) (Nat.le_of_ble_eq_true rfl) (Nat.le_of_ble_eq_true rfl) (Nat.le_of_ble_eq_true rfl) (Nat.le_of_ble_eq_true rfl) rfl ?_
  refine v_if_eq (tgt := 27) dX2_mark_17 (by decide) rfl (fun q => absurd q (by decide)) (fun _ => ?_)
  refine v_iload_n dX2_mark_20 rfl rfl ?_
  refine v_csf dX2_mark_21 cw_X2_103 ts_X2_isMarkOrNone ((c_isMarkOrNone G hp v).yes hv) (by rfl) (by rfl) (Nat.le_of_ble_eq_true rfl) (Nat.le_of_ble_eq_true rfl) (Nat.le_of_ble_eq_true rfl) (Nat.le_of_ble_eq_true rfl) (Nat.le_of_ble_eq_true rfl) rfl ?_
  refine v_if_ne (tgt := 30) dX2_mark_24 (by decide) rfl (fun _ => ?_) (fun q => absurd q (by decide))
  refine v_aload dX2_mark_30 rfl rfl ?_
  refine v_getf dX2_mark_32 fl_X2_107 (by first | assumption | exact set_get (by assumption) | exact set_get (set_get (by assumption))) (by rfl) rfl ?_
  refine v_iload_n dX2_mark_35 rfl rfl ?_
  refine v_iald _ dX2_mark_36 (by first | assumption | exact set_get (by assumption) | exact set_get (set_get (by assumption))) rfl (by omega) (by decide) rfl ?_
  refine v_istore dX2_mark_37 (Nat.le_of_ble_eq_true rfl) rfl ?_
  refine v_aload dX2_mark_39 rfl rfl ?_
  refine v_getf dX2_mark_41 fl_X2_107 (by first | assumption | exact set_get (by assumption) | exact set_get (set_get (by assumption))) (by rfl) rfl ?_
  refine v_iload_n dX2_mark_44 rfl rfl ?_
  refine v_iload_n dX2_mark_45 rfl rfl ?_
  refine v_iast _ dX2_mark_46 (by first | assumption | exact set_get (by assumption) | exact set_get (set_get (by assumption))) rfl (by omega) (by decide) rfl ?_
  refine v_iload dX2_mark_47 rfl rfl ?_
  exact v_iret dX2_mark_49 rfl ⟨Nat.le_of_ble_eq_true rfl, Nat.le_of_ble_eq_true rfl⟩ (⟨rfl, ⟨x, hX.setMr hw m v⟩, FrX.rf.set (by omega)⟩)
theorem x_mark_n (hX : PX G s x hp) {y z v : Int32} (h : ¬ (InR y 3 ∧ InR z s.n ∧ (v = -900 ∨ InR v 4))) : Ct G mX2_mark 2 0 0 [.ref (G.2.2.2 + 0), .int y, .int z, .int v] hp (Qf (some (.int (-100))) hp) := by
  have h0 := hX.1
  have hn := hX.2.2.2.2.2.2.2.2.2.2.2.1
  refine Ct.start 2 (by decide) rfl (Nat.le_of_ble_eq_true rfl) ?_
  refine v_aload_n dX2_mark_0 rfl rfl ?_
  refine v_iload_n dX2_mark_1 rfl rfl ?_
  by_cases q2 : InR z s.n
  · obtain ⟨w, hw, rfl⟩ := inR_of (by omega) q2
    refine v_cvf dX2_mark_2 cw_X2_92 ⟨tn_X2_workAt, tl_X2_workAt⟩ rfl (by first | assumption | exact set_get (by assumption) | exact set_get (set_get (by assumption))) (c_workAt G hp hX hw) (by rfl) (by rfl) (Nat.le_of_ble_eq_true rfl) (Nat.le_of_ble_eq_true rfl) (Nat.le_of_ble_eq_true rfl) (Nat.le_of_ble_eq_true rfl) (Nat.le_of_ble_eq_true rfl) rfl ?_
    refine v_astore dX2_mark_5 (Nat.le_of_ble_eq_true rfl) rfl ?_
    refine v_aload dX2_mark_7 rfl rfl ?_
    refine v_ifnull dX2_mark_9 rfl ?_
    refine v_iload_n dX2_mark_12 rfl rfl ?_
    refine v_iconst (v := nI 3) dX2_mark_13 (by decide) rfl ?_
    by_cases q14 : InR y 3
    · refine v_csf dX2_mark_14 cw_X2_49 ts_X2_isBelow ((c_isBelow G hp y 3).yes ‹_›) (by rfl) (by rfl) (Nat.le_of_ble_eq_true rfl) (Nat.le_of_ble_eq_true rfl) (Nat.le_of_ble_eq_true rfl) (Nat.le_of_ble_eq_true rfl) (Nat.le_of_ble_eq_true rfl) rfl ?_
      refine v_if_eq (tgt := 27) dX2_mark_17 (by decide) rfl (fun q => absurd q (by decide)) (fun _ => ?_)
      refine v_iload_n dX2_mark_20 rfl rfl ?_
      by_cases q21 : v = -900 ∨ InR v 4
      · refine v_csf dX2_mark_21 cw_X2_103 ts_X2_isMarkOrNone ((c_isMarkOrNone G hp v).yes ‹_›) (by rfl) (by rfl) (Nat.le_of_ble_eq_true rfl) (Nat.le_of_ble_eq_true rfl) (Nat.le_of_ble_eq_true rfl) (Nat.le_of_ble_eq_true rfl) (Nat.le_of_ble_eq_true rfl) rfl ?_
        refine v_if_ne (tgt := 30) dX2_mark_24 (by decide) rfl (fun _ => ?_) (fun q => absurd q (by decide))
        exact absurd ⟨q14, q2, q21⟩ h
      · refine v_csf dX2_mark_21 cw_X2_103 ts_X2_isMarkOrNone ((c_isMarkOrNone G hp v).no ‹_›) (by rfl) (by rfl) (Nat.le_of_ble_eq_true rfl) (Nat.le_of_ble_eq_true rfl) (Nat.le_of_ble_eq_true rfl) (Nat.le_of_ble_eq_true rfl) (Nat.le_of_ble_eq_true rfl) rfl ?_
        refine v_if_ne (tgt := 30) dX2_mark_24 (by decide) rfl (fun q => absurd (by decide) q) (fun _ => ?_)
        refine v_bipush (v := (-100)) dX2_mark_27 (by decide) rfl ?_
        exact v_iret dX2_mark_29 rfl ⟨Nat.le_of_ble_eq_true rfl, Nat.le_of_ble_eq_true rfl⟩ (⟨rfl, rfl⟩)
    · refine v_csf dX2_mark_14 cw_X2_49 ts_X2_isBelow ((c_isBelow G hp y 3).no ‹_›) (by rfl) (by rfl) (Nat.le_of_ble_eq_true rfl) (Nat.le_of_ble_eq_true rfl) (Nat.le_of_ble_eq_true rfl) (Nat.le_of_ble_eq_true rfl) (Nat.le_of_ble_eq_true rfl) rfl ?_
      refine v_if_eq (tgt := 27) dX2_mark_17 (by decide) rfl (fun _ => ?_) (fun q => absurd (by decide) q)
      refine v_bipush (v := (-100)) dX2_mark_27 (by decide) rfl ?_
      exact v_iret dX2_mark_29 rfl ⟨Nat.le_of_ble_eq_true rfl, Nat.le_of_ble_eq_true rfl⟩ (⟨rfl, rfl⟩)
  · refine v_cvf dX2_mark_2 cw_X2_92 ⟨tn_X2_workAt, tl_X2_workAt⟩ rfl (by first | assumption | exact set_get (by assumption) | exact set_get (set_get (by assumption))) (c_workAt_no G hp hX q2) (by rfl) (by rfl) (Nat.le_of_ble_eq_true rfl) (Nat.le_of_ble_eq_true rfl) (Nat.le_of_ble_eq_true rfl) (Nat.le_of_ble_eq_true rfl) (Nat.le_of_ble_eq_true rfl) rfl ?_
    refine v_astoreN dX2_mark_5 (Nat.le_of_ble_eq_true rfl) rfl ?_
    refine v_aloadN dX2_mark_7 rfl rfl ?_
    refine v_ifnullN (tgt := 27) dX2_mark_9 (by decide) ?_
    refine v_bipush (v := (-100)) dX2_mark_27 (by decide) rfl ?_
    exact v_iret dX2_mark_29 rfl ⟨Nat.le_of_ble_eq_true rfl, Nat.le_of_ble_eq_true rfl⟩ (⟨rfl, rfl⟩)
theorem x_given_y (hX : PX G s x hp) {m w : Nat} (hm : m < 3) (hw : w < s.n) : Ct G mX2_given 2 0 0 [.ref (G.2.2.2 + 0), .int (nI m), .int (nI w)] hp (Qf (some (.int (s.mr w m))) hp) := by
  have h0 := hX.1
  obtain ⟨l1, l2, l3⟩ := hX.2.2.2.2.2.2.2.2.2.2.1 w hw
  refine Ct.start 1 (by decide) rfl (Nat.le_of_ble_eq_true rfl) ?_
  refine v_aload_n dX2_given_0 rfl rfl ?_
  refine v_iload_n dX2_given_1 rfl rfl ?_
  refine v_cvf dX2_given_2 cw_X2_92 ⟨tn_X2_workAt, tl_X2_workAt⟩ rfl (by first | assumption | exact set_get (by assumption) | exact set_get (set_get (by assumption))) (c_workAt G hp hX hw) (by rfl) (by rfl) (Nat.le_of_ble_eq_true rfl) (Nat.le_of_ble_eq_true rfl) (Nat.le_of_ble_eq_true rfl) (Nat.le_of_ble_eq_true rfl) (Nat.le_of_ble_eq_true rfl) rfl ?_
  refine v_astore_n dX2_given_5 (Nat.le_of_ble_eq_true rfl) rfl ?_
  refine v_aload_n dX2_given_6 rfl rfl ?_
  refine v_ifnull dX2_given_7 rfl ?_
  refine v_iload_n dX2_given_10 rfl rfl ?_
  refine v_iconst (v := nI 3) dX2_given_11 (by decide) rfl ?_
  refine v_csf dX2_given_12 cw_X2_49 ts_X2_isBelow ((c_isBelow G hp (nI m) 3).yes (inR_nI hm (by decide))) (by rfl) (by rfl) (Nat.le_of_ble_eq_true rfl) (Nat.le_of_ble_eq_true rfl) (Nat.le_of_ble_eq_true rfl) (Nat.le_of_ble_eq_true rfl) (Nat.le_of_ble_eq_true rfl) rfl ?_
  refine v_if_ne (tgt := 21) dX2_given_15 (by decide) rfl (fun _ => ?_) (fun q => absurd q (by decide))
  refine v_aload_n dX2_given_21 rfl rfl ?_
  refine v_getf dX2_given_22 fl_X2_107 (by first | assumption | exact set_get (by assumption) | exact set_get (set_get (by assumption))) (by rfl) rfl ?_
  refine v_iload_n dX2_given_25 rfl rfl ?_
  refine v_iald _ dX2_given_26 (by first | assumption | exact set_get (by assumption) | exact set_get (set_get (by assumption))) rfl (by omega) (by decide) rfl ?_
  exact v_iret dX2_given_27 rfl ⟨Nat.le_of_ble_eq_true rfl, Nat.le_of_ble_eq_true rfl⟩ (⟨rfl, rfl⟩)
theorem x_given_n (hX : PX G s x hp) {y z : Int32} (h : ¬ (InR y 3 ∧ InR z s.n)) : Ct G mX2_given 2 0 0 [.ref (G.2.2.2 + 0), .int y, .int z] hp (Qf (some (.int (-100))) hp) := by
  have h0 := hX.1
  have hn := hX.2.2.2.2.2.2.2.2.2.2.2.1
  refine Ct.start 1 (by decide) rfl (Nat.le_of_ble_eq_true rfl) ?_
  refine v_aload_n dX2_given_0 rfl rfl ?_
  refine v_iload_n dX2_given_1 rfl rfl ?_
  by_cases q2 : InR z s.n
  · obtain ⟨w, hw, rfl⟩ := inR_of (by omega) q2
    refine v_cvf dX2_given_2 cw_X2_92 ⟨tn_X2_workAt, tl_X2_workAt⟩ rfl (by first | assumption | exact set_get (by assumption) | exact set_get (set_get (by assumption))) (c_workAt G hp hX hw) (by rfl) (by rfl) (Nat.le_of_ble_eq_true rfl) (Nat.le_of_ble_eq_true rfl) (Nat.le_of_ble_eq_true rfl) (Nat.le_of_ble_eq_true rfl) (Nat.le_of_ble_eq_true rfl) rfl ?_
    refine v_astore_n dX2_given_5 (Nat.le_of_ble_eq_true rfl) rfl ?_
    refine v_aload_n dX2_given_6 rfl rfl ?_
    refine v_ifnull dX2_given_7 rfl ?_
    refine v_iload_n dX2_given_10 rfl rfl ?_
    refine v_iconst (v := nI 3) dX2_given_11 (by decide) rfl ?_
    by_cases q12 : InR y 3
    · refine v_csf dX2_given_12 cw_X2_49 ts_X2_isBelow ((c_isBelow G hp y 3).yes ‹_›) (by rfl) (by rfl) (Nat.le_of_ble_eq_true rfl) (Nat.le_of_ble_eq_true rfl) (Nat.le_of_ble_eq_true rfl) (Nat.le_of_ble_eq_true rfl) (Nat.le_of_ble_eq_true rfl) rfl ?_
      refine v_if_ne (tgt := 21) dX2_given_15 (by decide) rfl (fun _ => ?_) (fun q => absurd q (by decide))
      exact absurd ⟨q12, q2⟩ h
    · refine v_csf dX2_given_12 cw_X2_49 ts_X2_isBelow ((c_isBelow G hp y 3).no ‹_›) (by rfl) (by rfl) (Nat.le_of_ble_eq_true rfl) (Nat.le_of_ble_eq_true rfl) (Nat.le_of_ble_eq_true rfl) (Nat.le_of_ble_eq_true rfl) (Nat.le_of_ble_eq_true rfl) rfl ?_
      refine v_if_ne (tgt := 21) dX2_given_15 (by decide) rfl (fun q => absurd (by decide) q) (fun _ => ?_)
      refine v_bipush (v := (-100)) dX2_given_18 (by decide) rfl ?_
      exact v_iret dX2_given_20 rfl ⟨Nat.le_of_ble_eq_true rfl, Nat.le_of_ble_eq_true rfl⟩ (⟨rfl, rfl⟩)
  · refine v_cvf dX2_given_2 cw_X2_92 ⟨tn_X2_workAt, tl_X2_workAt⟩ rfl (by first | assumption | exact set_get (by assumption) | exact set_get (set_get (by assumption))) (c_workAt_no G hp hX q2) (by rfl) (by rfl) (Nat.le_of_ble_eq_true rfl) (Nat.le_of_ble_eq_true rfl) (Nat.le_of_ble_eq_true rfl) (Nat.le_of_ble_eq_true rfl) (Nat.le_of_ble_eq_true rfl) rfl ?_
    refine v_astore_nN dX2_given_5 (Nat.le_of_ble_eq_true rfl) rfl ?_
    refine v_aload_nN dX2_given_6 rfl rfl ?_
    refine v_ifnullN (tgt := 18) dX2_given_7 (by decide) ?_
    refine v_bipush (v := (-100)) dX2_given_18 (by decide) rfl ?_
    exact v_iret dX2_given_20 rfl ⟨Nat.le_of_ble_eq_true rfl, Nat.le_of_ble_eq_true rfl⟩ (⟨rfl, rfl⟩)
theorem x_like_y (hX : PX G s x hp) {a b p : Nat} (ha : a < 3) (hb : b < 3) (hab : a ≠ b) (hp3 : p < 3) : Ct G mX2_like 4 0 0 [.ref (G.2.2.2 + 0), .int (nI a), .int (nI b), .int (nI p)] hp (Qf (some (.int (lkI s a b p))) hp) := by
  have h0 := hX.1
  have hn := hX.2.2.2.2.2.2.2.2.2.2.2.1
  have hch := chN_le s a b
  have hB : cnt (bothP s a b) s.n ≤ 12 := Nat.le_trans (cnt_le _ _) hn
  have hBB := Nat.mul_le_mul hB hB
  have h2 : InR (nI a) 3 ∧ InR (nI b) 3 ∧ ¬ nI a = nI b := ⟨inR_nI ha (by decide), inR_nI hb (by decide), fun q => hab ((nI_eq (by omega) (by omega)).mp q)⟩
  refine Ct.start 2 (by decide) rfl (Nat.le_of_ble_eq_true rfl) ?_
  refine v_iload_n dX2_like_0 rfl rfl ?_
  refine v_iload_n dX2_like_1 rfl rfl ?_
  refine v_csf dX2_like_2 cw_X2_110 ts_X2_areTwoMarkers ((c_areTwoMarkers G hp (nI a) (nI b)).yes h2) (by rfl) (by rfl) (Nat.le_of_ble_eq_true rfl) (Nat.le_of_ble_eq_true rfl) (Nat.le_of_ble_eq_true rfl) (Nat.le_of_ble_eq_true rfl) (Nat.le_of_ble_eq_true rfl) rfl ?_
  refine v_if_eq (tgt := 16) dX2_like_5 (by decide) rfl (fun q => absurd q (by decide)) (fun _ => ?_)
  refine v_iload_n dX2_like_8 rfl rfl ?_
  refine v_iconst (v := nI 3) dX2_like_9 (by decide) rfl ?_
  refine v_csf dX2_like_10 cw_X2_49 ts_X2_isBelow ((c_isBelow G hp (nI p) 3).yes (inR_nI hp3 (by decide))) (by rfl) (by rfl) (Nat.le_of_ble_eq_true rfl) (Nat.le_of_ble_eq_true rfl) (Nat.le_of_ble_eq_true rfl) (Nat.le_of_ble_eq_true rfl) (Nat.le_of_ble_eq_true rfl) rfl ?_
  refine v_if_ne (tgt := 19) dX2_like_13 (by decide) rfl (fun _ => ?_) (fun q => absurd q (by decide))
  refine v_aload_n dX2_like_19 rfl rfl ?_
  refine v_iload_n dX2_like_20 rfl rfl ?_
  refine v_iload_n dX2_like_21 rfl rfl ?_
  refine v_cvf dX2_like_22 cw_X2_113 ⟨tn_X2_countBothMarked, tl_X2_countBothMarked⟩ rfl (by first | assumption | exact set_get (by assumption) | exact set_get (set_get (by assumption))) (c_countBothMarked G hp hX ha hb) (by rfl) (by rfl) (Nat.le_of_ble_eq_true rfl) (Nat.le_of_ble_eq_true rfl) (Nat.le_of_ble_eq_true rfl) (Nat.le_of_ble_eq_true rfl) (Nat.le_of_ble_eq_true rfl) rfl ?_
  refine v_istore dX2_like_25 (Nat.le_of_ble_eq_true rfl) rfl ?_
  refine v_iload_n dX2_like_27 rfl rfl ?_
  refine v_iconst (v := nI 2) dX2_like_28 (by decide) rfl ?_
  refine v_icmp_neN (tgt := 35) dX2_like_29 (by decide) rfl (by omega) (by omega) (fun c29 => ?_) (fun c29 => ?_)
  · refine v_aload_n dX2_like_35 rfl rfl ?_
    refine v_iload_n dX2_like_36 rfl rfl ?_
    refine v_iload_n dX2_like_37 rfl rfl ?_
    refine v_cvf dX2_like_38 cw_X2_117 ⟨tn_X2_chanceOfAlike, tl_X2_chanceOfAlike⟩ rfl (by first | assumption | exact set_get (by assumption) | exact set_get (set_get (by assumption))) (c_chanceOfAlike G hp hX ha hb) (by rfl) (by rfl) (Nat.le_of_ble_eq_true rfl) (Nat.le_of_ble_eq_true rfl) (Nat.le_of_ble_eq_true rfl) (Nat.le_of_ble_eq_true rfl) (Nat.le_of_ble_eq_true rfl) rfl ?_
    refine v_istore dX2_like_41 (Nat.le_of_ble_eq_true rfl) rfl ?_
    refine v_aload_n dX2_like_43 rfl rfl ?_
    refine v_iload_n dX2_like_44 rfl rfl ?_
    refine v_iload_n dX2_like_45 rfl rfl ?_
    refine v_cvf dX2_like_46 cw_X2_120 ⟨tn_X2_countAlike, tl_X2_countAlike⟩ rfl (by first | assumption | exact set_get (by assumption) | exact set_get (set_get (by assumption))) (c_countAlike G hp hX ha hb) (by rfl) (by rfl) (Nat.le_of_ble_eq_true rfl) (Nat.le_of_ble_eq_true rfl) (Nat.le_of_ble_eq_true rfl) (Nat.le_of_ble_eq_true rfl) (Nat.le_of_ble_eq_true rfl) rfl ?_
    refine v_iload dX2_like_49 rfl rfl ?_
    refine v_imulN dX2_like_51 rfl ?_
    refine v_iload dX2_like_52 rfl rfl ?_
    refine v_isub dX2_like_54 rfl ?_
    refine v_iload dX2_like_55 rfl rfl ?_
    refine v_iload dX2_like_57 rfl rfl ?_
    refine v_imulN dX2_like_59 rfl ?_
    refine v_iload dX2_like_60 rfl rfl ?_
    refine v_isubN dX2_like_62 (hch) rfl ?_
    refine v_iload_n dX2_like_63 rfl rfl ?_
    refine v_csf dX2_like_64 cw_X2_123 ts_X2_partOfRatio (c_partOfRatio G hp (nI (cnt (alkP s a b) s.n * cnt (bothP s a b) s.n) - nI (chN s a b 4)) (nI p) (l := cnt (bothP s a b) s.n * cnt (bothP s a b) s.n - chN s a b 4) (by omega)) (by rfl) (by rfl) (Nat.le_of_ble_eq_true rfl) (Nat.le_of_ble_eq_true rfl) (Nat.le_of_ble_eq_true rfl) (Nat.le_of_ble_eq_true rfl) (Nat.le_of_ble_eq_true rfl) rfl ?_
    exact v_iret dX2_like_67 rfl ⟨Nat.le_of_ble_eq_true rfl, Nat.le_of_ble_eq_true rfl⟩ (⟨by first | (rw [lkI, if_pos ‹_›]; done) | (rw [lkI, if_neg ‹_›]; done), rfl⟩)
  · refine v_iload dX2_like_32 rfl rfl ?_
    exact v_iret dX2_like_34 rfl ⟨Nat.le_of_ble_eq_true rfl, Nat.le_of_ble_eq_true rfl⟩ (⟨by first | (rw [lkI, if_pos ‹_›]; done) | (rw [lkI, if_neg ‹_›]; done), rfl⟩)
theorem x_like_n (hX : PX G s x hp) {y z p : Int32} (h : ¬ ((InR y 3 ∧ InR z 3 ∧ ¬ y = z) ∧ InR p 3)) : Ct G mX2_like 4 0 0 [.ref (G.2.2.2 + 0), .int y, .int z, .int p] hp (Qf (some (.int (-100))) hp) := by
  have h0 := hX.1
  refine Ct.start 2 (by decide) rfl (Nat.le_of_ble_eq_true rfl) ?_
  refine v_iload_n dX2_like_0 rfl rfl ?_
  refine v_iload_n dX2_like_1 rfl rfl ?_
  by_cases q2 : InR y 3 ∧ InR z 3 ∧ ¬ y = z
  · refine v_csf dX2_like_2 cw_X2_110 ts_X2_areTwoMarkers ((c_areTwoMarkers G hp y z).yes ‹_›) (by rfl) (by rfl) (Nat.le_of_ble_eq_true rfl) (Nat.le_of_ble_eq_true rfl) (Nat.le_of_ble_eq_true rfl) (Nat.le_of_ble_eq_true rfl) (Nat.le_of_ble_eq_true rfl) rfl ?_
    refine v_if_eq (tgt := 16) dX2_like_5 (by decide) rfl (fun q => absurd q (by decide)) (fun _ => ?_)
    refine v_iload_n dX2_like_8 rfl rfl ?_
    refine v_iconst (v := nI 3) dX2_like_9 (by decide) rfl ?_
    by_cases q10 : InR p 3
    · refine v_csf dX2_like_10 cw_X2_49 ts_X2_isBelow ((c_isBelow G hp p 3).yes ‹_›) (by rfl) (by rfl) (Nat.le_of_ble_eq_true rfl) (Nat.le_of_ble_eq_true rfl) (Nat.le_of_ble_eq_true rfl) (Nat.le_of_ble_eq_true rfl) (Nat.le_of_ble_eq_true rfl) rfl ?_
      refine v_if_ne (tgt := 19) dX2_like_13 (by decide) rfl (fun _ => ?_) (fun q => absurd q (by decide))
      exact absurd ⟨q2, q10⟩ h
    · refine v_csf dX2_like_10 cw_X2_49 ts_X2_isBelow ((c_isBelow G hp p 3).no ‹_›) (by rfl) (by rfl) (Nat.le_of_ble_eq_true rfl) (Nat.le_of_ble_eq_true rfl) (Nat.le_of_ble_eq_true rfl) (Nat.le_of_ble_eq_true rfl) (Nat.le_of_ble_eq_true rfl) rfl ?_
      refine v_if_ne (tgt := 19) dX2_like_13 (by decide) rfl (fun q => absurd (by decide) q) (fun _ => ?_)
      refine v_bipush (v := (-100)) dX2_like_16 (by decide) rfl ?_
      exact v_iret dX2_like_18 rfl ⟨Nat.le_of_ble_eq_true rfl, Nat.le_of_ble_eq_true rfl⟩ (⟨rfl, rfl⟩)
  · refine v_csf dX2_like_2 cw_X2_110 ts_X2_areTwoMarkers ((c_areTwoMarkers G hp y z).no ‹_›) (by rfl) (by rfl) (Nat.le_of_ble_eq_true rfl) (Nat.le_of_ble_eq_true rfl) (Nat.le_of_ble_eq_true rfl) (Nat.le_of_ble_eq_true rfl) (Nat.le_of_ble_eq_true rfl) rfl ?_
    refine v_if_eq (tgt := 16) dX2_like_5 (by decide) rfl (fun _ => ?_) (fun q => absurd (by decide) q)
    refine v_bipush (v := (-100)) dX2_like_16 (by decide) rfl ?_
    exact v_iret dX2_like_18 rfl ⟨Nat.le_of_ble_eq_true rfl, Nat.le_of_ble_eq_true rfl⟩ (⟨rfl, rfl⟩)
theorem x_parts_y (hX : PX G s x hp) {a b : Nat} (ha : a < 3) (hb : b < 3) (hab : a ≠ b) : Ct G mX2_parts 2 0 0 [.ref (G.2.2.2 + 0), .int (nI a), .int (nI b)] hp (Qf (some (.int (prtS s a b s.n).2)) hp) := by
  obtain ⟨h0, h1, hgl, h2, hgw, h3, h4, h5, h6, hln, hwk, hn, hlen⟩ := hX
  have hab2 : InR (nI a) 3 ∧ InR (nI b) 3 ∧ ¬ nI a = nI b := ⟨inR_nI ha (by decide), inR_nI hb (by decide), fun q => hab ((nI_eq (by omega) (by omega)).mp q)⟩
  have key : ∀ k, k ≤ s.n → ∀ (l6 l7 : Option Value), Vm G mX2_parts 2 0 0 (Qf (some (.int (prtS s a b s.n).2)) hp) 21 [some (.ref (G.2.2.2 + 0)), some (.int (nI a)), some (.int (nI b)), some (.int (prtS s a b k).1), some (.int (prtS s a b k).2), some (.int (nI k)), l6, l7] [] hp 0 0 := by
    refine loop_up ?_ (fun k hk ih => ?_)
    · intro l6 l7
      refine v_iload dX2_parts_21 rfl rfl ?_
      refine v_aload_n dX2_parts_23 rfl rfl ?_
      refine v_getf dX2_parts_24 fl_X2_21 (by first | assumption | exact set_get (by assumption) | exact set_get (set_get (by assumption))) (by rfl) rfl ?_
      refine v_icmp_geN (tgt := 88) dX2_parts_27 (by decide) rfl (by omega) (by omega) (fun c27 => ?_) (fun c27 => ?_)
      · refine v_iload dX2_parts_88 rfl rfl ?_
        exact v_iret dX2_parts_90 rfl ⟨Nat.le_of_ble_eq_true rfl, Nat.le_of_ble_eq_true rfl⟩ (⟨rfl, rfl⟩)
      · exact absurd c27 (by omega)
    · intro l6 l7
      have hW := hwk k hk
      obtain ⟨l1, l2, l3⟩ := hwk k hk
      refine v_iload dX2_parts_21 rfl rfl ?_
      refine v_aload_n dX2_parts_23 rfl rfl ?_
      refine v_getf dX2_parts_24 fl_X2_21 (by first | assumption | exact set_get (by assumption) | exact set_get (set_get (by assumption))) (by rfl) rfl ?_
      refine v_icmp_geN (tgt := 88) dX2_parts_27 (by decide) rfl (by omega) (by omega) (fun c27 => ?_) (fun c27 => ?_)
      · exact absurd c27 (by omega)
      · refine v_aload_n dX2_parts_30 rfl rfl ?_
        refine v_getf dX2_parts_31 fl_X2_17 (by first | assumption | exact set_get (by assumption) | exact set_get (set_get (by assumption))) (by rfl) rfl ?_
        refine v_iload dX2_parts_34 rfl rfl ?_
        refine v_aaldW _ dX2_parts_36 (by first | assumption | exact set_get (by assumption) | exact set_get (set_get (by assumption))) rfl (by omega) (by decide) (by rw [hgw _ (by omega)]) rfl ?_
        refine v_astore dX2_parts_37 (Nat.le_of_ble_eq_true rfl) rfl ?_
        refine v_aload dX2_parts_39 rfl rfl ?_
        refine v_iload_n dX2_parts_41 rfl rfl ?_
        refine v_iload_n dX2_parts_42 rfl rfl ?_
        by_cases q43 : bothP s a b k
        · refine v_cvf dX2_parts_43 cw_X2_127 ⟨tn_X1_isMarkedByBoth, tl_X1_isMarkedByBoth⟩ rfl (by first | assumption | exact set_get (by assumption) | exact set_get (set_get (by assumption))) ((c_isMarkedByBoth G hp hW ha hb).yes ‹_›) (by rfl) (by rfl) (Nat.le_of_ble_eq_true rfl) (Nat.le_of_ble_eq_true rfl) (Nat.le_of_ble_eq_true rfl) (Nat.le_of_ble_eq_true rfl) (Nat.le_of_ble_eq_true rfl) rfl ?_
          refine v_if_eq (tgt := 82) dX2_parts_46 (by decide) rfl (fun q => absurd q (by decide)) (fun _ => ?_)
          refine v_aload dX2_parts_49 rfl rfl ?_
          refine v_getf dX2_parts_51 fl_X2_107 (by first | assumption | exact set_get (by assumption) | exact set_get (set_get (by assumption))) (by rfl) rfl ?_
          refine v_iload_n dX2_parts_54 rfl rfl ?_
          refine v_iald _ dX2_parts_55 (by first | assumption | exact set_get (by assumption) | exact set_get (set_get (by assumption))) rfl (by omega) (by decide) rfl ?_
          refine v_aload dX2_parts_56 rfl rfl ?_
          refine v_getf dX2_parts_58 fl_X2_107 (by first | assumption | exact set_get (by assumption) | exact set_get (set_get (by assumption))) (by rfl) rfl ?_
          refine v_iload_n dX2_parts_61 rfl rfl ?_
          refine v_iald _ dX2_parts_62 (by first | assumption | exact set_get (by assumption) | exact set_get (set_get (by assumption))) rfl (by omega) (by decide) rfl ?_
          refine v_isub dX2_parts_63 rfl ?_
          refine v_csf dX2_parts_64 cw_X2_130 ts_J9_abs_0f7a4 (c_abs G hp (s.mr k a - s.mr k b)) (by rfl) (by rfl) (Nat.le_of_ble_eq_true rfl) (Nat.le_of_ble_eq_true rfl) (Nat.le_of_ble_eq_true rfl) (Nat.le_of_ble_eq_true rfl) (Nat.le_of_ble_eq_true rfl) rfl ?_
          refine v_istore dX2_parts_67 (Nat.le_of_ble_eq_true rfl) rfl ?_
          refine v_iload dX2_parts_69 rfl rfl ?_
          refine v_iload_n dX2_parts_71 rfl rfl ?_
          refine v_icmp_le (tgt := 82) dX2_parts_72 (by decide) rfl (fun c72 => ?_) (fun c72 => ?_)
          · refine v_iinc1 dX2_parts_82 rfl (Nat.le_of_ble_eq_true rfl) rfl ?_
            refine v_goto (tgt := 21) dX2_parts_85 (by decide) ?_
            first | (rw [prtS_t (w := k) ⟨q43, c72⟩] at ih; exact ih _ _) | (rw [prtS_f (w := k) (fun h => absurd h.1 q43)] at ih; exact ih _ _) | (rw [prtS_f (w := k) (fun h => absurd c72 h.2)] at ih; exact ih _ _)
          · refine v_iload dX2_parts_75 rfl rfl ?_
            refine v_istore_n dX2_parts_77 (Nat.le_of_ble_eq_true rfl) rfl ?_
            refine v_iload dX2_parts_78 rfl rfl ?_
            refine v_istore dX2_parts_80 (Nat.le_of_ble_eq_true rfl) rfl ?_
            refine v_iinc1 dX2_parts_82 rfl (Nat.le_of_ble_eq_true rfl) rfl ?_
            refine v_goto (tgt := 21) dX2_parts_85 (by decide) ?_
            first | (rw [prtS_t (w := k) ⟨q43, c72⟩] at ih; exact ih _ _) | (rw [prtS_f (w := k) (fun h => absurd h.1 q43)] at ih; exact ih _ _) | (rw [prtS_f (w := k) (fun h => absurd c72 h.2)] at ih; exact ih _ _)
        · refine v_cvf dX2_parts_43 cw_X2_127 ⟨tn_X1_isMarkedByBoth, tl_X1_isMarkedByBoth⟩ rfl (by first | assumption | exact set_get (by assumption) | exact set_get (set_get (by assumption))) ((c_isMarkedByBoth G hp hW ha hb).no ‹_›) (by rfl) (by rfl) (Nat.le_of_ble_eq_true rfl) (Nat.le_of_ble_eq_true rfl) (Nat.le_of_ble_eq_true rfl) (Nat.le_of_ble_eq_true rfl) (Nat.le_of_ble_eq_true rfl) rfl ?_
          refine v_if_eq (tgt := 82) dX2_parts_46 (by decide) rfl (fun _ => ?_) (fun q => absurd (by decide) q)
          refine v_iinc1 dX2_parts_82 rfl (Nat.le_of_ble_eq_true rfl) rfl ?_
          refine v_goto (tgt := 21) dX2_parts_85 (by decide) ?_
          first | (rw [prtS_t (w := k) ⟨q43, c72⟩] at ih; exact ih _ _) | (rw [prtS_f (w := k) (fun h => absurd h.1 q43)] at ih; exact ih _ _) | (rw [prtS_f (w := k) (fun h => absurd c72 h.2)] at ih; exact ih _ _)
  refine Ct.start 5 (by decide) rfl (Nat.le_of_ble_eq_true rfl) ?_
  refine v_iload_n dX2_parts_0 rfl rfl ?_
  refine v_iload_n dX2_parts_1 rfl rfl ?_
  refine v_csf dX2_parts_2 cw_X2_110 ts_X2_areTwoMarkers ((c_areTwoMarkers G hp (nI a) (nI b)).yes hab2) (by rfl) (by rfl) (Nat.le_of_ble_eq_true rfl) (Nat.le_of_ble_eq_true rfl) (Nat.le_of_ble_eq_true rfl) (Nat.le_of_ble_eq_true rfl) (Nat.le_of_ble_eq_true rfl) rfl ?_
  refine v_if_ne (tgt := 11) dX2_parts_5 (by decide) rfl (fun _ => ?_) (fun q => absurd q (by decide))
  refine v_iconst (v := nI 0) dX2_parts_11 (by decide) rfl ?_
  refine v_istore_n dX2_parts_12 (Nat.le_of_ble_eq_true rfl) rfl ?_
  refine v_sipush (v := (-900)) dX2_parts_13 (by decide) rfl ?_
  refine v_istore dX2_parts_16 (Nat.le_of_ble_eq_true rfl) rfl ?_
  refine v_iconst (v := nI 0) dX2_parts_18 (by decide) rfl ?_
  refine v_istore dX2_parts_19 (Nat.le_of_ble_eq_true rfl) rfl ?_
  exact key 0 (Nat.zero_le _) _ _
theorem x_parts_n {y z : Int32} (h : ¬ (InR y 3 ∧ InR z 3 ∧ ¬ y = z)) : Ct G mX2_parts 2 0 0 [.ref (G.2.2.2 + 0), .int y, .int z] hp (Qf (some (.int (-100))) hp) := by
  refine Ct.start 5 (by decide) rfl (Nat.le_of_ble_eq_true rfl) ?_
  refine v_iload_n dX2_parts_0 rfl rfl ?_
  refine v_iload_n dX2_parts_1 rfl rfl ?_
  refine v_csf dX2_parts_2 cw_X2_110 ts_X2_areTwoMarkers ((c_areTwoMarkers G hp y z).no h) (by rfl) (by rfl) (Nat.le_of_ble_eq_true rfl) (Nat.le_of_ble_eq_true rfl) (Nat.le_of_ble_eq_true rfl) (Nat.le_of_ble_eq_true rfl) (Nat.le_of_ble_eq_true rfl) rfl ?_
  refine v_if_ne (tgt := 11) dX2_parts_5 (by decide) rfl (fun q => absurd (by decide) q) (fun _ => ?_)
  refine v_bipush (v := (-100)) dX2_parts_8 (by decide) rfl ?_
  exact v_iret dX2_parts_10 rfl ⟨Nat.le_of_ble_eq_true rfl, Nat.le_of_ble_eq_true rfl⟩ (⟨rfl, rfl⟩)
theorem x_anchor_y (hX : PX G s x hp) {w : Nat} (hw : w < s.n) {v : Int32} (hv : v = -900 ∨ InR v 4) : Ct G mX2_anchor 2 0 0 [.ref (G.2.2.2 + 0), .int (nI w), .int v] hp (QX G hp (s.tr w) (setTr s w v)) := by
  have h0 := hX.1
  have hn := hX.2.2.2.2.2.2.2.2.2.2.2.1
  obtain ⟨l1, l2, l3⟩ := hX.2.2.2.2.2.2.2.2.2.2.1 w hw
  refine Ct.start 2 (by decide) rfl (Nat.le_of_ble_eq_true rfl) ?_
  refine v_aload_n dX2_anchor_0 rfl rfl ?_
  refine v_iload_n dX2_anchor_1 rfl rfl ?_
  refine v_cvf dX2_anchor_2 cw_X2_92 ⟨tn_X2_workAt, tl_X2_workAt⟩ rfl (by first | assumption | exact set_get (by assumption) | exact set_get (set_get (by assumption))) (c_workAt G hp hX hw) (by rfl) (by rfl) (Nat.le_of_ble_eq_true rfl) (Nat.le_of_ble_eq_true rfl) (Nat.le_of_ble_eq_true rfl) (Nat.le_of_ble_eq_true rfl) (Nat.le_of_ble_eq_true rfl) rfl ?_
  refine v_astore_n dX2_anchor_5 (Nat.le_of_ble_eq_true rfl) rfl ?_
  refine v_aload_n dX2_anchor_6 rfl rfl ?_
  refine v_ifnull dX2_anchor_7 rfl ?_
  refine v_iload_n dX2_anchor_10 rfl rfl ?_
  refine v_csf dX2_anchor_11 cw_X2_103 ts_X2_isMarkOrNone ((c_isMarkOrNone G hp v).yes hv) (by rfl) (by rfl) (Nat.le_of_ble_eq_true rfl) (Nat.le_of_ble_eq_true rfl) (Nat.le_of_ble_eq_true rfl) (Nat.le_of_ble_eq_true rfl) (Nat.le_of_ble_eq_true rfl) rfl ?_
  refine v_if_ne (tgt := 20) dX2_anchor_14 (by decide) rfl (fun _ => ?_) (fun q => absurd q (by decide))
  refine v_aload_n dX2_anchor_20 rfl rfl ?_
  refine v_getf dX2_anchor_21 fl_X2_135 (by first | assumption | exact set_get (by assumption) | exact set_get (set_get (by assumption))) (by rfl) rfl ?_
  refine v_istore dX2_anchor_24 (Nat.le_of_ble_eq_true rfl) rfl ?_
  refine v_aload_n dX2_anchor_26 rfl rfl ?_
  refine v_iload_n dX2_anchor_27 rfl rfl ?_
  refine v_putf dX2_anchor_28 fl_X2_135 (by first | assumption | exact set_get (by assumption) | exact set_get (set_get (by assumption))) (by rfl) (by rfl) (by exact Nat.le_of_ble_eq_true rfl) rfl ?_
  refine v_iload dX2_anchor_31 rfl rfl ?_
  exact v_iret dX2_anchor_33 rfl ⟨Nat.le_of_ble_eq_true rfl, Nat.le_of_ble_eq_true rfl⟩ (⟨rfl, ⟨x, hX.setTr hw v⟩, FrX.rf.set (by omega)⟩)
theorem x_anchor_n (hX : PX G s x hp) {z v : Int32} (h : ¬ (InR z s.n ∧ (v = -900 ∨ InR v 4))) : Ct G mX2_anchor 2 0 0 [.ref (G.2.2.2 + 0), .int z, .int v] hp (Qf (some (.int (-100))) hp) := by
  have h0 := hX.1
  have hn := hX.2.2.2.2.2.2.2.2.2.2.2.1
  refine Ct.start 2 (by decide) rfl (Nat.le_of_ble_eq_true rfl) ?_
  refine v_aload_n dX2_anchor_0 rfl rfl ?_
  refine v_iload_n dX2_anchor_1 rfl rfl ?_
  by_cases q2 : InR z s.n
  · obtain ⟨w, hw, rfl⟩ := inR_of (by omega) q2
    refine v_cvf dX2_anchor_2 cw_X2_92 ⟨tn_X2_workAt, tl_X2_workAt⟩ rfl (by first | assumption | exact set_get (by assumption) | exact set_get (set_get (by assumption))) (c_workAt G hp hX hw) (by rfl) (by rfl) (Nat.le_of_ble_eq_true rfl) (Nat.le_of_ble_eq_true rfl) (Nat.le_of_ble_eq_true rfl) (Nat.le_of_ble_eq_true rfl) (Nat.le_of_ble_eq_true rfl) rfl ?_
    refine v_astore_n dX2_anchor_5 (Nat.le_of_ble_eq_true rfl) rfl ?_
    refine v_aload_n dX2_anchor_6 rfl rfl ?_
    refine v_ifnull dX2_anchor_7 rfl ?_
    refine v_iload_n dX2_anchor_10 rfl rfl ?_
    by_cases q11 : v = -900 ∨ InR v 4
    · refine v_csf dX2_anchor_11 cw_X2_103 ts_X2_isMarkOrNone ((c_isMarkOrNone G hp v).yes ‹_›) (by rfl) (by rfl) (Nat.le_of_ble_eq_true rfl) (Nat.le_of_ble_eq_true rfl) (Nat.le_of_ble_eq_true rfl) (Nat.le_of_ble_eq_true rfl) (Nat.le_of_ble_eq_true rfl) rfl ?_
      refine v_if_ne (tgt := 20) dX2_anchor_14 (by decide) rfl (fun _ => ?_) (fun q => absurd q (by decide))
      exact absurd ⟨q2, q11⟩ h
    · refine v_csf dX2_anchor_11 cw_X2_103 ts_X2_isMarkOrNone ((c_isMarkOrNone G hp v).no ‹_›) (by rfl) (by rfl) (Nat.le_of_ble_eq_true rfl) (Nat.le_of_ble_eq_true rfl) (Nat.le_of_ble_eq_true rfl) (Nat.le_of_ble_eq_true rfl) (Nat.le_of_ble_eq_true rfl) rfl ?_
      refine v_if_ne (tgt := 20) dX2_anchor_14 (by decide) rfl (fun q => absurd (by decide) q) (fun _ => ?_)
      refine v_bipush (v := (-100)) dX2_anchor_17 (by decide) rfl ?_
      exact v_iret dX2_anchor_19 rfl ⟨Nat.le_of_ble_eq_true rfl, Nat.le_of_ble_eq_true rfl⟩ (⟨rfl, rfl⟩)
  · refine v_cvf dX2_anchor_2 cw_X2_92 ⟨tn_X2_workAt, tl_X2_workAt⟩ rfl (by first | assumption | exact set_get (by assumption) | exact set_get (set_get (by assumption))) (c_workAt_no G hp hX q2) (by rfl) (by rfl) (Nat.le_of_ble_eq_true rfl) (Nat.le_of_ble_eq_true rfl) (Nat.le_of_ble_eq_true rfl) (Nat.le_of_ble_eq_true rfl) (Nat.le_of_ble_eq_true rfl) rfl ?_
    refine v_astore_nN dX2_anchor_5 (Nat.le_of_ble_eq_true rfl) rfl ?_
    refine v_aload_nN dX2_anchor_6 rfl rfl ?_
    refine v_ifnullN (tgt := 17) dX2_anchor_7 (by decide) ?_
    refine v_bipush (v := (-100)) dX2_anchor_17 (by decide) rfl ?_
    exact v_iret dX2_anchor_19 rfl ⟨Nat.le_of_ble_eq_true rfl, Nat.le_of_ble_eq_true rfl⟩ (⟨rfl, rfl⟩)
theorem x_off_y (hX : PX G s x hp) {m p : Nat} (hm : m < 3) (hp3 : p < 3) : Ct G mX2_off 2 0 0 [.ref (G.2.2.2 + 0), .int (nI m), .int (nI p)] hp (Qf (some (.int (ofI s m p))) hp) := by
  have h0 := hX.1
  have hn := hX.2.2.2.2.2.2.2.2.2.2.2.1
  have hB : cnt (offP s m) s.n ≤ 12 := Nat.le_trans (cnt_le _ _) hn
  refine Ct.start 1 (by decide) rfl (Nat.le_of_ble_eq_true rfl) ?_
  refine v_iload_n dX2_off_0 rfl rfl ?_
  refine v_iconst (v := nI 3) dX2_off_1 (by decide) rfl ?_
  refine v_csf dX2_off_2 cw_X2_49 ts_X2_isBelow ((c_isBelow G hp (nI m) 3).yes (inR_nI hm (by decide))) (by rfl) (by rfl) (Nat.le_of_ble_eq_true rfl) (Nat.le_of_ble_eq_true rfl) (Nat.le_of_ble_eq_true rfl) (Nat.le_of_ble_eq_true rfl) (Nat.le_of_ble_eq_true rfl) rfl ?_
  refine v_if_eq (tgt := 16) dX2_off_5 (by decide) rfl (fun q => absurd q (by decide)) (fun _ => ?_)
  refine v_iload_n dX2_off_8 rfl rfl ?_
  refine v_iconst (v := nI 3) dX2_off_9 (by decide) rfl ?_
  refine v_csf dX2_off_10 cw_X2_49 ts_X2_isBelow ((c_isBelow G hp (nI p) 3).yes (inR_nI hp3 (by decide))) (by rfl) (by rfl) (Nat.le_of_ble_eq_true rfl) (Nat.le_of_ble_eq_true rfl) (Nat.le_of_ble_eq_true rfl) (Nat.le_of_ble_eq_true rfl) (Nat.le_of_ble_eq_true rfl) rfl ?_
  refine v_if_ne (tgt := 19) dX2_off_13 (by decide) rfl (fun _ => ?_) (fun q => absurd q (by decide))
  refine v_aload_n dX2_off_19 rfl rfl ?_
  refine v_iload_n dX2_off_20 rfl rfl ?_
  refine v_cvf dX2_off_21 cw_X2_138 ⟨tn_X2_countMarkedAnchors, tl_X2_countMarkedAnchors⟩ rfl (by first | assumption | exact set_get (by assumption) | exact set_get (set_get (by assumption))) (c_countMarkedAnchors G hp hX hm) (by rfl) (by rfl) (Nat.le_of_ble_eq_true rfl) (Nat.le_of_ble_eq_true rfl) (Nat.le_of_ble_eq_true rfl) (Nat.le_of_ble_eq_true rfl) (Nat.le_of_ble_eq_true rfl) rfl ?_
  refine v_istore_n dX2_off_24 (Nat.le_of_ble_eq_true rfl) rfl ?_
  refine v_iload_n dX2_off_25 rfl rfl ?_
  refine v_iconst (v := nI 2) dX2_off_26 (by decide) rfl ?_
  refine v_icmp_neN (tgt := 34) dX2_off_27 (by decide) rfl (by omega) (by omega) (fun c27 => ?_) (fun c27 => ?_)
  · refine v_aload_n dX2_off_34 rfl rfl ?_
    refine v_iload_n dX2_off_35 rfl rfl ?_
    refine v_cvf dX2_off_36 cw_X2_141 ⟨tn_X2_sumOffAnchors, tl_X2_sumOffAnchors⟩ rfl (by first | assumption | exact set_get (by assumption) | exact set_get (set_get (by assumption))) (c_sumOffAnchors G hp hX hm) (by rfl) (by rfl) (Nat.le_of_ble_eq_true rfl) (Nat.le_of_ble_eq_true rfl) (Nat.le_of_ble_eq_true rfl) (Nat.le_of_ble_eq_true rfl) (Nat.le_of_ble_eq_true rfl) rfl ?_
    refine v_iload_n dX2_off_39 rfl rfl ?_
    refine v_iload_n dX2_off_40 rfl rfl ?_
    refine v_csf dX2_off_41 cw_X2_123 ts_X2_partOfRatio (c_partOfRatio G hp (offS s m s.n) (nI p) (l := cnt (offP s m) s.n) (by omega)) (by rfl) (by rfl) (Nat.le_of_ble_eq_true rfl) (Nat.le_of_ble_eq_true rfl) (Nat.le_of_ble_eq_true rfl) (Nat.le_of_ble_eq_true rfl) (Nat.le_of_ble_eq_true rfl) rfl ?_
    exact v_iret dX2_off_44 rfl ⟨Nat.le_of_ble_eq_true rfl, Nat.le_of_ble_eq_true rfl⟩ (⟨by first | (rw [ofI, if_pos ‹_›]; done) | (rw [ofI, if_neg ‹_›]; done), rfl⟩)
  · refine v_iload_n dX2_off_30 rfl rfl ?_
    refine v_goto (tgt := 44) dX2_off_31 (by decide) ?_
    exact v_iret dX2_off_44 rfl ⟨Nat.le_of_ble_eq_true rfl, Nat.le_of_ble_eq_true rfl⟩ (⟨by first | (rw [ofI, if_pos ‹_›]; done) | (rw [ofI, if_neg ‹_›]; done), rfl⟩)
theorem x_off_n {y p : Int32} (h : ¬ (InR y 3 ∧ InR p 3)) : Ct G mX2_off 2 0 0 [.ref (G.2.2.2 + 0), .int y, .int p] hp (Qf (some (.int (-100))) hp) := by
  refine Ct.start 1 (by decide) rfl (Nat.le_of_ble_eq_true rfl) ?_
  refine v_iload_n dX2_off_0 rfl rfl ?_
  refine v_iconst (v := nI 3) dX2_off_1 (by decide) rfl ?_
  by_cases q2 : InR y 3
  · refine v_csf dX2_off_2 cw_X2_49 ts_X2_isBelow ((c_isBelow G hp y 3).yes ‹_›) (by rfl) (by rfl) (Nat.le_of_ble_eq_true rfl) (Nat.le_of_ble_eq_true rfl) (Nat.le_of_ble_eq_true rfl) (Nat.le_of_ble_eq_true rfl) (Nat.le_of_ble_eq_true rfl) rfl ?_
    refine v_if_eq (tgt := 16) dX2_off_5 (by decide) rfl (fun q => absurd q (by decide)) (fun _ => ?_)
    refine v_iload_n dX2_off_8 rfl rfl ?_
    refine v_iconst (v := nI 3) dX2_off_9 (by decide) rfl ?_
    by_cases q10 : InR p 3
    · refine v_csf dX2_off_10 cw_X2_49 ts_X2_isBelow ((c_isBelow G hp p 3).yes ‹_›) (by rfl) (by rfl) (Nat.le_of_ble_eq_true rfl) (Nat.le_of_ble_eq_true rfl) (Nat.le_of_ble_eq_true rfl) (Nat.le_of_ble_eq_true rfl) (Nat.le_of_ble_eq_true rfl) rfl ?_
      refine v_if_ne (tgt := 19) dX2_off_13 (by decide) rfl (fun _ => ?_) (fun q => absurd q (by decide))
      exact absurd ⟨q2, q10⟩ h
    · refine v_csf dX2_off_10 cw_X2_49 ts_X2_isBelow ((c_isBelow G hp p 3).no ‹_›) (by rfl) (by rfl) (Nat.le_of_ble_eq_true rfl) (Nat.le_of_ble_eq_true rfl) (Nat.le_of_ble_eq_true rfl) (Nat.le_of_ble_eq_true rfl) (Nat.le_of_ble_eq_true rfl) rfl ?_
      refine v_if_ne (tgt := 19) dX2_off_13 (by decide) rfl (fun q => absurd (by decide) q) (fun _ => ?_)
      refine v_bipush (v := (-100)) dX2_off_16 (by decide) rfl ?_
      exact v_iret dX2_off_18 rfl ⟨Nat.le_of_ble_eq_true rfl, Nat.le_of_ble_eq_true rfl⟩ (⟨rfl, rfl⟩)
  · refine v_csf dX2_off_2 cw_X2_49 ts_X2_isBelow ((c_isBelow G hp y 3).no ‹_›) (by rfl) (by rfl) (Nat.le_of_ble_eq_true rfl) (Nat.le_of_ble_eq_true rfl) (Nat.le_of_ble_eq_true rfl) (Nat.le_of_ble_eq_true rfl) (Nat.le_of_ble_eq_true rfl) rfl ?_
    refine v_if_eq (tgt := 16) dX2_off_5 (by decide) rfl (fun _ => ?_) (fun q => absurd (by decide) q)
    refine v_bipush (v := (-100)) dX2_off_16 (by decide) rfl ?_
    exact v_iret dX2_off_18 rfl ⟨Nat.le_of_ble_eq_true rfl, Nat.le_of_ble_eq_true rfl⟩ (⟨rfl, rfl⟩)
theorem x_fair_y (hX : PX G s x hp) {m w : Nat} (hm : m < 3) (hw : w < s.n) : Ct G mX2_fair 2 0 0 [.ref (G.2.2.2 + 0), .int (nI m), .int (nI w)] hp (Qf (some (.int (frI s m w))) hp) := by
  have h0 := hX.1
  have hn := hX.2.2.2.2.2.2.2.2.2.2.2.1
  have hW := hX.2.2.2.2.2.2.2.2.2.2.1 w hw
  obtain ⟨l1, l2, l3⟩ := hX.2.2.2.2.2.2.2.2.2.2.1 w hw
  have hB : cnt (offP s m) s.n ≤ 12 := Nat.le_trans (cnt_le _ _) hn
  refine Ct.start 4 (by decide) rfl (Nat.le_of_ble_eq_true rfl) ?_
  refine v_aload_n dX2_fair_0 rfl rfl ?_
  refine v_iload_n dX2_fair_1 rfl rfl ?_
  refine v_cvf dX2_fair_2 cw_X2_92 ⟨tn_X2_workAt, tl_X2_workAt⟩ rfl (by first | assumption | exact set_get (by assumption) | exact set_get (set_get (by assumption))) (c_workAt G hp hX hw) (by rfl) (by rfl) (Nat.le_of_ble_eq_true rfl) (Nat.le_of_ble_eq_true rfl) (Nat.le_of_ble_eq_true rfl) (Nat.le_of_ble_eq_true rfl) (Nat.le_of_ble_eq_true rfl) rfl ?_
  refine v_astore_n dX2_fair_5 (Nat.le_of_ble_eq_true rfl) rfl ?_
  refine v_aload_n dX2_fair_6 rfl rfl ?_
  refine v_ifnull dX2_fair_7 rfl ?_
  refine v_iload_n dX2_fair_10 rfl rfl ?_
  refine v_iconst (v := nI 3) dX2_fair_11 (by decide) rfl ?_
  refine v_csf dX2_fair_12 cw_X2_49 ts_X2_isBelow ((c_isBelow G hp (nI m) 3).yes (inR_nI hm (by decide))) (by rfl) (by rfl) (Nat.le_of_ble_eq_true rfl) (Nat.le_of_ble_eq_true rfl) (Nat.le_of_ble_eq_true rfl) (Nat.le_of_ble_eq_true rfl) (Nat.le_of_ble_eq_true rfl) rfl ?_
  refine v_if_ne (tgt := 21) dX2_fair_15 (by decide) rfl (fun _ => ?_) (fun q => absurd q (by decide))
  refine v_aload_n dX2_fair_21 rfl rfl ?_
  refine v_iload_n dX2_fair_22 rfl rfl ?_
  refine v_cvf dX2_fair_23 cw_X2_138 ⟨tn_X2_countMarkedAnchors, tl_X2_countMarkedAnchors⟩ rfl (by first | assumption | exact set_get (by assumption) | exact set_get (set_get (by assumption))) (c_countMarkedAnchors G hp hX hm) (by rfl) (by rfl) (Nat.le_of_ble_eq_true rfl) (Nat.le_of_ble_eq_true rfl) (Nat.le_of_ble_eq_true rfl) (Nat.le_of_ble_eq_true rfl) (Nat.le_of_ble_eq_true rfl) rfl ?_
  refine v_istore dX2_fair_26 (Nat.le_of_ble_eq_true rfl) rfl ?_
  refine v_aload_n dX2_fair_28 rfl rfl ?_
  refine v_iload_n dX2_fair_29 rfl rfl ?_
  by_cases q30 : mkdP s m w
  · refine v_cvf dX2_fair_30 cw_X2_144 ⟨tn_X1_isMarkedBy, tl_X1_isMarkedBy⟩ rfl (by first | assumption | exact set_get (by assumption) | exact set_get (set_get (by assumption))) ((c_isMarkedBy G hp hW hm).yes ‹_›) (by rfl) (by rfl) (Nat.le_of_ble_eq_true rfl) (Nat.le_of_ble_eq_true rfl) (Nat.le_of_ble_eq_true rfl) (Nat.le_of_ble_eq_true rfl) (Nat.le_of_ble_eq_true rfl) rfl ?_
    refine v_if_eq (tgt := 41) dX2_fair_33 (by decide) rfl (fun q => absurd q (by decide)) (fun _ => ?_)
    refine v_iload dX2_fair_36 rfl rfl ?_
    refine v_if_gtN (tgt := 45) dX2_fair_38 (by decide) rfl (by omega) (fun c38 => ?_) (fun c38 => ?_)
    · refine v_aload_n dX2_fair_45 rfl rfl ?_
      refine v_getf dX2_fair_46 fl_X2_107 (by first | assumption | exact set_get (by assumption) | exact set_get (set_get (by assumption))) (by rfl) rfl ?_
      refine v_iload_n dX2_fair_49 rfl rfl ?_
      refine v_iald _ dX2_fair_50 (by first | assumption | exact set_get (by assumption) | exact set_get (set_get (by assumption))) rfl (by omega) (by decide) rfl ?_
      refine v_iload dX2_fair_51 rfl rfl ?_
      refine v_imul dX2_fair_53 rfl ?_
      refine v_aload_n dX2_fair_54 rfl rfl ?_
      refine v_iload_n dX2_fair_55 rfl rfl ?_
      refine v_cvf dX2_fair_56 cw_X2_141 ⟨tn_X2_sumOffAnchors, tl_X2_sumOffAnchors⟩ rfl (by first | assumption | exact set_get (by assumption) | exact set_get (set_get (by assumption))) (c_sumOffAnchors G hp hX hm) (by rfl) (by rfl) (Nat.le_of_ble_eq_true rfl) (Nat.le_of_ble_eq_true rfl) (Nat.le_of_ble_eq_true rfl) (Nat.le_of_ble_eq_true rfl) (Nat.le_of_ble_eq_true rfl) rfl ?_
      refine v_isub dX2_fair_59 rfl ?_
      refine v_istore dX2_fair_60 (Nat.le_of_ble_eq_true rfl) rfl ?_
      refine v_iconst (v := nI 2) dX2_fair_62 (by decide) rfl ?_
      refine v_iload dX2_fair_63 rfl rfl ?_
      refine v_imul dX2_fair_65 rfl ?_
      refine v_iload dX2_fair_66 rfl rfl ?_
      refine v_iadd dX2_fair_68 rfl ?_
      refine v_iconst (v := nI 2) dX2_fair_69 (by decide) rfl ?_
      refine v_iload dX2_fair_70 rfl rfl ?_
      refine v_imulN dX2_fair_72 rfl ?_
      refine v_csf dX2_fair_73 cw_X2_147 ts_J9_floorDiv_7cf53 (c_floorDiv G hp _ (nI (2 * cnt (offP s m) s.n)) (nI_ne0 (by omega) (by omega))) (by rfl) (by rfl) (Nat.le_of_ble_eq_true rfl) (Nat.le_of_ble_eq_true rfl) (Nat.le_of_ble_eq_true rfl) (Nat.le_of_ble_eq_true rfl) (Nat.le_of_ble_eq_true rfl) rfl ?_
      refine v_istore dX2_fair_76 (Nat.le_of_ble_eq_true rfl) rfl ?_
      refine v_iconst (v := nI 0) dX2_fair_78 (by decide) rfl ?_
      refine v_iconst (v := nI 3) dX2_fair_79 (by decide) rfl ?_
      refine v_iload dX2_fair_80 rfl rfl ?_
      refine v_csf dX2_fair_82 cw_X2_150 ts_J9_min_7cf53 (c_min G hp _ _) (by rfl) (by rfl) (Nat.le_of_ble_eq_true rfl) (Nat.le_of_ble_eq_true rfl) (Nat.le_of_ble_eq_true rfl) (Nat.le_of_ble_eq_true rfl) (Nat.le_of_ble_eq_true rfl) rfl ?_
      refine v_csf dX2_fair_85 cw_X2_153 ts_J9_max_7cf53 (c_max G hp _ _) (by rfl) (by rfl) (Nat.le_of_ble_eq_true rfl) (Nat.le_of_ble_eq_true rfl) (Nat.le_of_ble_eq_true rfl) (Nat.le_of_ble_eq_true rfl) (Nat.le_of_ble_eq_true rfl) rfl ?_
      exact v_iret dX2_fair_88 rfl ⟨Nat.le_of_ble_eq_true rfl, Nat.le_of_ble_eq_true rfl⟩ (⟨by first | (rw [frI_t ⟨‹_›, ‹_›⟩]; rfl) | (rw [frI_f (fun q => absurd q.1 ‹_›)]; done) | (rw [frI_f (fun q => by have := q.2; omega)]; done), rfl⟩)
    · refine v_sipush (v := (-200)) dX2_fair_41 (by decide) rfl ?_
      exact v_iret dX2_fair_44 rfl ⟨Nat.le_of_ble_eq_true rfl, Nat.le_of_ble_eq_true rfl⟩ (⟨by first | (rw [frI_t ⟨‹_›, ‹_›⟩]; rfl) | (rw [frI_f (fun q => absurd q.1 ‹_›)]; done) | (rw [frI_f (fun q => by have := q.2; omega)]; done), rfl⟩)
  · refine v_cvf dX2_fair_30 cw_X2_144 ⟨tn_X1_isMarkedBy, tl_X1_isMarkedBy⟩ rfl (by first | assumption | exact set_get (by assumption) | exact set_get (set_get (by assumption))) ((c_isMarkedBy G hp hW hm).no ‹_›) (by rfl) (by rfl) (Nat.le_of_ble_eq_true rfl) (Nat.le_of_ble_eq_true rfl) (Nat.le_of_ble_eq_true rfl) (Nat.le_of_ble_eq_true rfl) (Nat.le_of_ble_eq_true rfl) rfl ?_
    refine v_if_eq (tgt := 41) dX2_fair_33 (by decide) rfl (fun _ => ?_) (fun q => absurd (by decide) q)
    refine v_sipush (v := (-200)) dX2_fair_41 (by decide) rfl ?_
    exact v_iret dX2_fair_44 rfl ⟨Nat.le_of_ble_eq_true rfl, Nat.le_of_ble_eq_true rfl⟩ (⟨by first | (rw [frI_t ⟨‹_›, ‹_›⟩]; rfl) | (rw [frI_f (fun q => absurd q.1 ‹_›)]; done) | (rw [frI_f (fun q => by have := q.2; omega)]; done), rfl⟩)
theorem x_fair_n (hX : PX G s x hp) {y z : Int32} (h : ¬ (InR y 3 ∧ InR z s.n)) : Ct G mX2_fair 2 0 0 [.ref (G.2.2.2 + 0), .int y, .int z] hp (Qf (some (.int (-100))) hp) := by
  have h0 := hX.1
  have hn := hX.2.2.2.2.2.2.2.2.2.2.2.1
  refine Ct.start 4 (by decide) rfl (Nat.le_of_ble_eq_true rfl) ?_
  refine v_aload_n dX2_fair_0 rfl rfl ?_
  refine v_iload_n dX2_fair_1 rfl rfl ?_
  by_cases q2 : InR z s.n
  · obtain ⟨w, hw, rfl⟩ := inR_of (by omega) q2
    refine v_cvf dX2_fair_2 cw_X2_92 ⟨tn_X2_workAt, tl_X2_workAt⟩ rfl (by first | assumption | exact set_get (by assumption) | exact set_get (set_get (by assumption))) (c_workAt G hp hX hw) (by rfl) (by rfl) (Nat.le_of_ble_eq_true rfl) (Nat.le_of_ble_eq_true rfl) (Nat.le_of_ble_eq_true rfl) (Nat.le_of_ble_eq_true rfl) (Nat.le_of_ble_eq_true rfl) rfl ?_
    refine v_astore_n dX2_fair_5 (Nat.le_of_ble_eq_true rfl) rfl ?_
    refine v_aload_n dX2_fair_6 rfl rfl ?_
    refine v_ifnull dX2_fair_7 rfl ?_
    refine v_iload_n dX2_fair_10 rfl rfl ?_
    refine v_iconst (v := nI 3) dX2_fair_11 (by decide) rfl ?_
    by_cases q12 : InR y 3
    · refine v_csf dX2_fair_12 cw_X2_49 ts_X2_isBelow ((c_isBelow G hp y 3).yes ‹_›) (by rfl) (by rfl) (Nat.le_of_ble_eq_true rfl) (Nat.le_of_ble_eq_true rfl) (Nat.le_of_ble_eq_true rfl) (Nat.le_of_ble_eq_true rfl) (Nat.le_of_ble_eq_true rfl) rfl ?_
      refine v_if_ne (tgt := 21) dX2_fair_15 (by decide) rfl (fun _ => ?_) (fun q => absurd q (by decide))
      exact absurd ⟨q12, q2⟩ h
    · refine v_csf dX2_fair_12 cw_X2_49 ts_X2_isBelow ((c_isBelow G hp y 3).no ‹_›) (by rfl) (by rfl) (Nat.le_of_ble_eq_true rfl) (Nat.le_of_ble_eq_true rfl) (Nat.le_of_ble_eq_true rfl) (Nat.le_of_ble_eq_true rfl) (Nat.le_of_ble_eq_true rfl) rfl ?_
      refine v_if_ne (tgt := 21) dX2_fair_15 (by decide) rfl (fun q => absurd (by decide) q) (fun _ => ?_)
      refine v_bipush (v := (-100)) dX2_fair_18 (by decide) rfl ?_
      exact v_iret dX2_fair_20 rfl ⟨Nat.le_of_ble_eq_true rfl, Nat.le_of_ble_eq_true rfl⟩ (⟨rfl, rfl⟩)
  · refine v_cvf dX2_fair_2 cw_X2_92 ⟨tn_X2_workAt, tl_X2_workAt⟩ rfl (by first | assumption | exact set_get (by assumption) | exact set_get (set_get (by assumption))) (c_workAt_no G hp hX q2) (by rfl) (by rfl) (Nat.le_of_ble_eq_true rfl) (Nat.le_of_ble_eq_true rfl) (Nat.le_of_ble_eq_true rfl) (Nat.le_of_ble_eq_true rfl) (Nat.le_of_ble_eq_true rfl) rfl ?_
    refine v_astore_nN dX2_fair_5 (Nat.le_of_ble_eq_true rfl) rfl ?_
    refine v_aload_nN dX2_fair_6 rfl rfl ?_
    refine v_ifnullN (tgt := 18) dX2_fair_7 (by decide) ?_
    refine v_bipush (v := (-100)) dX2_fair_18 (by decide) rfl ?_
    exact v_iret dX2_fair_20 rfl ⟨Nat.le_of_ble_eq_true rfl, Nat.le_of_ble_eq_true rfl⟩ (⟨rfl, rfl⟩)
theorem x_drift_y (hX : PX G s x hp) {m w : Nat} (hm : m < 3) (hw : w < 3) : Ct G mX2_drift 10 0 0 [.ref (G.2.2.2 + 0), .int (nI m), .int (nI w)] hp (QX G hp (dfI s m w) s) := by
  have h0 := hX.1
  have hz := pilL_le s m s.n
  refine Ct.start 2 (by decide) rfl (Nat.le_of_ble_eq_true rfl) ?_
  refine v_iload_n dX2_drift_0 rfl rfl ?_
  refine v_iconst (v := nI 3) dX2_drift_1 (by decide) rfl ?_
  refine v_csf dX2_drift_2 cw_X2_49 ts_X2_isBelow ((c_isBelow G hp (nI m) 3).yes (inR_nI hm (by decide))) (by rfl) (by rfl) (Nat.le_of_ble_eq_true rfl) (Nat.le_of_ble_eq_true rfl) (Nat.le_of_ble_eq_true rfl) (Nat.le_of_ble_eq_true rfl) (Nat.le_of_ble_eq_true rfl) rfl ?_
  refine v_if_eq (tgt := 16) dX2_drift_5 (by decide) rfl (fun q => absurd q (by decide)) (fun _ => ?_)
  refine v_iload_n dX2_drift_8 rfl rfl ?_
  refine v_iconst (v := nI 3) dX2_drift_9 (by decide) rfl ?_
  refine v_csf dX2_drift_10 cw_X2_49 ts_X2_isBelow ((c_isBelow G hp (nI w) 3).yes (inR_nI hw (by decide))) (by rfl) (by rfl) (Nat.le_of_ble_eq_true rfl) (Nat.le_of_ble_eq_true rfl) (Nat.le_of_ble_eq_true rfl) (Nat.le_of_ble_eq_true rfl) (Nat.le_of_ble_eq_true rfl) rfl ?_
  refine v_if_ne (tgt := 19) dX2_drift_13 (by decide) rfl (fun _ => ?_) (fun q => absurd q (by decide))
  refine v_aload_n dX2_drift_19 rfl rfl ?_
  refine v_iload_n dX2_drift_20 rfl rfl ?_
  refine v_cv dX2_drift_21 cw_X2_156 ⟨tn_X2_gatherPile, tl_X2_gatherPile⟩ rfl (by first | assumption | exact set_get (by assumption) | exact set_get (set_get (by assumption))) (c_gatherPile G hp hX hm) (by rfl) (by rfl) (Nat.le_of_ble_eq_true rfl) (Nat.le_of_ble_eq_true rfl) (Nat.le_of_ble_eq_true rfl) (Nat.le_of_ble_eq_true rfl) (Nat.le_of_ble_eq_true rfl) rfl ?_
  rintro r h ⟨rfl, p, rfl, hp0⟩
  have hX' := hX.setPl p
  refine v_istore_n dX2_drift_24 (Nat.le_of_ble_eq_true rfl) rfl ?_
  have k0 := hX'.1
  refine v_iload_n dX2_drift_25 rfl rfl ?_
  refine v_iconst (v := nI 2) dX2_drift_26 (by decide) rfl ?_
  refine v_icmp_neN (tgt := 32) dX2_drift_27 (by decide) rfl (by omega) (by omega) (fun c27 => ?_) (fun c27 => ?_)
  · refine v_aload_n dX2_drift_32 rfl rfl ?_
    refine v_iload_n dX2_drift_33 rfl rfl ?_
    refine v_cvf dX2_drift_34 cw_X2_159 ⟨tn_X2_driftOfPile, tl_X2_driftOfPile⟩ rfl (by first | assumption | exact set_get (by assumption) | exact set_get (set_get (by assumption))) (c_driftOfPile G _ hX' hz) (by rfl) (by rfl) (Nat.le_of_ble_eq_true rfl) (Nat.le_of_ble_eq_true rfl) (Nat.le_of_ble_eq_true rfl) (Nat.le_of_ble_eq_true rfl) (Nat.le_of_ble_eq_true rfl) rfl ?_
    refine v_istore dX2_drift_37 (Nat.le_of_ble_eq_true rfl) rfl ?_
    refine v_iload_n dX2_drift_39 rfl rfl ?_
    refine v_if_neN (tgt := 48) dX2_drift_40 (by decide) rfl (by omega) (fun c40 => ?_) (fun c40 => ?_)
    · refine v_aload_n dX2_drift_48 rfl rfl ?_
      refine v_iload_n dX2_drift_49 rfl rfl ?_
      refine v_iload dX2_drift_50 rfl rfl ?_
      refine v_cv dX2_drift_52 cw_X2_162 ⟨tn_X2_oddsOfPile, tl_X2_oddsOfPile⟩ rfl (by first | assumption | exact set_get (by assumption) | exact set_get (set_get (by assumption))) (c_oddsOfPile G _ hX' hz _) (by rfl) (by rfl) (Nat.le_of_ble_eq_true rfl) (Nat.le_of_ble_eq_true rfl) (Nat.le_of_ble_eq_true rfl) (Nat.le_of_ble_eq_true rfl) (Nat.le_of_ble_eq_true rfl) rfl ?_
      rintro r h ⟨rfl, u, rfl⟩
      exact v_iret dX2_drift_55 rfl ⟨Nat.le_of_ble_eq_true rfl, Nat.le_of_ble_eq_true rfl⟩ (⟨by rw [dfI, if_neg ‹_›, if_neg ‹_›]; exact congrArg (fun z => some (Value.int z)) ((coI_congr _ _ _ _ (fun v _ => unI_congr hp0 v)).trans (congrArg (coI _ _) (drI_congr _ hp0))), ⟨_, hX'.setUn u⟩, (FrX.rf.set (by omega)).set (by omega)⟩)
    · refine v_iload dX2_drift_43 rfl rfl ?_
      refine v_goto (tgt := 55) dX2_drift_45 (by decide) ?_
      exact v_iret dX2_drift_55 rfl ⟨Nat.le_of_ble_eq_true rfl, Nat.le_of_ble_eq_true rfl⟩ (⟨by rw [dfI, if_neg ‹_›, if_pos ‹_›]; exact congrArg (fun z => some (Value.int z)) (drI_congr _ hp0), ⟨_, hX'⟩, FrX.rf.set (by omega)⟩)
  · refine v_iload_n dX2_drift_30 rfl rfl ?_
    exact v_iret dX2_drift_31 rfl ⟨Nat.le_of_ble_eq_true rfl, Nat.le_of_ble_eq_true rfl⟩ (⟨by rw [dfI, if_pos ‹_›]; rfl, ⟨_, hX'⟩, FrX.rf.set (by omega)⟩)
theorem x_drift_n {y p : Int32} (h : ¬ (InR y 3 ∧ InR p 3)) : Ct G mX2_drift 10 0 0 [.ref (G.2.2.2 + 0), .int y, .int p] hp (Qf (some (.int (-100))) hp) := by
  refine Ct.start 2 (by decide) rfl (Nat.le_of_ble_eq_true rfl) ?_
  refine v_iload_n dX2_drift_0 rfl rfl ?_
  refine v_iconst (v := nI 3) dX2_drift_1 (by decide) rfl ?_
  by_cases q2 : InR y 3
  · refine v_csf dX2_drift_2 cw_X2_49 ts_X2_isBelow ((c_isBelow G hp y 3).yes ‹_›) (by rfl) (by rfl) (Nat.le_of_ble_eq_true rfl) (Nat.le_of_ble_eq_true rfl) (Nat.le_of_ble_eq_true rfl) (Nat.le_of_ble_eq_true rfl) (Nat.le_of_ble_eq_true rfl) rfl ?_
    refine v_if_eq (tgt := 16) dX2_drift_5 (by decide) rfl (fun q => absurd q (by decide)) (fun _ => ?_)
    refine v_iload_n dX2_drift_8 rfl rfl ?_
    refine v_iconst (v := nI 3) dX2_drift_9 (by decide) rfl ?_
    by_cases q10 : InR p 3
    · refine v_csf dX2_drift_10 cw_X2_49 ts_X2_isBelow ((c_isBelow G hp p 3).yes ‹_›) (by rfl) (by rfl) (Nat.le_of_ble_eq_true rfl) (Nat.le_of_ble_eq_true rfl) (Nat.le_of_ble_eq_true rfl) (Nat.le_of_ble_eq_true rfl) (Nat.le_of_ble_eq_true rfl) rfl ?_
      refine v_if_ne (tgt := 19) dX2_drift_13 (by decide) rfl (fun _ => ?_) (fun q => absurd q (by decide))
      exact absurd ⟨q2, q10⟩ h
    · refine v_csf dX2_drift_10 cw_X2_49 ts_X2_isBelow ((c_isBelow G hp p 3).no ‹_›) (by rfl) (by rfl) (Nat.le_of_ble_eq_true rfl) (Nat.le_of_ble_eq_true rfl) (Nat.le_of_ble_eq_true rfl) (Nat.le_of_ble_eq_true rfl) (Nat.le_of_ble_eq_true rfl) rfl ?_
      refine v_if_ne (tgt := 19) dX2_drift_13 (by decide) rfl (fun q => absurd (by decide) q) (fun _ => ?_)
      refine v_bipush (v := (-100)) dX2_drift_16 (by decide) rfl ?_
      exact v_iret dX2_drift_18 rfl ⟨Nat.le_of_ble_eq_true rfl, Nat.le_of_ble_eq_true rfl⟩ (⟨rfl, rfl⟩)
  · refine v_csf dX2_drift_2 cw_X2_49 ts_X2_isBelow ((c_isBelow G hp y 3).no ‹_›) (by rfl) (by rfl) (Nat.le_of_ble_eq_true rfl) (Nat.le_of_ble_eq_true rfl) (Nat.le_of_ble_eq_true rfl) (Nat.le_of_ble_eq_true rfl) (Nat.le_of_ble_eq_true rfl) rfl ?_
    refine v_if_eq (tgt := 16) dX2_drift_5 (by decide) rfl (fun _ => ?_) (fun q => absurd (by decide) q)
    refine v_bipush (v := (-100)) dX2_drift_16 (by decide) rfl ?_
    exact v_iret dX2_drift_18 rfl ⟨Nat.le_of_ble_eq_true rfl, Nat.le_of_ble_eq_true rfl⟩ (⟨rfl, rfl⟩)
theorem x_count_y (hX : PX G s x hp) {w : Nat} (hw : w < 5) : Ct G mX2_count 8 0 0 [.ref (G.2.2.2 + 0), .int (nI w)] hp (Qf (some (.int (ctI s w))) hp) := by
  have h0 := hX.1
  have h5 : w = 0 ∨ w = 1 ∨ w = 2 ∨ w = 3 ∨ w = 4 := by omega
  refine Ct.start 0 (by decide) rfl (Nat.le_of_ble_eq_true rfl) ?_
  rcases h5 with h5 | h5 | h5 | h5 | h5 <;> subst h5
  · refine v_iload_n dX2_count_0 rfl rfl ?_
    refine v_tableIn (off := 35) (tgt := 36) dX2_count_1 (by decide) (by decide) (by decide) (by decide) ?_
    refine v_aload_n dX2_count_36 rfl rfl ?_
    refine v_getf dX2_count_37 fl_X2_21 (by first | assumption | exact set_get (by assumption) | exact set_get (set_get (by assumption))) (by rfl) rfl ?_
    exact v_iret dX2_count_40 rfl ⟨Nat.le_of_ble_eq_true rfl, Nat.le_of_ble_eq_true rfl⟩ (⟨rfl, rfl⟩)
  · refine v_iload_n dX2_count_0 rfl rfl ?_
    refine v_tableIn (off := 40) (tgt := 41) dX2_count_1 (by decide) (by decide) (by decide) (by decide) ?_
    refine v_aload_n dX2_count_41 rfl rfl ?_
    refine v_cvf dX2_count_42 cw_X2_175 ⟨tn_X2_countAnchors, tl_X2_countAnchors⟩ rfl (by first | assumption | exact set_get (by assumption) | exact set_get (set_get (by assumption))) (c_countAnchors G hp hX) (by rfl) (by rfl) (Nat.le_of_ble_eq_true rfl) (Nat.le_of_ble_eq_true rfl) (Nat.le_of_ble_eq_true rfl) (Nat.le_of_ble_eq_true rfl) (Nat.le_of_ble_eq_true rfl) rfl ?_
    exact v_iret dX2_count_45 rfl ⟨Nat.le_of_ble_eq_true rfl, Nat.le_of_ble_eq_true rfl⟩ (⟨rfl, rfl⟩)
  · refine v_iload_n dX2_count_0 rfl rfl ?_
    refine v_tableIn (off := 45) (tgt := 46) dX2_count_1 (by decide) (by decide) (by decide) (by decide) ?_
    refine v_aload_n dX2_count_46 rfl rfl ?_
    refine v_cvf dX2_count_47 cw_X2_178 ⟨tn_X2_countMarks, tl_X2_countMarks⟩ rfl (by first | assumption | exact set_get (by assumption) | exact set_get (set_get (by assumption))) (c_countMarks G hp hX) (by rfl) (by rfl) (Nat.le_of_ble_eq_true rfl) (Nat.le_of_ble_eq_true rfl) (Nat.le_of_ble_eq_true rfl) (Nat.le_of_ble_eq_true rfl) (Nat.le_of_ble_eq_true rfl) rfl ?_
    exact v_iret dX2_count_50 rfl ⟨Nat.le_of_ble_eq_true rfl, Nat.le_of_ble_eq_true rfl⟩ (⟨rfl, rfl⟩)
  · refine v_iload_n dX2_count_0 rfl rfl ?_
    refine v_tableIn (off := 50) (tgt := 51) dX2_count_1 (by decide) (by decide) (by decide) (by decide) ?_
    refine v_aload_n dX2_count_51 rfl rfl ?_
    refine v_iconst (v := nI 0) dX2_count_52 (by decide) rfl ?_
    refine v_cvf dX2_count_53 cw_X2_181 ⟨tn_X2_countSensible, tl_X2_countSensible⟩ rfl (by first | assumption | exact set_get (by assumption) | exact set_get (set_get (by assumption))) (c_countSensible G hp hX (sh := 0) (by decide)) (by rfl) (by rfl) (Nat.le_of_ble_eq_true rfl) (Nat.le_of_ble_eq_true rfl) (Nat.le_of_ble_eq_true rfl) (Nat.le_of_ble_eq_true rfl) (Nat.le_of_ble_eq_true rfl) rfl ?_
    exact v_iret dX2_count_56 rfl ⟨Nat.le_of_ble_eq_true rfl, Nat.le_of_ble_eq_true rfl⟩ (⟨rfl, rfl⟩)
  · refine v_iload_n dX2_count_0 rfl rfl ?_
    refine v_tableIn (off := 56) (tgt := 57) dX2_count_1 (by decide) (by decide) (by decide) (by decide) ?_
    refine v_aload_n dX2_count_57 rfl rfl ?_
    refine v_iconst (v := nI 1) dX2_count_58 (by decide) rfl ?_
    refine v_cvf dX2_count_59 cw_X2_181 ⟨tn_X2_countSensible, tl_X2_countSensible⟩ rfl (by first | assumption | exact set_get (by assumption) | exact set_get (set_get (by assumption))) (c_countSensible G hp hX (sh := 1) (by decide)) (by rfl) (by rfl) (Nat.le_of_ble_eq_true rfl) (Nat.le_of_ble_eq_true rfl) (Nat.le_of_ble_eq_true rfl) (Nat.le_of_ble_eq_true rfl) (Nat.le_of_ble_eq_true rfl) rfl ?_
    exact v_iret dX2_count_62 rfl ⟨Nat.le_of_ble_eq_true rfl, Nat.le_of_ble_eq_true rfl⟩ (⟨rfl, rfl⟩)
theorem out_of {y : Int32} {n : Nat} (hn : n + 1 < 2 ^ 31) (h : ¬ InR y (n + 1)) : y.toInt < 0 ∨ (n : Int) < y.toInt := by
  by_cases h0 : 0 ≤ y
  · have h1 : nI (n + 1) ≤ y := Classical.byContradiction (fun q => h ⟨h0, q⟩)
    have h2 := Int32.le_iff_toInt_le.mp h1
    rw [nI_toInt hn] at h2
    exact Or.inr (by omega)
  · have h2 := Int32.lt_iff_toInt_lt.mp (Int32.not_le.mp h0)
    exact Or.inl h2
theorem x_count_n {y : Int32} (h : ¬ InR y 5) : Ct G mX2_count 8 0 0 [.ref (G.2.2.2 + 0), .int y] hp (Qf (some (.int (-100))) hp) := by
  refine Ct.start 0 (by decide) rfl (Nat.le_of_ble_eq_true rfl) ?_
  refine v_iload_n dX2_count_0 rfl rfl ?_
  refine v_tableOut (tgt := 63) dX2_count_1 (out_of (by decide) h) (by decide) ?_
  refine v_bipush (v := (-100)) dX2_count_63 (by decide) rfl ?_
  exact v_iret dX2_count_65 rfl ⟨Nat.le_of_ble_eq_true rfl, Nat.le_of_ble_eq_true rfl⟩ (⟨rfl, rfl⟩)
theorem x_trace (hX : PX G s x hp) : Ct G mX2_trace 0 0 0 [.ref (G.2.2.2 + 0)] hp (Qf (some (.long s.tc)) hp) := by
  have h0 := hX.1
  refine Ct.start 0 (by decide) rfl (Nat.le_of_ble_eq_true rfl) ?_
  refine v_aload_n dX2_trace_0 rfl rfl ?_
  refine v_getf dX2_trace_1 fl_X2_25 (by first | assumption | exact set_get (by assumption) | exact set_get (set_get (by assumption))) (by rfl) rfl ?_
  exact v_lret dX2_trace_4 rfl ⟨Nat.le_of_ble_eq_true rfl, Nat.le_of_ble_eq_true rfl⟩ (⟨rfl, rfl⟩)
end FACE2

