-- LOOK: by first | assumption | exact set_get (by assumption) | exact set_get (set_get (by assumption))
/-! THE CLASS'S FACE: sheets -/
abbrev QX (G : GG) (hp : List va_E) (r0 : Int32) (s : ST) : QQ := fun r h => r = some (.int r0) ∧ (∃ x, PX G s x h) ∧ FrX hp h
theorem inR2 {y z : Int32} {m n : Nat} (hm : m < 2 ^ 31) (hn : n < 2 ^ 31) (h : InR y m ∧ InR z n) : (∃ a, a < m ∧ y = nI a) ∧ ∃ b, b < n ∧ z = nI b := ⟨inR_of hm h.1, inR_of hn h.2⟩
def setLine (s : ST) (j : Nat) (k c w : Int32) : ST := (upd s.1 j k, upd s.2.1 j c, upd s.2.2.1 j w, s.2.2.2)
def updF (f : Nat → Nat → Int32) (j : Nat) (g : Nat → Int32) : Nat → Nat → Int32 := fun i => if i = j then g else f i
def setSpan (s : ST) (j k : Nat) (a b : Int32) : ST := (s.1, s.2.1, s.2.2.1, updF s.2.2.2.1 j (upd (s.2.2.2.1 j) k a), updF s.2.2.2.2.1 j (upd (s.2.2.2.2.1 j) k b), s.2.2.2.2.2)
def setTc (s : ST) (v : Int64) : ST := (s.1, s.2.1, s.2.2.1, s.2.2.2.1, s.2.2.2.2.1, s.2.2.2.2.2.1, s.2.2.2.2.2.2.1, s.2.2.2.2.2.2.2.1, s.2.2.2.2.2.2.2.2.1, v)
theorem upd_s (f : Nat → Int32) (j : Nat) (v : Int32) : upd f j v j = v := if_pos rfl
theorem upd_n {f : Nat → Int32} {i j : Nat} {v : Int32} (h : i ≠ j) : upd f j v i = f i := if_neg h
theorem updF_s (f : Nat → Nat → Int32) (j : Nat) (g : Nat → Int32) : updF f j g j = g := if_pos rfl
theorem updF_n {f : Nat → Nat → Int32} {i j : Nat} {g : Nat → Int32} (h : i ≠ j) : updF f j g i = f i := if_neg h
section PXL
variable {G : GG} {hp : List va_E} {s : ST} {x : XT}
theorem PX.setLine (hX : PX G s x hp) {j : Nat} (hj : j < 8) (k c w : Int32) : PX G (setLine s j k c w) x (hp.set (la x.1 j) (ob 0 [.int k, .int c, .int w, .ref (G.2.2.2 + (la x.1 j + 1)), .ref (G.2.2.2 + (la x.1 j + 2))])) := by
  obtain ⟨h0, h1, hgl, h2, hgw, h3, h4, h5, h6, hln, hwk, hn, hlen⟩ := hX
  have hla := la_in x.1 hj
  refine ⟨(set_ne (by omega)).trans h0, (set_ne (by omega)).trans h1, hgl, (set_ne (by omega)).trans h2, hgw, (set_ne (by omega)).trans h3, (set_ne (by omega)).trans h4, (set_ne (by omega)).trans h5, (set_ne (by omega)).trans h6, fun i hi => ?_, fun w hw => (hwk w hw).frame (fun i q1 q2 => set_ne (by omega)), hn, by rw [List.length_set]; exact hlen⟩
  by_cases e : i = j
  · subst e
    obtain ⟨l1, l2, l3⟩ := hln i hi
    show LN G _ _ (upd s.kd i k i) (upd s.fc i c i) (upd s.wt i w i) (s.fr i) (s.to i)
    rw [upd_s, upd_s, upd_s]
    exact ⟨set_get l1, (set_ne (by omega)).trans l2, (set_ne (by omega)).trans l3⟩
  · show LN G _ _ (upd s.kd j k i) (upd s.fc j c i) (upd s.wt j w i) (s.fr i) (s.to i)
    rw [upd_n e, upd_n e, upd_n e]
    exact (hln i hi).frame (fun q q1 q2 => set_ne (by have := la_apart x.1 hi hj e; omega))
theorem PX.setSpan (hX : PX G s x hp) {j : Nat} (hj : j < 8) (k : Nat) (a b : Int32) : PX G (setSpan s j k a b) x ((hp.set (la x.1 j + 1) (aI G 4 (upd (s.fr j) k a))).set (la x.1 j + 2) (aI G 4 (upd (s.to j) k b))) := by
  obtain ⟨h0, h1, hgl, h2, hgw, h3, h4, h5, h6, hln, hwk, hn, hlen⟩ := hX
  have hla := la_in x.1 hj
  have hne : ∀ i, i ≠ la x.1 j + 1 → i ≠ la x.1 j + 2 → ((hp.set (la x.1 j + 1) (aI G 4 (upd (s.fr j) k a))).set (la x.1 j + 2) (aI G 4 (upd (s.to j) k b)))[i]? = hp[i]? := fun i q1 q2 => (set_ne q2).trans (set_ne q1)
  refine ⟨(hne _ (by omega) (by omega)).trans h0, (hne _ (by omega) (by omega)).trans h1, hgl, (hne _ (by omega) (by omega)).trans h2, hgw, (hne _ (by omega) (by omega)).trans h3, (hne _ (by omega) (by omega)).trans h4, (hne _ (by omega) (by omega)).trans h5, (hne _ (by omega) (by omega)).trans h6, fun i hi => ?_, fun w hw => (hwk w hw).frame (fun i q1 q2 => hne _ (by omega) (by omega)), hn, by rw [List.length_set, List.length_set]; exact hlen⟩
  by_cases e : i = j
  · subst e
    obtain ⟨l1, l2, l3⟩ := hln i hi
    show LN G _ _ (s.kd i) (s.fc i) (s.wt i) (updF s.fr i (upd (s.fr i) k a) i) (updF s.to i (upd (s.to i) k b) i)
    rw [updF_s, updF_s]
    exact ⟨(hne _ (by omega) (by omega)).trans l1, (set_ne (by omega)).trans (set_get l2), set_get ((set_ne (by omega)).trans l3)⟩
  · show LN G _ _ (s.kd i) (s.fc i) (s.wt i) (updF s.fr j (upd (s.fr j) k a) i) (updF s.to j (upd (s.to j) k b) i)
    rw [updF_n e, updF_n e]
    exact (hln i hi).frame (fun q q1 q2 => hne _ (by have := la_apart x.1 hi hj e; omega) (by have := la_apart x.1 hi hj e; omega))
theorem PX.setTc (hX : PX G s x hp) (v : Int64) : PX G (setTc s v) x (hp.set 0 (ob 2 [.ref (G.2.2.2 + 1), .ref (G.2.2.2 + 2), .int (nI s.n), .long v, .ref (G.2.2.2 + 3), .ref (G.2.2.2 + 4), .ref (G.2.2.2 + 5), .ref (G.2.2.2 + 6)])) := by
  obtain ⟨h0, h1, hgl, h2, hgw, h3, h4, h5, h6, hln, hwk, hn, hlen⟩ := hX
  exact ⟨set_get h0, (set_ne (by decide)).trans h1, hgl, (set_ne (by decide)).trans h2, hgw, (set_ne (by decide)).trans h3, (set_ne (by decide)).trans h4, (set_ne (by decide)).trans h5, (set_ne (by decide)).trans h6, fun j hj => (hln j hj).frame (fun i q1 q2 => set_ne (by have := la_in x.1 hj; omega)), fun w hw => (hwk w hw).frame (fun i q1 q2 => set_ne (by omega)), hn, by rw [List.length_set]; exact hlen⟩
end PXL
section FACE1
variable (G : GG) (hp : List va_E) {s : ST} {x : XT}
theorem x_line_y (hX : PX G s x hp) {a b : Nat} (ha : a < 2) (hb : b < 4) {k c w : Int32} (hk : InR k 3) (hc : InR c 4) (hw : InR w 10) : Ct G mX2_line 2 0 0 [.ref (G.2.2.2 + 0), .int (nI a), .int (nI b), .int k, .int c, .int w] hp (QX G hp (nI 1) (setLine s (a * 4 + b) k c w)) := by
  have h0 := hX.1
  have hj : a * 4 + b < 8 := by omega
  obtain ⟨l1, l2, l3⟩ := hX.2.2.2.2.2.2.2.2.2.1 (a * 4 + b) hj
  have hla := la_in x.1 hj
  refine Ct.start 1 (by decide) rfl (Nat.le_of_ble_eq_true rfl) ?_
  refine v_aload_n dX2_line_0 rfl rfl ?_
  refine v_iload_n dX2_line_1 rfl rfl ?_
  refine v_iload_n dX2_line_2 rfl rfl ?_
  refine v_cvf dX2_line_3 cw_X2_45 ⟨tn_X2_lineAt, tl_X2_lineAt⟩ rfl (by first | assumption | exact set_get (by assumption) | exact set_get (set_get (by assumption))) (c_lineAt G hp hX ha hb) (by rfl) (by rfl) (Nat.le_of_ble_eq_true rfl) (Nat.le_of_ble_eq_true rfl) (Nat.le_of_ble_eq_true rfl) (Nat.le_of_ble_eq_true rfl) (Nat.le_of_ble_eq_true rfl) rfl ?_
  refine v_astore dX2_line_6 (Nat.le_of_ble_eq_true rfl) rfl ?_
  refine v_aload dX2_line_8 rfl rfl ?_
  refine v_ifnull dX2_line_10 rfl ?_
  refine v_iload_n dX2_line_13 rfl rfl ?_
  refine v_iconst (v := nI 3) dX2_line_14 (by decide) rfl ?_
  refine v_csf dX2_line_15 cw_X2_49 ts_X2_isBelow ((c_isBelow G hp k 3).yes hk) (by rfl) (by rfl) (Nat.le_of_ble_eq_true rfl) (Nat.le_of_ble_eq_true rfl) (Nat.le_of_ble_eq_true rfl) (Nat.le_of_ble_eq_true rfl) (Nat.le_of_ble_eq_true rfl) rfl ?_
  refine v_if_eq (tgt := 40) dX2_line_18 (by decide) rfl (fun q => absurd q (by decide)) (fun _ => ?_)
  refine v_iload dX2_line_21 rfl rfl ?_
  refine v_iconst (v := nI 4) dX2_line_23 (by decide) rfl ?_
  refine v_csf dX2_line_24 cw_X2_49 ts_X2_isBelow ((c_isBelow G hp c 4).yes hc) (by rfl) (by rfl) (Nat.le_of_ble_eq_true rfl) (Nat.le_of_ble_eq_true rfl) (Nat.le_of_ble_eq_true rfl) (Nat.le_of_ble_eq_true rfl) (Nat.le_of_ble_eq_true rfl) rfl ?_
  refine v_if_eq (tgt := 40) dX2_line_27 (by decide) rfl (fun q => absurd q (by decide)) (fun _ => ?_)
  refine v_iload dX2_line_30 rfl rfl ?_
  refine v_bipush (v := nI 9) dX2_line_32 (by decide) rfl ?_
  refine v_csf dX2_line_34 cw_X2_53 ts_X2_isUpTo ((c_isUpTo G hp w 9 (by decide)).yes hw) (by rfl) (by rfl) (Nat.le_of_ble_eq_true rfl) (Nat.le_of_ble_eq_true rfl) (Nat.le_of_ble_eq_true rfl) (Nat.le_of_ble_eq_true rfl) (Nat.le_of_ble_eq_true rfl) rfl ?_
  refine v_if_ne (tgt := 43) dX2_line_37 (by decide) rfl (fun _ => ?_) (fun q => absurd q (by decide))
  refine v_aload dX2_line_43 rfl rfl ?_
  refine v_iload_n dX2_line_45 rfl rfl ?_
  refine v_putf dX2_line_46 fl_X2_56 (by first | assumption | exact set_get (by assumption) | exact set_get (set_get (by assumption))) (by rfl) (by rfl) (by exact Nat.le_of_ble_eq_true rfl) rfl ?_
  refine v_aload dX2_line_49 rfl rfl ?_
  refine v_iload dX2_line_51 rfl rfl ?_
  refine v_putf dX2_line_53 fl_X2_59 (by first | assumption | exact set_get (by assumption) | exact set_get (set_get (by assumption))) (by rfl) (by rfl) (by exact Nat.le_of_ble_eq_true rfl) rfl ?_
  refine v_aload dX2_line_56 rfl rfl ?_
  refine v_iload dX2_line_58 rfl rfl ?_
  refine v_putf dX2_line_60 fl_X2_62 (by first | assumption | exact set_get (by assumption) | exact set_get (set_get (by assumption))) (by rfl) (by rfl) (by exact Nat.le_of_ble_eq_true rfl) rfl ?_
  refine v_iconst (v := nI 1) dX2_line_63 (by decide) rfl ?_
  exact v_iret dX2_line_64 rfl ⟨Nat.le_of_ble_eq_true rfl, Nat.le_of_ble_eq_true rfl⟩ (⟨rfl, ⟨x, by rw [List.set_set, List.set_set]; exact hX.setLine hj k c w⟩, ((FrX.rf.set (by omega)).set (by omega)).set (by omega)⟩)
theorem x_line_n (hX : PX G s x hp) {y z k c w : Int32} (h : ¬ ((InR y 2 ∧ InR z 4) ∧ InR k 3 ∧ InR c 4 ∧ InR w 10)) : Ct G mX2_line 2 0 0 [.ref (G.2.2.2 + 0), .int y, .int z, .int k, .int c, .int w] hp (Qf (some (.int (-100))) hp) := by
  have h0 := hX.1
  refine Ct.start 1 (by decide) rfl (Nat.le_of_ble_eq_true rfl) ?_
  refine v_aload_n dX2_line_0 rfl rfl ?_
  refine v_iload_n dX2_line_1 rfl rfl ?_
  refine v_iload_n dX2_line_2 rfl rfl ?_
  by_cases q3 : InR y 2 ∧ InR z 4
  · obtain ⟨⟨a, ha, rfl⟩, ⟨b, hb, rfl⟩⟩ := inR2 (by decide) (by decide) q3
    refine v_cvf dX2_line_3 cw_X2_45 ⟨tn_X2_lineAt, tl_X2_lineAt⟩ rfl (by first | assumption | exact set_get (by assumption) | exact set_get (set_get (by assumption))) (c_lineAt G hp hX ha hb) (by rfl) (by rfl) (Nat.le_of_ble_eq_true rfl) (Nat.le_of_ble_eq_true rfl) (Nat.le_of_ble_eq_true rfl) (Nat.le_of_ble_eq_true rfl) (Nat.le_of_ble_eq_true rfl) rfl ?_
    refine v_astore dX2_line_6 (Nat.le_of_ble_eq_true rfl) rfl ?_
    refine v_aload dX2_line_8 rfl rfl ?_
    refine v_ifnull dX2_line_10 rfl ?_
    refine v_iload_n dX2_line_13 rfl rfl ?_
    refine v_iconst (v := nI 3) dX2_line_14 (by decide) rfl ?_
    by_cases q15 : InR k 3
    · refine v_csf dX2_line_15 cw_X2_49 ts_X2_isBelow ((c_isBelow G hp k 3).yes ‹_›) (by rfl) (by rfl) (Nat.le_of_ble_eq_true rfl) (Nat.le_of_ble_eq_true rfl) (Nat.le_of_ble_eq_true rfl) (Nat.le_of_ble_eq_true rfl) (Nat.le_of_ble_eq_true rfl) rfl ?_
      refine v_if_eq (tgt := 40) dX2_line_18 (by decide) rfl (fun q => absurd q (by decide)) (fun _ => ?_)
      refine v_iload dX2_line_21 rfl rfl ?_
      refine v_iconst (v := nI 4) dX2_line_23 (by decide) rfl ?_
      by_cases q24 : InR c 4
      · refine v_csf dX2_line_24 cw_X2_49 ts_X2_isBelow ((c_isBelow G hp c 4).yes ‹_›) (by rfl) (by rfl) (Nat.le_of_ble_eq_true rfl) (Nat.le_of_ble_eq_true rfl) (Nat.le_of_ble_eq_true rfl) (Nat.le_of_ble_eq_true rfl) (Nat.le_of_ble_eq_true rfl) rfl ?_
        refine v_if_eq (tgt := 40) dX2_line_27 (by decide) rfl (fun q => absurd q (by decide)) (fun _ => ?_)
        refine v_iload dX2_line_30 rfl rfl ?_
        refine v_bipush (v := nI 9) dX2_line_32 (by decide) rfl ?_
        by_cases q34 : InR w 10
        · refine v_csf dX2_line_34 cw_X2_53 ts_X2_isUpTo ((c_isUpTo G hp w 9 (by decide)).yes ‹_›) (by rfl) (by rfl) (Nat.le_of_ble_eq_true rfl) (Nat.le_of_ble_eq_true rfl) (Nat.le_of_ble_eq_true rfl) (Nat.le_of_ble_eq_true rfl) (Nat.le_of_ble_eq_true rfl) rfl ?_
          refine v_if_ne (tgt := 43) dX2_line_37 (by decide) rfl (fun _ => ?_) (fun q => absurd q (by decide))
          exact absurd ⟨q3, q15, q24, q34⟩ h
        · refine v_csf dX2_line_34 cw_X2_53 ts_X2_isUpTo ((c_isUpTo G hp w 9 (by decide)).no ‹_›) (by rfl) (by rfl) (Nat.le_of_ble_eq_true rfl) (Nat.le_of_ble_eq_true rfl) (Nat.le_of_ble_eq_true rfl) (Nat.le_of_ble_eq_true rfl) (Nat.le_of_ble_eq_true rfl) rfl ?_
          refine v_if_ne (tgt := 43) dX2_line_37 (by decide) rfl (fun q => absurd (by decide) q) (fun _ => ?_)
          refine v_bipush (v := (-100)) dX2_line_40 (by decide) rfl ?_
          exact v_iret dX2_line_42 rfl ⟨Nat.le_of_ble_eq_true rfl, Nat.le_of_ble_eq_true rfl⟩ (⟨rfl, rfl⟩)
      · refine v_csf dX2_line_24 cw_X2_49 ts_X2_isBelow ((c_isBelow G hp c 4).no ‹_›) (by rfl) (by rfl) (Nat.le_of_ble_eq_true rfl) (Nat.le_of_ble_eq_true rfl) (Nat.le_of_ble_eq_true rfl) (Nat.le_of_ble_eq_true rfl) (Nat.le_of_ble_eq_true rfl) rfl ?_
        refine v_if_eq (tgt := 40) dX2_line_27 (by decide) rfl (fun _ => ?_) (fun q => absurd (by decide) q)
        refine v_bipush (v := (-100)) dX2_line_40 (by decide) rfl ?_
        exact v_iret dX2_line_42 rfl ⟨Nat.le_of_ble_eq_true rfl, Nat.le_of_ble_eq_true rfl⟩ (⟨rfl, rfl⟩)
    · refine v_csf dX2_line_15 cw_X2_49 ts_X2_isBelow ((c_isBelow G hp k 3).no ‹_›) (by rfl) (by rfl) (Nat.le_of_ble_eq_true rfl) (Nat.le_of_ble_eq_true rfl) (Nat.le_of_ble_eq_true rfl) (Nat.le_of_ble_eq_true rfl) (Nat.le_of_ble_eq_true rfl) rfl ?_
      refine v_if_eq (tgt := 40) dX2_line_18 (by decide) rfl (fun _ => ?_) (fun q => absurd (by decide) q)
      refine v_bipush (v := (-100)) dX2_line_40 (by decide) rfl ?_
      exact v_iret dX2_line_42 rfl ⟨Nat.le_of_ble_eq_true rfl, Nat.le_of_ble_eq_true rfl⟩ (⟨rfl, rfl⟩)
  · refine v_cvf dX2_line_3 cw_X2_45 ⟨tn_X2_lineAt, tl_X2_lineAt⟩ rfl (by first | assumption | exact set_get (by assumption) | exact set_get (set_get (by assumption))) (c_lineAt_no G hp q3) (by rfl) (by rfl) (Nat.le_of_ble_eq_true rfl) (Nat.le_of_ble_eq_true rfl) (Nat.le_of_ble_eq_true rfl) (Nat.le_of_ble_eq_true rfl) (Nat.le_of_ble_eq_true rfl) rfl ?_
    refine v_astoreN dX2_line_6 (Nat.le_of_ble_eq_true rfl) rfl ?_
    refine v_aloadN dX2_line_8 rfl rfl ?_
    refine v_ifnullN (tgt := 40) dX2_line_10 (by decide) ?_
    refine v_bipush (v := (-100)) dX2_line_40 (by decide) rfl ?_
    exact v_iret dX2_line_42 rfl ⟨Nat.le_of_ble_eq_true rfl, Nat.le_of_ble_eq_true rfl⟩ (⟨rfl, rfl⟩)
theorem x_span_y (hX : PX G s x hp) {a b k : Nat} (ha : a < 2) (hb : b < 4) (hk : k < 4) {c w : Int32} (hc : InR c 10) (hw : InR w 10) : Ct G mX2_span 2 0 0 [.ref (G.2.2.2 + 0), .int (nI a), .int (nI b), .int (nI k), .int c, .int w] hp (QX G hp (nI 1) (setSpan s (a * 4 + b) k c w)) := by
  have h0 := hX.1
  have hj : a * 4 + b < 8 := by omega
  obtain ⟨l1, l2, l3⟩ := hX.2.2.2.2.2.2.2.2.2.1 (a * 4 + b) hj
  have hla := la_in x.1 hj
  refine Ct.start 1 (by decide) rfl (Nat.le_of_ble_eq_true rfl) ?_
  refine v_aload_n dX2_span_0 rfl rfl ?_
  refine v_iload_n dX2_span_1 rfl rfl ?_
  refine v_iload_n dX2_span_2 rfl rfl ?_
  refine v_cvf dX2_span_3 cw_X2_45 ⟨tn_X2_lineAt, tl_X2_lineAt⟩ rfl (by first | assumption | exact set_get (by assumption) | exact set_get (set_get (by assumption))) (c_lineAt G hp hX ha hb) (by rfl) (by rfl) (Nat.le_of_ble_eq_true rfl) (Nat.le_of_ble_eq_true rfl) (Nat.le_of_ble_eq_true rfl) (Nat.le_of_ble_eq_true rfl) (Nat.le_of_ble_eq_true rfl) rfl ?_
  refine v_astore dX2_span_6 (Nat.le_of_ble_eq_true rfl) rfl ?_
  refine v_aload dX2_span_8 rfl rfl ?_
  refine v_ifnull dX2_span_10 rfl ?_
  refine v_iload_n dX2_span_13 rfl rfl ?_
  refine v_iconst (v := nI 4) dX2_span_14 (by decide) rfl ?_
  refine v_csf dX2_span_15 cw_X2_49 ts_X2_isBelow ((c_isBelow G hp (nI k) 4).yes (inR_nI hk (by decide))) (by rfl) (by rfl) (Nat.le_of_ble_eq_true rfl) (Nat.le_of_ble_eq_true rfl) (Nat.le_of_ble_eq_true rfl) (Nat.le_of_ble_eq_true rfl) (Nat.le_of_ble_eq_true rfl) rfl ?_
  refine v_if_eq (tgt := 41) dX2_span_18 (by decide) rfl (fun q => absurd q (by decide)) (fun _ => ?_)
  refine v_iload dX2_span_21 rfl rfl ?_
  refine v_bipush (v := nI 9) dX2_span_23 (by decide) rfl ?_
  refine v_csf dX2_span_25 cw_X2_53 ts_X2_isUpTo ((c_isUpTo G hp c 9 (by decide)).yes hc) (by rfl) (by rfl) (Nat.le_of_ble_eq_true rfl) (Nat.le_of_ble_eq_true rfl) (Nat.le_of_ble_eq_true rfl) (Nat.le_of_ble_eq_true rfl) (Nat.le_of_ble_eq_true rfl) rfl ?_
  refine v_if_eq (tgt := 41) dX2_span_28 (by decide) rfl (fun q => absurd q (by decide)) (fun _ => ?_)
  refine v_iload dX2_span_31 rfl rfl ?_
  refine v_bipush (v := nI 9) dX2_span_33 (by decide) rfl ?_
  refine v_csf dX2_span_35 cw_X2_53 ts_X2_isUpTo ((c_isUpTo G hp w 9 (by decide)).yes hw) (by rfl) (by rfl) (Nat.le_of_ble_eq_true rfl) (Nat.le_of_ble_eq_true rfl) (Nat.le_of_ble_eq_true rfl) (Nat.le_of_ble_eq_true rfl) (Nat.le_of_ble_eq_true rfl) rfl ?_
  refine v_if_ne (tgt := 44) dX2_span_38 (by decide) rfl (fun _ => ?_) (fun q => absurd q (by decide))
  refine v_aload dX2_span_44 rfl rfl ?_
  refine v_getf dX2_span_46 fl_X2_65 (by first | assumption | exact set_get (by assumption) | exact set_get (set_get (by assumption))) (by rfl) rfl ?_
  refine v_iload_n dX2_span_49 rfl rfl ?_
  refine v_iload dX2_span_50 rfl rfl ?_
  refine v_iast _ dX2_span_52 (by first | assumption | exact set_get (by assumption) | exact set_get (set_get (by assumption))) rfl (by omega) (by decide) rfl ?_
  refine v_aload dX2_span_53 rfl rfl ?_
  refine v_getf dX2_span_55 fl_X2_68 ((set_ne (by omega)).trans l1) (by rfl) rfl ?_
  refine v_iload_n dX2_span_58 rfl rfl ?_
  refine v_iload dX2_span_59 rfl rfl ?_
  refine v_iast _ dX2_span_61 ((set_ne (by omega)).trans l3) rfl (by omega) (by decide) rfl ?_
  refine v_iconst (v := nI 1) dX2_span_62 (by decide) rfl ?_
  exact v_iret dX2_span_63 rfl ⟨Nat.le_of_ble_eq_true rfl, Nat.le_of_ble_eq_true rfl⟩ (⟨rfl, ⟨x, hX.setSpan hj k c w⟩, (FrX.rf.set (by omega)).set (by omega)⟩)
theorem x_span_n (hX : PX G s x hp) {y z k c w : Int32} (h : ¬ ((InR y 2 ∧ InR z 4) ∧ InR k 4 ∧ InR c 10 ∧ InR w 10)) : Ct G mX2_span 2 0 0 [.ref (G.2.2.2 + 0), .int y, .int z, .int k, .int c, .int w] hp (Qf (some (.int (-100))) hp) := by
  have h0 := hX.1
  refine Ct.start 1 (by decide) rfl (Nat.le_of_ble_eq_true rfl) ?_
  refine v_aload_n dX2_span_0 rfl rfl ?_
  refine v_iload_n dX2_span_1 rfl rfl ?_
  refine v_iload_n dX2_span_2 rfl rfl ?_
  by_cases q3 : InR y 2 ∧ InR z 4
  · obtain ⟨⟨a, ha, rfl⟩, ⟨b, hb, rfl⟩⟩ := inR2 (by decide) (by decide) q3
    refine v_cvf dX2_span_3 cw_X2_45 ⟨tn_X2_lineAt, tl_X2_lineAt⟩ rfl (by first | assumption | exact set_get (by assumption) | exact set_get (set_get (by assumption))) (c_lineAt G hp hX ha hb) (by rfl) (by rfl) (Nat.le_of_ble_eq_true rfl) (Nat.le_of_ble_eq_true rfl) (Nat.le_of_ble_eq_true rfl) (Nat.le_of_ble_eq_true rfl) (Nat.le_of_ble_eq_true rfl) rfl ?_
    refine v_astore dX2_span_6 (Nat.le_of_ble_eq_true rfl) rfl ?_
    refine v_aload dX2_span_8 rfl rfl ?_
    refine v_ifnull dX2_span_10 rfl ?_
    refine v_iload_n dX2_span_13 rfl rfl ?_
    refine v_iconst (v := nI 4) dX2_span_14 (by decide) rfl ?_
    by_cases q15 : InR k 4
    · refine v_csf dX2_span_15 cw_X2_49 ts_X2_isBelow ((c_isBelow G hp k 4).yes ‹_›) (by rfl) (by rfl) (Nat.le_of_ble_eq_true rfl) (Nat.le_of_ble_eq_true rfl) (Nat.le_of_ble_eq_true rfl) (Nat.le_of_ble_eq_true rfl) (Nat.le_of_ble_eq_true rfl) rfl ?_
      refine v_if_eq (tgt := 41) dX2_span_18 (by decide) rfl (fun q => absurd q (by decide)) (fun _ => ?_)
      refine v_iload dX2_span_21 rfl rfl ?_
      refine v_bipush (v := nI 9) dX2_span_23 (by decide) rfl ?_
      by_cases q25 : InR c 10
      · refine v_csf dX2_span_25 cw_X2_53 ts_X2_isUpTo ((c_isUpTo G hp c 9 (by decide)).yes ‹_›) (by rfl) (by rfl) (Nat.le_of_ble_eq_true rfl) (Nat.le_of_ble_eq_true rfl) (Nat.le_of_ble_eq_true rfl) (Nat.le_of_ble_eq_true rfl) (Nat.le_of_ble_eq_true rfl) rfl ?_
        refine v_if_eq (tgt := 41) dX2_span_28 (by decide) rfl (fun q => absurd q (by decide)) (fun _ => ?_)
        refine v_iload dX2_span_31 rfl rfl ?_
        refine v_bipush (v := nI 9) dX2_span_33 (by decide) rfl ?_
        by_cases q35 : InR w 10
        · refine v_csf dX2_span_35 cw_X2_53 ts_X2_isUpTo ((c_isUpTo G hp w 9 (by decide)).yes ‹_›) (by rfl) (by rfl) (Nat.le_of_ble_eq_true rfl) (Nat.le_of_ble_eq_true rfl) (Nat.le_of_ble_eq_true rfl) (Nat.le_of_ble_eq_true rfl) (Nat.le_of_ble_eq_true rfl) rfl ?_
          refine v_if_ne (tgt := 44) dX2_span_38 (by decide) rfl (fun _ => ?_) (fun q => absurd q (by decide))
          exact absurd ⟨q3, q15, q25, q35⟩ h
        · refine v_csf dX2_span_35 cw_X2_53 ts_X2_isUpTo ((c_isUpTo G hp w 9 (by decide)).no ‹_›) (by rfl) (by rfl) (Nat.le_of_ble_eq_true rfl) (Nat.le_of_ble_eq_true rfl) (Nat.le_of_ble_eq_true rfl) (Nat.le_of_ble_eq_true rfl) (Nat.le_of_ble_eq_true rfl) rfl ?_
          refine v_if_ne (tgt := 44) dX2_span_38 (by decide) rfl (fun q => absurd (by decide) q) (fun _ => ?_)
          refine v_bipush (v := (-100)) dX2_span_41 (by decide) rfl ?_
          exact v_iret dX2_span_43 rfl ⟨Nat.le_of_ble_eq_true rfl, Nat.le_of_ble_eq_true rfl⟩ (⟨rfl, rfl⟩)
      · refine v_csf dX2_span_25 cw_X2_53 ts_X2_isUpTo ((c_isUpTo G hp c 9 (by decide)).no ‹_›) (by rfl) (by rfl) (Nat.le_of_ble_eq_true rfl) (Nat.le_of_ble_eq_true rfl) (Nat.le_of_ble_eq_true rfl) (Nat.le_of_ble_eq_true rfl) (Nat.le_of_ble_eq_true rfl) rfl ?_
        refine v_if_eq (tgt := 41) dX2_span_28 (by decide) rfl (fun _ => ?_) (fun q => absurd (by decide) q)
        refine v_bipush (v := (-100)) dX2_span_41 (by decide) rfl ?_
        exact v_iret dX2_span_43 rfl ⟨Nat.le_of_ble_eq_true rfl, Nat.le_of_ble_eq_true rfl⟩ (⟨rfl, rfl⟩)
    · refine v_csf dX2_span_15 cw_X2_49 ts_X2_isBelow ((c_isBelow G hp k 4).no ‹_›) (by rfl) (by rfl) (Nat.le_of_ble_eq_true rfl) (Nat.le_of_ble_eq_true rfl) (Nat.le_of_ble_eq_true rfl) (Nat.le_of_ble_eq_true rfl) (Nat.le_of_ble_eq_true rfl) rfl ?_
      refine v_if_eq (tgt := 41) dX2_span_18 (by decide) rfl (fun _ => ?_) (fun q => absurd (by decide) q)
      refine v_bipush (v := (-100)) dX2_span_41 (by decide) rfl ?_
      exact v_iret dX2_span_43 rfl ⟨Nat.le_of_ble_eq_true rfl, Nat.le_of_ble_eq_true rfl⟩ (⟨rfl, rfl⟩)
  · refine v_cvf dX2_span_3 cw_X2_45 ⟨tn_X2_lineAt, tl_X2_lineAt⟩ rfl (by first | assumption | exact set_get (by assumption) | exact set_get (set_get (by assumption))) (c_lineAt_no G hp q3) (by rfl) (by rfl) (Nat.le_of_ble_eq_true rfl) (Nat.le_of_ble_eq_true rfl) (Nat.le_of_ble_eq_true rfl) (Nat.le_of_ble_eq_true rfl) (Nat.le_of_ble_eq_true rfl) rfl ?_
    refine v_astoreN dX2_span_6 (Nat.le_of_ble_eq_true rfl) rfl ?_
    refine v_aloadN dX2_span_8 rfl rfl ?_
    refine v_ifnullN (tgt := 41) dX2_span_10 (by decide) ?_
    refine v_bipush (v := (-100)) dX2_span_41 (by decide) rfl ?_
    exact v_iret dX2_span_43 rfl ⟨Nat.le_of_ble_eq_true rfl, Nat.le_of_ble_eq_true rfl⟩ (⟨rfl, rfl⟩)
def abI (s : ST) (j w : Nat) : Int32 := if 3 ≤ w then (if (w - 3) % 2 = 0 then s.fr j ((w - 3) / 2) else s.to j ((w - 3) / 2)) else if w = 0 then s.kd j else if w = 1 then s.fc j else s.wt j
theorem x_about_y (hX : PX G s x hp) {a b w : Nat} (ha : a < 2) (hb : b < 4) (hw : w < 11) : Ct G mX2_about 2 0 0 [.ref (G.2.2.2 + 0), .int (nI a), .int (nI b), .int (nI w)] hp (Qf (some (.int (abI s (a * 4 + b) w))) hp) := by
  have h0 := hX.1
  have hj : a * 4 + b < 8 := by omega
  obtain ⟨l1, l2, l3⟩ := hX.2.2.2.2.2.2.2.2.2.1 (a * 4 + b) hj
  refine Ct.start 3 (by decide) rfl (Nat.le_of_ble_eq_true rfl) ?_
  refine v_aload_n dX2_about_0 rfl rfl ?_
  refine v_iload_n dX2_about_1 rfl rfl ?_
  refine v_iload_n dX2_about_2 rfl rfl ?_
  refine v_cvf dX2_about_3 cw_X2_45 ⟨tn_X2_lineAt, tl_X2_lineAt⟩ rfl (by first | assumption | exact set_get (by assumption) | exact set_get (set_get (by assumption))) (c_lineAt G hp hX ha hb) (by rfl) (by rfl) (Nat.le_of_ble_eq_true rfl) (Nat.le_of_ble_eq_true rfl) (Nat.le_of_ble_eq_true rfl) (Nat.le_of_ble_eq_true rfl) (Nat.le_of_ble_eq_true rfl) rfl ?_
  refine v_astore dX2_about_6 (Nat.le_of_ble_eq_true rfl) rfl ?_
  refine v_aload dX2_about_8 rfl rfl ?_
  refine v_ifnull dX2_about_10 rfl ?_
  refine v_iload_n dX2_about_13 rfl rfl ?_
  refine v_bipush (v := nI 11) dX2_about_14 (by decide) rfl ?_
  refine v_csf dX2_about_16 cw_X2_49 ts_X2_isBelow ((c_isBelow G hp (nI w) 11).yes (inR_nI hw (by decide))) (by rfl) (by rfl) (Nat.le_of_ble_eq_true rfl) (Nat.le_of_ble_eq_true rfl) (Nat.le_of_ble_eq_true rfl) (Nat.le_of_ble_eq_true rfl) (Nat.le_of_ble_eq_true rfl) rfl ?_
  refine v_if_ne (tgt := 25) dX2_about_19 (by decide) rfl (fun _ => ?_) (fun q => absurd q (by decide))
  refine v_iload_n dX2_about_25 rfl rfl ?_
  refine v_iconst (v := nI 3) dX2_about_26 (by decide) rfl ?_
  refine v_icmp_geN (tgt := 61) dX2_about_27 (by decide) rfl (by omega) (by omega) (fun c27 => ?_) (fun c27 => ?_)
  · refine v_iload_n dX2_about_61 rfl rfl ?_
    refine v_iconst (v := nI 3) dX2_about_62 (by decide) rfl ?_
    refine v_isubN dX2_about_63 (by omega) rfl ?_
    refine v_iconst (v := nI 2) dX2_about_64 (by decide) rfl ?_
    refine v_idivN dX2_about_65 (by omega) (by omega) (by omega) rfl ?_
    refine v_istore dX2_about_66 (Nat.le_of_ble_eq_true rfl) rfl ?_
    refine v_iload_n dX2_about_68 rfl rfl ?_
    refine v_iconst (v := nI 3) dX2_about_69 (by decide) rfl ?_
    refine v_isubN dX2_about_70 (by omega) rfl ?_
    refine v_iconst (v := nI 2) dX2_about_71 (by decide) rfl ?_
    refine v_iremN dX2_about_72 (by omega) (by omega) (by omega) rfl ?_
    refine v_if_neN (tgt := 80) dX2_about_73 (by decide) rfl (by omega) (fun c73 => ?_) (fun c73 => ?_)
    · refine v_iconst (v := nI 0) dX2_about_80 (by decide) rfl ?_
      refine v_istore dX2_about_81 (Nat.le_of_ble_eq_true rfl) rfl ?_
      refine v_iload dX2_about_83 rfl rfl ?_
      refine v_if_eq (tgt := 99) dX2_about_85 (by decide) rfl (fun _ => ?_) (fun q => absurd (by decide) q)
      refine v_aload dX2_about_99 rfl rfl ?_
      refine v_getf dX2_about_101 fl_X2_68 (by first | assumption | exact set_get (by assumption) | exact set_get (set_get (by assumption))) (by rfl) rfl ?_
      refine v_iload dX2_about_104 rfl rfl ?_
      refine v_iald _ dX2_about_106 (by first | assumption | exact set_get (by assumption) | exact set_get (set_get (by assumption))) rfl (by omega) (by decide) rfl ?_
      exact v_iret dX2_about_107 rfl ⟨Nat.le_of_ble_eq_true rfl, Nat.le_of_ble_eq_true rfl⟩ (⟨by first | (rw [abI, if_pos ‹_›, if_pos ‹_›]; done) | (rw [abI, if_pos ‹_›, if_neg ‹_›]; done) | (rw [abI, if_neg (by omega), if_pos ‹_›]; done) | (rw [abI, if_neg (by omega), if_neg ‹_›, if_pos ‹_›]; done) | (rw [abI, if_neg (by omega), if_neg ‹_›, if_neg ‹_›]; done), rfl⟩)
    · refine v_iconst (v := nI 1) dX2_about_76 (by decide) rfl ?_
      refine v_goto (tgt := 81) dX2_about_77 (by decide) ?_
      refine v_istore dX2_about_81 (Nat.le_of_ble_eq_true rfl) rfl ?_
      refine v_iload dX2_about_83 rfl rfl ?_
      refine v_if_eq (tgt := 99) dX2_about_85 (by decide) rfl (fun q => absurd q (by decide)) (fun _ => ?_)
      refine v_aload dX2_about_88 rfl rfl ?_
      refine v_getf dX2_about_90 fl_X2_65 (by first | assumption | exact set_get (by assumption) | exact set_get (set_get (by assumption))) (by rfl) rfl ?_
      refine v_iload dX2_about_93 rfl rfl ?_
      refine v_iald _ dX2_about_95 (by first | assumption | exact set_get (by assumption) | exact set_get (set_get (by assumption))) rfl (by omega) (by decide) rfl ?_
      refine v_goto (tgt := 107) dX2_about_96 (by decide) ?_
      exact v_iret dX2_about_107 rfl ⟨Nat.le_of_ble_eq_true rfl, Nat.le_of_ble_eq_true rfl⟩ (⟨by first | (rw [abI, if_pos ‹_›, if_pos ‹_›]; done) | (rw [abI, if_pos ‹_›, if_neg ‹_›]; done) | (rw [abI, if_neg (by omega), if_pos ‹_›]; done) | (rw [abI, if_neg (by omega), if_neg ‹_›, if_pos ‹_›]; done) | (rw [abI, if_neg (by omega), if_neg ‹_›, if_neg ‹_›]; done), rfl⟩)
  · refine v_iload_n dX2_about_30 rfl rfl ?_
    refine v_if_neN (tgt := 42) dX2_about_31 (by decide) rfl (by omega) (fun c31 => ?_) (fun c31 => ?_)
    · refine v_iload_n dX2_about_42 rfl rfl ?_
      refine v_iconst (v := nI 1) dX2_about_43 (by decide) rfl ?_
      refine v_icmp_neN (tgt := 55) dX2_about_44 (by decide) rfl (by omega) (by omega) (fun c44 => ?_) (fun c44 => ?_)
      · refine v_aload dX2_about_55 rfl rfl ?_
        refine v_getf dX2_about_57 fl_X2_62 (by first | assumption | exact set_get (by assumption) | exact set_get (set_get (by assumption))) (by rfl) rfl ?_
        exact v_iret dX2_about_60 rfl ⟨Nat.le_of_ble_eq_true rfl, Nat.le_of_ble_eq_true rfl⟩ (⟨by first | (rw [abI, if_pos ‹_›, if_pos ‹_›]; done) | (rw [abI, if_pos ‹_›, if_neg ‹_›]; done) | (rw [abI, if_neg (by omega), if_pos ‹_›]; done) | (rw [abI, if_neg (by omega), if_neg ‹_›, if_pos ‹_›]; done) | (rw [abI, if_neg (by omega), if_neg ‹_›, if_neg ‹_›]; done), rfl⟩)
      · refine v_aload dX2_about_47 rfl rfl ?_
        refine v_getf dX2_about_49 fl_X2_59 (by first | assumption | exact set_get (by assumption) | exact set_get (set_get (by assumption))) (by rfl) rfl ?_
        refine v_goto (tgt := 60) dX2_about_52 (by decide) ?_
        exact v_iret dX2_about_60 rfl ⟨Nat.le_of_ble_eq_true rfl, Nat.le_of_ble_eq_true rfl⟩ (⟨by first | (rw [abI, if_pos ‹_›, if_pos ‹_›]; done) | (rw [abI, if_pos ‹_›, if_neg ‹_›]; done) | (rw [abI, if_neg (by omega), if_pos ‹_›]; done) | (rw [abI, if_neg (by omega), if_neg ‹_›, if_pos ‹_›]; done) | (rw [abI, if_neg (by omega), if_neg ‹_›, if_neg ‹_›]; done), rfl⟩)
    · refine v_aload dX2_about_34 rfl rfl ?_
      refine v_getf dX2_about_36 fl_X2_56 (by first | assumption | exact set_get (by assumption) | exact set_get (set_get (by assumption))) (by rfl) rfl ?_
      refine v_goto (tgt := 60) dX2_about_39 (by decide) ?_
      exact v_iret dX2_about_60 rfl ⟨Nat.le_of_ble_eq_true rfl, Nat.le_of_ble_eq_true rfl⟩ (⟨by first | (rw [abI, if_pos ‹_›, if_pos ‹_›]; done) | (rw [abI, if_pos ‹_›, if_neg ‹_›]; done) | (rw [abI, if_neg (by omega), if_pos ‹_›]; done) | (rw [abI, if_neg (by omega), if_neg ‹_›, if_pos ‹_›]; done) | (rw [abI, if_neg (by omega), if_neg ‹_›, if_neg ‹_›]; done), rfl⟩)
theorem x_about_n (hX : PX G s x hp) {y z w : Int32} (h : ¬ ((InR y 2 ∧ InR z 4) ∧ InR w 11)) : Ct G mX2_about 2 0 0 [.ref (G.2.2.2 + 0), .int y, .int z, .int w] hp (Qf (some (.int (-100))) hp) := by
  have h0 := hX.1
  refine Ct.start 3 (by decide) rfl (Nat.le_of_ble_eq_true rfl) ?_
  refine v_aload_n dX2_about_0 rfl rfl ?_
  refine v_iload_n dX2_about_1 rfl rfl ?_
  refine v_iload_n dX2_about_2 rfl rfl ?_
  by_cases q3 : InR y 2 ∧ InR z 4
  · obtain ⟨⟨a, ha, rfl⟩, ⟨b, hb, rfl⟩⟩ := inR2 (by decide) (by decide) q3
    refine v_cvf dX2_about_3 cw_X2_45 ⟨tn_X2_lineAt, tl_X2_lineAt⟩ rfl (by first | assumption | exact set_get (by assumption) | exact set_get (set_get (by assumption))) (c_lineAt G hp hX ha hb) (by rfl) (by rfl) (Nat.le_of_ble_eq_true rfl) (Nat.le_of_ble_eq_true rfl) (Nat.le_of_ble_eq_true rfl) (Nat.le_of_ble_eq_true rfl) (Nat.le_of_ble_eq_true rfl) rfl ?_
    refine v_astore dX2_about_6 (Nat.le_of_ble_eq_true rfl) rfl ?_
    refine v_aload dX2_about_8 rfl rfl ?_
    refine v_ifnull dX2_about_10 rfl ?_
    refine v_iload_n dX2_about_13 rfl rfl ?_
    refine v_bipush (v := nI 11) dX2_about_14 (by decide) rfl ?_
    by_cases q16 : InR w 11
    · refine v_csf dX2_about_16 cw_X2_49 ts_X2_isBelow ((c_isBelow G hp w 11).yes ‹_›) (by rfl) (by rfl) (Nat.le_of_ble_eq_true rfl) (Nat.le_of_ble_eq_true rfl) (Nat.le_of_ble_eq_true rfl) (Nat.le_of_ble_eq_true rfl) (Nat.le_of_ble_eq_true rfl) rfl ?_
      refine v_if_ne (tgt := 25) dX2_about_19 (by decide) rfl (fun _ => ?_) (fun q => absurd q (by decide))
      exact absurd ⟨q3, q16⟩ h
    · refine v_csf dX2_about_16 cw_X2_49 ts_X2_isBelow ((c_isBelow G hp w 11).no ‹_›) (by rfl) (by rfl) (Nat.le_of_ble_eq_true rfl) (Nat.le_of_ble_eq_true rfl) (Nat.le_of_ble_eq_true rfl) (Nat.le_of_ble_eq_true rfl) (Nat.le_of_ble_eq_true rfl) rfl ?_
      refine v_if_ne (tgt := 25) dX2_about_19 (by decide) rfl (fun q => absurd (by decide) q) (fun _ => ?_)
      refine v_bipush (v := (-100)) dX2_about_22 (by decide) rfl ?_
      exact v_iret dX2_about_24 rfl ⟨Nat.le_of_ble_eq_true rfl, Nat.le_of_ble_eq_true rfl⟩ (⟨rfl, rfl⟩)
  · refine v_cvf dX2_about_3 cw_X2_45 ⟨tn_X2_lineAt, tl_X2_lineAt⟩ rfl (by first | assumption | exact set_get (by assumption) | exact set_get (set_get (by assumption))) (c_lineAt_no G hp q3) (by rfl) (by rfl) (Nat.le_of_ble_eq_true rfl) (Nat.le_of_ble_eq_true rfl) (Nat.le_of_ble_eq_true rfl) (Nat.le_of_ble_eq_true rfl) (Nat.le_of_ble_eq_true rfl) rfl ?_
    refine v_astoreN dX2_about_6 (Nat.le_of_ble_eq_true rfl) rfl ?_
    refine v_aloadN dX2_about_8 rfl rfl ?_
    refine v_ifnullN (tgt := 22) dX2_about_10 (by decide) ?_
    refine v_bipush (v := (-100)) dX2_about_22 (by decide) rfl ?_
    exact v_iret dX2_about_24 rfl ⟨Nat.le_of_ble_eq_true rfl, Nat.le_of_ble_eq_true rfl⟩ (⟨rfl, rfl⟩)
theorem x_level_y (hX : PX G s x hp) {a b : Nat} (ha : a < 2) (hb : b < 4) {v : Int32} (hv : InR v 10) : Ct G mX2_level 5 0 0 [.ref (G.2.2.2 + 0), .int (nI a), .int (nI b), .int v] hp (QX G hp (oI (levelO (s.kd (a * 4 + b)) (s.fr (a * 4 + b)) (s.to (a * 4 + b)) v)) (setTc s (s.tc + (trcI (s.kd (a * 4 + b))).toInt64))) := by
  have h0 := hX.1
  have hj : a * 4 + b < 8 := by omega
  have hL := hX.2.2.2.2.2.2.2.2.2.1 (a * 4 + b) hj
  have l1 := hL.1
  have hla := la_in x.1 hj
  have hL2 := (hX.setTc (s.tc + (trcI (s.kd (a * 4 + b))).toInt64)).2.2.2.2.2.2.2.2.2.1 (a * 4 + b) hj
  refine Ct.start 1 (by decide) rfl (Nat.le_of_ble_eq_true rfl) ?_
  refine v_aload_n dX2_level_0 rfl rfl ?_
  refine v_iload_n dX2_level_1 rfl rfl ?_
  refine v_iload_n dX2_level_2 rfl rfl ?_
  refine v_cvf dX2_level_3 cw_X2_45 ⟨tn_X2_lineAt, tl_X2_lineAt⟩ rfl (by first | assumption | exact set_get (by assumption) | exact set_get (set_get (by assumption))) (c_lineAt G hp hX ha hb) (by rfl) (by rfl) (Nat.le_of_ble_eq_true rfl) (Nat.le_of_ble_eq_true rfl) (Nat.le_of_ble_eq_true rfl) (Nat.le_of_ble_eq_true rfl) (Nat.le_of_ble_eq_true rfl) rfl ?_
  refine v_astore dX2_level_6 (Nat.le_of_ble_eq_true rfl) rfl ?_
  refine v_aload dX2_level_8 rfl rfl ?_
  refine v_ifnull dX2_level_10 rfl ?_
  refine v_iload_n dX2_level_13 rfl rfl ?_
  refine v_bipush (v := nI 9) dX2_level_14 (by decide) rfl ?_
  refine v_csf dX2_level_16 cw_X2_53 ts_X2_isUpTo ((c_isUpTo G hp v 9 (by decide)).yes hv) (by rfl) (by rfl) (Nat.le_of_ble_eq_true rfl) (Nat.le_of_ble_eq_true rfl) (Nat.le_of_ble_eq_true rfl) (Nat.le_of_ble_eq_true rfl) (Nat.le_of_ble_eq_true rfl) rfl ?_
  refine v_if_ne (tgt := 25) dX2_level_19 (by decide) rfl (fun _ => ?_) (fun q => absurd q (by decide))
  refine v_aload_n dX2_level_25 rfl rfl ?_
  refine v_dup dX2_level_26 rfl rfl ?_
  refine v_getf dX2_level_27 fl_X2_25 (by first | assumption | exact set_get (by assumption) | exact set_get (set_get (by assumption))) (by rfl) rfl ?_
  refine v_aload dX2_level_30 rfl rfl ?_
  refine v_cvf dX2_level_32 cw_X2_71 ⟨tn_X0_traceOfAsking, tl_X0_traceOfAsking⟩ rfl (by first | assumption | exact set_get (by assumption) | exact set_get (set_get (by assumption))) (c_traceOfAsking G hp hL) (by rfl) (by rfl) (Nat.le_of_ble_eq_true rfl) (Nat.le_of_ble_eq_true rfl) (Nat.le_of_ble_eq_true rfl) (Nat.le_of_ble_eq_true rfl) (Nat.le_of_ble_eq_true rfl) rfl ?_
  refine v_i2l dX2_level_35 rfl ?_
  refine v_ladd dX2_level_36 rfl ?_
  refine v_putf dX2_level_37 fl_X2_25 (by first | assumption | exact set_get (by assumption) | exact set_get (set_get (by assumption))) (by rfl) (by rfl) (by exact Nat.le_of_ble_eq_true rfl) rfl ?_
  refine v_aload dX2_level_40 rfl rfl ?_
  refine v_iload_n dX2_level_42 rfl rfl ?_
  refine v_cvf dX2_level_43 cw_X2_75 ⟨tn_X0_levelFor, tl_X0_levelFor⟩ rfl (hL2.1) (c_levelFor G _ hL2 v) (by rfl) (by rfl) (Nat.le_of_ble_eq_true rfl) (Nat.le_of_ble_eq_true rfl) (Nat.le_of_ble_eq_true rfl) (Nat.le_of_ble_eq_true rfl) (Nat.le_of_ble_eq_true rfl) rfl ?_
  exact v_iret dX2_level_46 rfl ⟨Nat.le_of_ble_eq_true rfl, Nat.le_of_ble_eq_true rfl⟩ (⟨rfl, ⟨x, hX.setTc _⟩, FrX.rf.set (by omega)⟩)
theorem x_level_n (hX : PX G s x hp) {y z w : Int32} (h : ¬ ((InR y 2 ∧ InR z 4) ∧ InR w 10)) : Ct G mX2_level 5 0 0 [.ref (G.2.2.2 + 0), .int y, .int z, .int w] hp (Qf (some (.int (-100))) hp) := by
  have h0 := hX.1
  refine Ct.start 1 (by decide) rfl (Nat.le_of_ble_eq_true rfl) ?_
  refine v_aload_n dX2_level_0 rfl rfl ?_
  refine v_iload_n dX2_level_1 rfl rfl ?_
  refine v_iload_n dX2_level_2 rfl rfl ?_
  by_cases q3 : InR y 2 ∧ InR z 4
  · obtain ⟨⟨a, ha, rfl⟩, ⟨b, hb, rfl⟩⟩ := inR2 (by decide) (by decide) q3
    refine v_cvf dX2_level_3 cw_X2_45 ⟨tn_X2_lineAt, tl_X2_lineAt⟩ rfl (by first | assumption | exact set_get (by assumption) | exact set_get (set_get (by assumption))) (c_lineAt G hp hX ha hb) (by rfl) (by rfl) (Nat.le_of_ble_eq_true rfl) (Nat.le_of_ble_eq_true rfl) (Nat.le_of_ble_eq_true rfl) (Nat.le_of_ble_eq_true rfl) (Nat.le_of_ble_eq_true rfl) rfl ?_
    refine v_astore dX2_level_6 (Nat.le_of_ble_eq_true rfl) rfl ?_
    refine v_aload dX2_level_8 rfl rfl ?_
    refine v_ifnull dX2_level_10 rfl ?_
    refine v_iload_n dX2_level_13 rfl rfl ?_
    refine v_bipush (v := nI 9) dX2_level_14 (by decide) rfl ?_
    by_cases q16 : InR w 10
    · refine v_csf dX2_level_16 cw_X2_53 ts_X2_isUpTo ((c_isUpTo G hp w 9 (by decide)).yes ‹_›) (by rfl) (by rfl) (Nat.le_of_ble_eq_true rfl) (Nat.le_of_ble_eq_true rfl) (Nat.le_of_ble_eq_true rfl) (Nat.le_of_ble_eq_true rfl) (Nat.le_of_ble_eq_true rfl) rfl ?_
      refine v_if_ne (tgt := 25) dX2_level_19 (by decide) rfl (fun _ => ?_) (fun q => absurd q (by decide))
      exact absurd ⟨q3, q16⟩ h
    · refine v_csf dX2_level_16 cw_X2_53 ts_X2_isUpTo ((c_isUpTo G hp w 9 (by decide)).no ‹_›) (by rfl) (by rfl) (Nat.le_of_ble_eq_true rfl) (Nat.le_of_ble_eq_true rfl) (Nat.le_of_ble_eq_true rfl) (Nat.le_of_ble_eq_true rfl) (Nat.le_of_ble_eq_true rfl) rfl ?_
      refine v_if_ne (tgt := 25) dX2_level_19 (by decide) rfl (fun q => absurd (by decide) q) (fun _ => ?_)
      refine v_bipush (v := (-100)) dX2_level_22 (by decide) rfl ?_
      exact v_iret dX2_level_24 rfl ⟨Nat.le_of_ble_eq_true rfl, Nat.le_of_ble_eq_true rfl⟩ (⟨rfl, rfl⟩)
  · refine v_cvf dX2_level_3 cw_X2_45 ⟨tn_X2_lineAt, tl_X2_lineAt⟩ rfl (by first | assumption | exact set_get (by assumption) | exact set_get (set_get (by assumption))) (c_lineAt_no G hp q3) (by rfl) (by rfl) (Nat.le_of_ble_eq_true rfl) (Nat.le_of_ble_eq_true rfl) (Nat.le_of_ble_eq_true rfl) (Nat.le_of_ble_eq_true rfl) (Nat.le_of_ble_eq_true rfl) rfl ?_
    refine v_astoreN dX2_level_6 (Nat.le_of_ble_eq_true rfl) rfl ?_
    refine v_aloadN dX2_level_8 rfl rfl ?_
    refine v_ifnullN (tgt := 22) dX2_level_10 (by decide) ?_
    refine v_bipush (v := (-100)) dX2_level_22 (by decide) rfl ?_
    exact v_iret dX2_level_24 rfl ⟨Nat.le_of_ble_eq_true rfl, Nat.le_of_ble_eq_true rfl⟩ (⟨rfl, rfl⟩)
noncomputable def snI (s : ST) (j w : Nat) : Int32 := if w = 0 then orTo (gapP (s.fr j) (s.to j)) 10 else orTo (ovrP (s.fr j) (s.to j)) 10
theorem x_sense_y (hX : PX G s x hp) {a b w : Nat} (ha : a < 2) (hb : b < 4) (hw : w < 2) : Ct G mX2_sense 3 0 0 [.ref (G.2.2.2 + 0), .int (nI a), .int (nI b), .int (nI w)] hp (Qf (some (.int (snI s (a * 4 + b) w))) hp) := by
  have h0 := hX.1
  have hj : a * 4 + b < 8 := by omega
  have hL := hX.2.2.2.2.2.2.2.2.2.1 (a * 4 + b) hj
  have l1 := hL.1
  refine Ct.start 1 (by decide) rfl (Nat.le_of_ble_eq_true rfl) ?_
  refine v_aload_n dX2_sense_0 rfl rfl ?_
  refine v_iload_n dX2_sense_1 rfl rfl ?_
  refine v_iload_n dX2_sense_2 rfl rfl ?_
  refine v_cvf dX2_sense_3 cw_X2_45 ⟨tn_X2_lineAt, tl_X2_lineAt⟩ rfl (by first | assumption | exact set_get (by assumption) | exact set_get (set_get (by assumption))) (c_lineAt G hp hX ha hb) (by rfl) (by rfl) (Nat.le_of_ble_eq_true rfl) (Nat.le_of_ble_eq_true rfl) (Nat.le_of_ble_eq_true rfl) (Nat.le_of_ble_eq_true rfl) (Nat.le_of_ble_eq_true rfl) rfl ?_
  refine v_astore dX2_sense_6 (Nat.le_of_ble_eq_true rfl) rfl ?_
  refine v_aload dX2_sense_8 rfl rfl ?_
  refine v_ifnull dX2_sense_10 rfl ?_
  refine v_iload_n dX2_sense_13 rfl rfl ?_
  refine v_iconst (v := nI 2) dX2_sense_14 (by decide) rfl ?_
  refine v_csf dX2_sense_15 cw_X2_49 ts_X2_isBelow ((c_isBelow G hp (nI w) 2).yes (inR_nI hw (by decide))) (by rfl) (by rfl) (Nat.le_of_ble_eq_true rfl) (Nat.le_of_ble_eq_true rfl) (Nat.le_of_ble_eq_true rfl) (Nat.le_of_ble_eq_true rfl) (Nat.le_of_ble_eq_true rfl) rfl ?_
  refine v_if_ne (tgt := 24) dX2_sense_18 (by decide) rfl (fun _ => ?_) (fun q => absurd q (by decide))
  refine v_iload_n dX2_sense_24 rfl rfl ?_
  refine v_if_neN (tgt := 36) dX2_sense_25 (by decide) rfl (by omega) (fun c25 => ?_) (fun c25 => ?_)
  · refine v_aload dX2_sense_36 rfl rfl ?_
    refine v_cvf dX2_sense_38 cw_X2_82 ⟨tn_X0_overlaps, tl_X0_overlaps⟩ rfl (by first | assumption | exact set_get (by assumption) | exact set_get (set_get (by assumption))) (c_overlaps G hp hL) (by rfl) (by rfl) (Nat.le_of_ble_eq_true rfl) (Nat.le_of_ble_eq_true rfl) (Nat.le_of_ble_eq_true rfl) (Nat.le_of_ble_eq_true rfl) (Nat.le_of_ble_eq_true rfl) rfl ?_
    exact v_iret dX2_sense_41 rfl ⟨Nat.le_of_ble_eq_true rfl, Nat.le_of_ble_eq_true rfl⟩ (⟨by first | (rw [snI, if_pos ‹_›]; done) | (rw [snI, if_neg ‹_›]; done), rfl⟩)
  · refine v_aload dX2_sense_28 rfl rfl ?_
    refine v_cvf dX2_sense_30 cw_X2_79 ⟨tn_X0_gaps, tl_X0_gaps⟩ rfl (by first | assumption | exact set_get (by assumption) | exact set_get (set_get (by assumption))) (c_gaps G hp hL) (by rfl) (by rfl) (Nat.le_of_ble_eq_true rfl) (Nat.le_of_ble_eq_true rfl) (Nat.le_of_ble_eq_true rfl) (Nat.le_of_ble_eq_true rfl) (Nat.le_of_ble_eq_true rfl) rfl ?_
    refine v_goto (tgt := 41) dX2_sense_33 (by decide) ?_
    exact v_iret dX2_sense_41 rfl ⟨Nat.le_of_ble_eq_true rfl, Nat.le_of_ble_eq_true rfl⟩ (⟨by first | (rw [snI, if_pos ‹_›]; done) | (rw [snI, if_neg ‹_›]; done), rfl⟩)
theorem x_sense_n (hX : PX G s x hp) {y z w : Int32} (h : ¬ ((InR y 2 ∧ InR z 4) ∧ InR w 2)) : Ct G mX2_sense 3 0 0 [.ref (G.2.2.2 + 0), .int y, .int z, .int w] hp (Qf (some (.int (-100))) hp) := by
  have h0 := hX.1
  refine Ct.start 1 (by decide) rfl (Nat.le_of_ble_eq_true rfl) ?_
  refine v_aload_n dX2_sense_0 rfl rfl ?_
  refine v_iload_n dX2_sense_1 rfl rfl ?_
  refine v_iload_n dX2_sense_2 rfl rfl ?_
  by_cases q3 : InR y 2 ∧ InR z 4
  · obtain ⟨⟨a, ha, rfl⟩, ⟨b, hb, rfl⟩⟩ := inR2 (by decide) (by decide) q3
    refine v_cvf dX2_sense_3 cw_X2_45 ⟨tn_X2_lineAt, tl_X2_lineAt⟩ rfl (by first | assumption | exact set_get (by assumption) | exact set_get (set_get (by assumption))) (c_lineAt G hp hX ha hb) (by rfl) (by rfl) (Nat.le_of_ble_eq_true rfl) (Nat.le_of_ble_eq_true rfl) (Nat.le_of_ble_eq_true rfl) (Nat.le_of_ble_eq_true rfl) (Nat.le_of_ble_eq_true rfl) rfl ?_
    refine v_astore dX2_sense_6 (Nat.le_of_ble_eq_true rfl) rfl ?_
    refine v_aload dX2_sense_8 rfl rfl ?_
    refine v_ifnull dX2_sense_10 rfl ?_
    refine v_iload_n dX2_sense_13 rfl rfl ?_
    refine v_iconst (v := nI 2) dX2_sense_14 (by decide) rfl ?_
    by_cases q15 : InR w 2
    · refine v_csf dX2_sense_15 cw_X2_49 ts_X2_isBelow ((c_isBelow G hp w 2).yes ‹_›) (by rfl) (by rfl) (Nat.le_of_ble_eq_true rfl) (Nat.le_of_ble_eq_true rfl) (Nat.le_of_ble_eq_true rfl) (Nat.le_of_ble_eq_true rfl) (Nat.le_of_ble_eq_true rfl) rfl ?_
      refine v_if_ne (tgt := 24) dX2_sense_18 (by decide) rfl (fun _ => ?_) (fun q => absurd q (by decide))
      exact absurd ⟨q3, q15⟩ h
    · refine v_csf dX2_sense_15 cw_X2_49 ts_X2_isBelow ((c_isBelow G hp w 2).no ‹_›) (by rfl) (by rfl) (Nat.le_of_ble_eq_true rfl) (Nat.le_of_ble_eq_true rfl) (Nat.le_of_ble_eq_true rfl) (Nat.le_of_ble_eq_true rfl) (Nat.le_of_ble_eq_true rfl) rfl ?_
      refine v_if_ne (tgt := 24) dX2_sense_18 (by decide) rfl (fun q => absurd (by decide) q) (fun _ => ?_)
      refine v_bipush (v := (-100)) dX2_sense_21 (by decide) rfl ?_
      exact v_iret dX2_sense_23 rfl ⟨Nat.le_of_ble_eq_true rfl, Nat.le_of_ble_eq_true rfl⟩ (⟨rfl, rfl⟩)
  · refine v_cvf dX2_sense_3 cw_X2_45 ⟨tn_X2_lineAt, tl_X2_lineAt⟩ rfl (by first | assumption | exact set_get (by assumption) | exact set_get (set_get (by assumption))) (c_lineAt_no G hp q3) (by rfl) (by rfl) (Nat.le_of_ble_eq_true rfl) (Nat.le_of_ble_eq_true rfl) (Nat.le_of_ble_eq_true rfl) (Nat.le_of_ble_eq_true rfl) (Nat.le_of_ble_eq_true rfl) rfl ?_
    refine v_astoreN dX2_sense_6 (Nat.le_of_ble_eq_true rfl) rfl ?_
    refine v_aloadN dX2_sense_8 rfl rfl ?_
    refine v_ifnullN (tgt := 21) dX2_sense_10 (by decide) ?_
    refine v_bipush (v := (-100)) dX2_sense_21 (by decide) rfl ?_
    exact v_iret dX2_sense_23 rfl ⟨Nat.le_of_ble_eq_true rfl, Nat.le_of_ble_eq_true rfl⟩ (⟨rfl, rfl⟩)
theorem x_sensible_y (hX : PX G s x hp) {a b : Nat} (ha : a < 2) (hb : b < 4) : Ct G mX2_sensible 7 0 0 [.ref (G.2.2.2 + 0), .int (nI a), .int (nI b)] hp (Qf (some (.int (bP (senS s a b)))) hp) := by
  have h0 := hX.1
  have hj : a * 4 + b < 8 := by omega
  have hL := hX.2.2.2.2.2.2.2.2.2.1 (a * 4 + b) hj
  have l1 := hL.1
  refine Ct.start 1 (by decide) rfl (Nat.le_of_ble_eq_true rfl) ?_
  refine v_aload_n dX2_sensible_0 rfl rfl ?_
  refine v_iload_n dX2_sensible_1 rfl rfl ?_
  refine v_iload_n dX2_sensible_2 rfl rfl ?_
  refine v_cvf dX2_sensible_3 cw_X2_45 ⟨tn_X2_lineAt, tl_X2_lineAt⟩ rfl (by first | assumption | exact set_get (by assumption) | exact set_get (set_get (by assumption))) (c_lineAt G hp hX ha hb) (by rfl) (by rfl) (Nat.le_of_ble_eq_true rfl) (Nat.le_of_ble_eq_true rfl) (Nat.le_of_ble_eq_true rfl) (Nat.le_of_ble_eq_true rfl) (Nat.le_of_ble_eq_true rfl) rfl ?_
  refine v_astore_n dX2_sensible_6 (Nat.le_of_ble_eq_true rfl) rfl ?_
  refine v_aload_n dX2_sensible_7 rfl rfl ?_
  refine v_ifnonnull (tgt := 14) dX2_sensible_8 (by decide) ?_
  refine v_aload_n dX2_sensible_14 rfl rfl ?_
  by_cases q15 : senS s a b
  · refine v_cvf dX2_sensible_15 cw_X2_85 ⟨tn_X0_isSensible, tl_X0_isSensible⟩ rfl (by first | assumption | exact set_get (by assumption) | exact set_get (set_get (by assumption))) ((c_lineSensible G hp hL).yes ‹_›) (by rfl) (by rfl) (Nat.le_of_ble_eq_true rfl) (Nat.le_of_ble_eq_true rfl) (Nat.le_of_ble_eq_true rfl) (Nat.le_of_ble_eq_true rfl) (Nat.le_of_ble_eq_true rfl) rfl ?_
    refine v_if_eq (tgt := 25) dX2_sensible_18 (by decide) rfl (fun q => absurd q (by decide)) (fun _ => ?_)
    refine v_iconst (v := nI 1) dX2_sensible_21 (by decide) rfl ?_
    refine v_goto (tgt := 26) dX2_sensible_22 (by decide) ?_
    exact v_iret dX2_sensible_26 rfl ⟨Nat.le_of_ble_eq_true rfl, Nat.le_of_ble_eq_true rfl⟩ (⟨by first | (rw [bP_t q15]; done) | (rw [bP_f q15]; done), rfl⟩)
  · refine v_cvf dX2_sensible_15 cw_X2_85 ⟨tn_X0_isSensible, tl_X0_isSensible⟩ rfl (by first | assumption | exact set_get (by assumption) | exact set_get (set_get (by assumption))) ((c_lineSensible G hp hL).no ‹_›) (by rfl) (by rfl) (Nat.le_of_ble_eq_true rfl) (Nat.le_of_ble_eq_true rfl) (Nat.le_of_ble_eq_true rfl) (Nat.le_of_ble_eq_true rfl) (Nat.le_of_ble_eq_true rfl) rfl ?_
    refine v_if_eq (tgt := 25) dX2_sensible_18 (by decide) rfl (fun _ => ?_) (fun q => absurd (by decide) q)
    refine v_iconst (v := nI 0) dX2_sensible_25 (by decide) rfl ?_
    exact v_iret dX2_sensible_26 rfl ⟨Nat.le_of_ble_eq_true rfl, Nat.le_of_ble_eq_true rfl⟩ (⟨by first | (rw [bP_t q15]; done) | (rw [bP_f q15]; done), rfl⟩)
theorem x_sensible_n (hX : PX G s x hp) {y z : Int32} (h : ¬ (InR y 2 ∧ InR z 4)) : Ct G mX2_sensible 7 0 0 [.ref (G.2.2.2 + 0), .int y, .int z] hp (Qf (some (.int (-100))) hp) := by
  have h0 := hX.1
  refine Ct.start 1 (by decide) rfl (Nat.le_of_ble_eq_true rfl) ?_
  refine v_aload_n dX2_sensible_0 rfl rfl ?_
  refine v_iload_n dX2_sensible_1 rfl rfl ?_
  refine v_iload_n dX2_sensible_2 rfl rfl ?_
  refine v_cvf dX2_sensible_3 cw_X2_45 ⟨tn_X2_lineAt, tl_X2_lineAt⟩ rfl (by first | assumption | exact set_get (by assumption) | exact set_get (set_get (by assumption))) (c_lineAt_no G hp h) (by rfl) (by rfl) (Nat.le_of_ble_eq_true rfl) (Nat.le_of_ble_eq_true rfl) (Nat.le_of_ble_eq_true rfl) (Nat.le_of_ble_eq_true rfl) (Nat.le_of_ble_eq_true rfl) rfl ?_
  refine v_astore_nN dX2_sensible_6 (Nat.le_of_ble_eq_true rfl) rfl ?_
  refine v_aload_nN dX2_sensible_7 rfl rfl ?_
  refine v_ifnonnullN dX2_sensible_8 rfl ?_
  refine v_bipush (v := (-100)) dX2_sensible_11 (by decide) rfl ?_
  exact v_iret dX2_sensible_13 rfl ⟨Nat.le_of_ble_eq_true rfl, Nat.le_of_ble_eq_true rfl⟩ (⟨rfl, rfl⟩)
end FACE1

