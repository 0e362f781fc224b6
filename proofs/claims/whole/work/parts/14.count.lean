/-! THE CLASS COUNTS -/
abbrev ancP (s : ST) (w : Nat) : Prop := ¬ s.tr w = -900
abbrev mkdP (s : ST) (m w : Nat) : Prop := ¬ s.mr w m = -900
abbrev bothP (s : ST) (a b w : Nat) : Prop := ¬ s.mr w a = -900 ∧ ¬ s.mr w b = -900
abbrev alkP (s : ST) (a b w : Nat) : Prop := bothP s a b w ∧ s.mr w a = s.mr w b
abbrev gavP (s : ST) (a b v w : Nat) : Prop := bothP s a b w ∧ s.mr w a = nI v
abbrev offP (s : ST) (m w : Nat) : Prop := ¬ s.tr w = -900 ∧ ¬ s.mr w m = -900
abbrev senS (s : ST) (sh k : Nat) : Prop := senP (s.kd (sh * 4 + k)) (s.fr (sh * 4 + k)) (s.to (sh * 4 + k))
noncomputable def mksN (s : ST) : Nat → Nat
  | 0 => 0
  | w + 1 => mksN s w + cnt (fun m => mkdP s m w) 3
theorem mksN_le (s : ST) : ∀ w, mksN s w ≤ 3 * w
  | 0 => Nat.le_refl _
  | w + 1 => by
    have h1 := mksN_le s w
    have h2 := cnt_le (fun m => mkdP s m w) 3
    simp only [mksN]
    omega
def offS (s : ST) (m : Nat) : Nat → Int32
  | 0 => nI 0
  | w + 1 => if offP s m w then offS s m w + (s.mr w m - s.tr w) else offS s m w
theorem offS_t {s : ST} {m k : Nat} (h : offP s m k) : offS s m (k + 1) = offS s m k + (s.mr k m - s.tr k) := if_pos h
theorem offS_f {s : ST} {m k : Nat} (h : ¬ offP s m k) : offS s m (k + 1) = offS s m k := if_neg h
noncomputable def chN (s : ST) (a b : Nat) : Nat → Nat
  | 0 => 0
  | k + 1 => chN s a b k + cnt (gavP s a b k) s.n * cnt (gavP s b a k) s.n
section CLASS2
variable (G : GG) (hp : List va_E) {s : ST} {x : XT}
theorem c_countSensible (hX : PX G s x hp) {sh : Nat} (hs : sh < 2) : Ct G mX2_countSensible 7 0 0 [.ref (G.2.2.2 + 0), .int (nI sh)] hp (Qf (some (.int (nI (cnt (senS s sh) 4)))) hp) := by
  obtain ⟨h0, h1, hgl, h2, hgw, h3, h4, h5, h6, hln, hwk, hn, hlen⟩ := hX
  have key : ∀ k, k ≤ 4 → Vm G mX2_countSensible 7 0 0 (Qf (some (.int (nI (cnt (senS s sh) 4)))) hp) 4 [some (.ref (G.2.2.2 + 0)), some (.int (nI sh)), some (.int (nI (cnt (senS s sh) k))), some (.int (nI k))] [] hp 0 0 := by
    refine loop_up ?_ (fun k hk ih => ?_)
    · refine v_iload_n dX2_countSensible_4 rfl rfl ?_
      refine v_iconst (v := nI 4) dX2_countSensible_5 (by decide) rfl ?_
      refine v_icmp_geN (tgt := 34) dX2_countSensible_6 (by decide) rfl (by omega) (by omega) (fun c6 => ?_) (fun c6 => ?_)
      · refine v_iload_n dX2_countSensible_34 rfl rfl ?_
        exact v_iret dX2_countSensible_35 rfl ⟨Nat.le_of_ble_eq_true rfl, Nat.le_of_ble_eq_true rfl⟩ (⟨rfl, rfl⟩)
      · exact absurd c6 (by omega)
    · have hL := hln (sh * 4 + k) (by omega)
      have l1 := hL.1
      refine v_iload_n dX2_countSensible_4 rfl rfl ?_
      refine v_iconst (v := nI 4) dX2_countSensible_5 (by decide) rfl ?_
      refine v_icmp_geN (tgt := 34) dX2_countSensible_6 (by decide) rfl (by omega) (by omega) (fun c6 => ?_) (fun c6 => ?_)
      · exact absurd c6 (by omega)
      · refine v_aload_n dX2_countSensible_9 rfl rfl ?_
        refine v_getf dX2_countSensible_10 fl_X2_11 (by assumption) (by rfl) rfl ?_
        refine v_iload_n dX2_countSensible_13 rfl rfl ?_
        refine v_iconst (v := nI 4) dX2_countSensible_14 (by decide) rfl ?_
        refine v_imulN dX2_countSensible_15 rfl ?_
        refine v_iload_n dX2_countSensible_16 rfl rfl ?_
        refine v_iaddN dX2_countSensible_17 rfl ?_
        refine v_aaldL _ dX2_countSensible_18 (by assumption) rfl (by omega) (by decide) (by rw [hgl _ (by omega)]) rfl ?_
        by_cases q19 : senS s sh k
        · refine v_cvf dX2_countSensible_19 cw_X2_85 ⟨tn_X0_isSensible, tl_X0_isSensible⟩ rfl (by assumption) ((c_lineSensible G hp hL).yes ‹_›) (by rfl) (by rfl) (Nat.le_of_ble_eq_true rfl) (Nat.le_of_ble_eq_true rfl) (Nat.le_of_ble_eq_true rfl) (Nat.le_of_ble_eq_true rfl) (Nat.le_of_ble_eq_true rfl) rfl ?_
          refine v_if_eq (tgt := 28) dX2_countSensible_22 (by decide) rfl (fun q => absurd q (by decide)) (fun _ => ?_)
          refine v_iinc1 dX2_countSensible_25 rfl (Nat.le_of_ble_eq_true rfl) rfl ?_
          refine v_iinc1 dX2_countSensible_28 rfl (Nat.le_of_ble_eq_true rfl) rfl ?_
          refine v_goto (tgt := 4) dX2_countSensible_31 (by decide) ?_
          first | (rw [cnt_t (p := senS s sh) (n := k) ‹_›] at ih; exact ih) | (rw [cnt_f (p := senS s sh) (n := k) ‹_›] at ih; exact ih)
        · refine v_cvf dX2_countSensible_19 cw_X2_85 ⟨tn_X0_isSensible, tl_X0_isSensible⟩ rfl (by assumption) ((c_lineSensible G hp hL).no ‹_›) (by rfl) (by rfl) (Nat.le_of_ble_eq_true rfl) (Nat.le_of_ble_eq_true rfl) (Nat.le_of_ble_eq_true rfl) (Nat.le_of_ble_eq_true rfl) (Nat.le_of_ble_eq_true rfl) rfl ?_
          refine v_if_eq (tgt := 28) dX2_countSensible_22 (by decide) rfl (fun _ => ?_) (fun q => absurd (by decide) q)
          refine v_iinc1 dX2_countSensible_28 rfl (Nat.le_of_ble_eq_true rfl) rfl ?_
          refine v_goto (tgt := 4) dX2_countSensible_31 (by decide) ?_
          first | (rw [cnt_t (p := senS s sh) (n := k) ‹_›] at ih; exact ih) | (rw [cnt_f (p := senS s sh) (n := k) ‹_›] at ih; exact ih)
  refine Ct.start 2 (by decide) rfl (Nat.le_of_ble_eq_true rfl) ?_
  refine v_iconst (v := nI 0) dX2_countSensible_0 (by decide) rfl ?_
  refine v_istore_n dX2_countSensible_1 (Nat.le_of_ble_eq_true rfl) rfl ?_
  refine v_iconst (v := nI 0) dX2_countSensible_2 (by decide) rfl ?_
  refine v_istore_n dX2_countSensible_3 (Nat.le_of_ble_eq_true rfl) rfl ?_
  exact key 0 (by decide)
theorem c_countAnchors (hX : PX G s x hp) : Ct G mX2_countAnchors 1 0 0 [.ref (G.2.2.2 + 0)] hp (Qf (some (.int (nI (cnt (ancP s) s.n)))) hp) := by
  obtain ⟨h0, h1, hgl, h2, hgw, h3, h4, h5, h6, hln, hwk, hn, hlen⟩ := hX
  have key : ∀ k, k ≤ s.n → Vm G mX2_countAnchors 1 0 0 (Qf (some (.int (nI (cnt (ancP s) s.n)))) hp) 4 [some (.ref (G.2.2.2 + 0)), some (.int (nI (cnt (ancP s) k))), some (.int (nI k))] [] hp 0 0 := by
    refine loop_up ?_ (fun k hk ih => ?_)
    · refine v_iload_n dX2_countAnchors_4 rfl rfl ?_
      refine v_aload_n dX2_countAnchors_5 rfl rfl ?_
      refine v_getf dX2_countAnchors_6 fl_X2_21 (by assumption) (by rfl) rfl ?_
      refine v_icmp_geN (tgt := 33) dX2_countAnchors_9 (by decide) rfl (by omega) (by omega) (fun c9 => ?_) (fun c9 => ?_)
      · refine v_iload_n dX2_countAnchors_33 rfl rfl ?_
        exact v_iret dX2_countAnchors_34 rfl ⟨Nat.le_of_ble_eq_true rfl, Nat.le_of_ble_eq_true rfl⟩ (⟨rfl, rfl⟩)
      · exact absurd c9 (by omega)
    · have hW := hwk k hk
      have l1 := hW.1
      refine v_iload_n dX2_countAnchors_4 rfl rfl ?_
      refine v_aload_n dX2_countAnchors_5 rfl rfl ?_
      refine v_getf dX2_countAnchors_6 fl_X2_21 (by assumption) (by rfl) rfl ?_
      refine v_icmp_geN (tgt := 33) dX2_countAnchors_9 (by decide) rfl (by omega) (by omega) (fun c9 => ?_) (fun c9 => ?_)
      · exact absurd c9 (by omega)
      · refine v_aload_n dX2_countAnchors_12 rfl rfl ?_
        refine v_getf dX2_countAnchors_13 fl_X2_17 (by assumption) (by rfl) rfl ?_
        refine v_iload_n dX2_countAnchors_16 rfl rfl ?_
        refine v_aaldW _ dX2_countAnchors_17 (by assumption) rfl (by omega) (by decide) (by rw [hgw _ (by omega)]) rfl ?_
        by_cases q18 : ancP s k
        · refine v_cvf dX2_countAnchors_18 cw_X2_184 ⟨tn_X1_isAnchor, tl_X1_isAnchor⟩ rfl (by assumption) ((c_isAnchor G hp hW).yes ‹_›) (by rfl) (by rfl) (Nat.le_of_ble_eq_true rfl) (Nat.le_of_ble_eq_true rfl) (Nat.le_of_ble_eq_true rfl) (Nat.le_of_ble_eq_true rfl) (Nat.le_of_ble_eq_true rfl) rfl ?_
          refine v_if_eq (tgt := 27) dX2_countAnchors_21 (by decide) rfl (fun q => absurd q (by decide)) (fun _ => ?_)
          refine v_iinc1 dX2_countAnchors_24 rfl (Nat.le_of_ble_eq_true rfl) rfl ?_
          refine v_iinc1 dX2_countAnchors_27 rfl (Nat.le_of_ble_eq_true rfl) rfl ?_
          refine v_goto (tgt := 4) dX2_countAnchors_30 (by decide) ?_
          first | (rw [cnt_t (p := ancP s) (n := k) ‹_›] at ih; exact ih) | (rw [cnt_f (p := ancP s) (n := k) ‹_›] at ih; exact ih)
        · refine v_cvf dX2_countAnchors_18 cw_X2_184 ⟨tn_X1_isAnchor, tl_X1_isAnchor⟩ rfl (by assumption) ((c_isAnchor G hp hW).no ‹_›) (by rfl) (by rfl) (Nat.le_of_ble_eq_true rfl) (Nat.le_of_ble_eq_true rfl) (Nat.le_of_ble_eq_true rfl) (Nat.le_of_ble_eq_true rfl) (Nat.le_of_ble_eq_true rfl) rfl ?_
          refine v_if_eq (tgt := 27) dX2_countAnchors_21 (by decide) rfl (fun _ => ?_) (fun q => absurd (by decide) q)
          refine v_iinc1 dX2_countAnchors_27 rfl (Nat.le_of_ble_eq_true rfl) rfl ?_
          refine v_goto (tgt := 4) dX2_countAnchors_30 (by decide) ?_
          first | (rw [cnt_t (p := ancP s) (n := k) ‹_›] at ih; exact ih) | (rw [cnt_f (p := ancP s) (n := k) ‹_›] at ih; exact ih)
  refine Ct.start 2 (by decide) rfl (Nat.le_of_ble_eq_true rfl) ?_
  refine v_iconst (v := nI 0) dX2_countAnchors_0 (by decide) rfl ?_
  refine v_istore_n dX2_countAnchors_1 (Nat.le_of_ble_eq_true rfl) rfl ?_
  refine v_iconst (v := nI 0) dX2_countAnchors_2 (by decide) rfl ?_
  refine v_istore_n dX2_countAnchors_3 (Nat.le_of_ble_eq_true rfl) rfl ?_
  exact key 0 (Nat.zero_le _)
theorem c_countMarks (hX : PX G s x hp) : Ct G mX2_countMarks 1 0 0 [.ref (G.2.2.2 + 0)] hp (Qf (some (.int (nI (mksN s s.n)))) hp) := by
  obtain ⟨h0, h1, hgl, h2, hgw, h3, h4, h5, h6, hln, hwk, hn, hlen⟩ := hX
  have inner : ∀ w, w < s.n → (∀ l3 : Option Value, Vm G mX2_countMarks 1 0 0 (Qf (some (.int (nI (mksN s s.n)))) hp) 4 [some (.ref (G.2.2.2 + 0)), some (.int (nI (mksN s (w + 1)))), some (.int (nI (w + 1))), l3] [] hp 0 0) → ∀ k, k ≤ 3 → Vm G mX2_countMarks 1 0 0 (Qf (some (.int (nI (mksN s s.n)))) hp) 14 [some (.ref (G.2.2.2 + 0)), some (.int (nI (mksN s w + cnt (fun m => mkdP s m w) k))), some (.int (nI w)), some (.int (nI k))] [] hp 0 0 := by
    intro w hw hout
    have hW := hwk w hw
    have l1 := hW.1
    refine loop_up ?_ (fun k hk ih => ?_)
    · refine v_iload_n dX2_countMarks_14 rfl rfl ?_
      refine v_iconst (v := nI 3) dX2_countMarks_15 (by decide) rfl ?_
      refine v_icmp_geN (tgt := 41) dX2_countMarks_16 (by decide) rfl (by omega) (by omega) (fun c16 => ?_) (fun c16 => ?_)
      · refine v_iinc1 dX2_countMarks_41 rfl (Nat.le_of_ble_eq_true rfl) rfl ?_
        refine v_goto (tgt := 4) dX2_countMarks_44 (by decide) ?_
        exact hout _
      · exact absurd c16 (by omega)
    · refine v_iload_n dX2_countMarks_14 rfl rfl ?_
      refine v_iconst (v := nI 3) dX2_countMarks_15 (by decide) rfl ?_
      refine v_icmp_geN (tgt := 41) dX2_countMarks_16 (by decide) rfl (by omega) (by omega) (fun c16 => ?_) (fun c16 => ?_)
      · exact absurd c16 (by omega)
      · refine v_aload_n dX2_countMarks_19 rfl rfl ?_
        refine v_getf dX2_countMarks_20 fl_X2_17 (by assumption) (by rfl) rfl ?_
        refine v_iload_n dX2_countMarks_23 rfl rfl ?_
        refine v_aaldW _ dX2_countMarks_24 (by assumption) rfl (by omega) (by decide) (by rw [hgw _ (by omega)]) rfl ?_
        refine v_iload_n dX2_countMarks_25 rfl rfl ?_
        by_cases q26 : ¬ s.mr w k = -900
        · refine v_cvf dX2_countMarks_26 cw_X2_144 ⟨tn_X1_isMarkedBy, tl_X1_isMarkedBy⟩ rfl (by assumption) ((c_isMarkedBy G hp hW hk).yes ‹_›) (by rfl) (by rfl) (Nat.le_of_ble_eq_true rfl) (Nat.le_of_ble_eq_true rfl) (Nat.le_of_ble_eq_true rfl) (Nat.le_of_ble_eq_true rfl) (Nat.le_of_ble_eq_true rfl) rfl ?_
          refine v_if_eq (tgt := 35) dX2_countMarks_29 (by decide) rfl (fun q => absurd q (by decide)) (fun _ => ?_)
          refine v_iinc1 dX2_countMarks_32 rfl (Nat.le_of_ble_eq_true rfl) rfl ?_
          refine v_iinc1 dX2_countMarks_35 rfl (Nat.le_of_ble_eq_true rfl) rfl ?_
          refine v_goto (tgt := 14) dX2_countMarks_38 (by decide) ?_
          first | (rw [cnt_t (p := fun m => mkdP s m w) (n := k) ‹_›] at ih; exact ih) | (rw [cnt_f (p := fun m => mkdP s m w) (n := k) ‹_›] at ih; exact ih)
        · refine v_cvf dX2_countMarks_26 cw_X2_144 ⟨tn_X1_isMarkedBy, tl_X1_isMarkedBy⟩ rfl (by assumption) ((c_isMarkedBy G hp hW hk).no ‹_›) (by rfl) (by rfl) (Nat.le_of_ble_eq_true rfl) (Nat.le_of_ble_eq_true rfl) (Nat.le_of_ble_eq_true rfl) (Nat.le_of_ble_eq_true rfl) (Nat.le_of_ble_eq_true rfl) rfl ?_
          refine v_if_eq (tgt := 35) dX2_countMarks_29 (by decide) rfl (fun _ => ?_) (fun q => absurd (by decide) q)
          refine v_iinc1 dX2_countMarks_35 rfl (Nat.le_of_ble_eq_true rfl) rfl ?_
          refine v_goto (tgt := 14) dX2_countMarks_38 (by decide) ?_
          first | (rw [cnt_t (p := fun m => mkdP s m w) (n := k) ‹_›] at ih; exact ih) | (rw [cnt_f (p := fun m => mkdP s m w) (n := k) ‹_›] at ih; exact ih)
  have key : ∀ k, k ≤ s.n → ∀ (l3 : Option Value), Vm G mX2_countMarks 1 0 0 (Qf (some (.int (nI (mksN s s.n)))) hp) 4 [some (.ref (G.2.2.2 + 0)), some (.int (nI (mksN s k))), some (.int (nI k)), l3] [] hp 0 0 := by
    refine loop_up ?_ (fun k hk ih => ?_)
    · intro l3
      refine v_iload_n dX2_countMarks_4 rfl rfl ?_
      refine v_aload_n dX2_countMarks_5 rfl rfl ?_
      refine v_getf dX2_countMarks_6 fl_X2_21 (by assumption) (by rfl) rfl ?_
      refine v_icmp_geN (tgt := 47) dX2_countMarks_9 (by decide) rfl (by omega) (by omega) (fun c9 => ?_) (fun c9 => ?_)
      · refine v_iload_n dX2_countMarks_47 rfl rfl ?_
        exact v_iret dX2_countMarks_48 rfl ⟨Nat.le_of_ble_eq_true rfl, Nat.le_of_ble_eq_true rfl⟩ (⟨rfl, rfl⟩)
      · exact absurd c9 (by omega)
    · intro l3
      refine v_iload_n dX2_countMarks_4 rfl rfl ?_
      refine v_aload_n dX2_countMarks_5 rfl rfl ?_
      refine v_getf dX2_countMarks_6 fl_X2_21 (by assumption) (by rfl) rfl ?_
      refine v_icmp_geN (tgt := 47) dX2_countMarks_9 (by decide) rfl (by omega) (by omega) (fun c9 => ?_) (fun c9 => ?_)
      · exact absurd c9 (by omega)
      · refine v_iconst (v := nI 0) dX2_countMarks_12 (by decide) rfl ?_
        refine v_istore_n dX2_countMarks_13 (Nat.le_of_ble_eq_true rfl) rfl ?_
        exact inner k hk ih 0 (by decide)
  refine Ct.start 3 (by decide) rfl (Nat.le_of_ble_eq_true rfl) ?_
  refine v_iconst (v := nI 0) dX2_countMarks_0 (by decide) rfl ?_
  refine v_istore_n dX2_countMarks_1 (Nat.le_of_ble_eq_true rfl) rfl ?_
  refine v_iconst (v := nI 0) dX2_countMarks_2 (by decide) rfl ?_
  refine v_istore_n dX2_countMarks_3 (Nat.le_of_ble_eq_true rfl) rfl ?_
  exact key 0 (Nat.zero_le _) _
theorem c_countMoved (hX : PX G s x hp) : Ct G mX2_countMoved 0 0 0 [.ref (G.2.2.2 + 0)] hp (Qf (some (.int (nI (cnt (fun w => ¬ x.2.2.2.2.2.1 w = x.2.2.2.2.2.2 w) s.n)))) hp) := by
  obtain ⟨h0, h1, hgl, h2, hgw, h3, h4, h5, h6, hln, hwk, hn, hlen⟩ := hX
  have key : ∀ k, k ≤ s.n → Vm G mX2_countMoved 0 0 0 (Qf (some (.int (nI (cnt (fun w => ¬ x.2.2.2.2.2.1 w = x.2.2.2.2.2.2 w) s.n)))) hp) 4 [some (.ref (G.2.2.2 + 0)), some (.int (nI (cnt (fun w => ¬ x.2.2.2.2.2.1 w = x.2.2.2.2.2.2 w) k))), some (.int (nI k))] [] hp 0 0 := by
    refine loop_up ?_ (fun k hk ih => ?_)
    · refine v_iload_n dX2_countMoved_4 rfl rfl ?_
      refine v_aload_n dX2_countMoved_5 rfl rfl ?_
      refine v_getf dX2_countMoved_6 fl_X2_21 (by assumption) (by rfl) rfl ?_
      refine v_icmp_geN (tgt := 36) dX2_countMoved_9 (by decide) rfl (by omega) (by omega) (fun c9 => ?_) (fun c9 => ?_)
      · refine v_iload_n dX2_countMoved_36 rfl rfl ?_
        exact v_iret dX2_countMoved_37 rfl ⟨Nat.le_of_ble_eq_true rfl, Nat.le_of_ble_eq_true rfl⟩ (⟨rfl, rfl⟩)
      · exact absurd c9 (by omega)
    · refine v_iload_n dX2_countMoved_4 rfl rfl ?_
      refine v_aload_n dX2_countMoved_5 rfl rfl ?_
      refine v_getf dX2_countMoved_6 fl_X2_21 (by assumption) (by rfl) rfl ?_
      refine v_icmp_geN (tgt := 36) dX2_countMoved_9 (by decide) rfl (by omega) (by omega) (fun c9 => ?_) (fun c9 => ?_)
      · exact absurd c9 (by omega)
      · refine v_aload_n dX2_countMoved_12 rfl rfl ?_
        refine v_getf dX2_countMoved_13 fl_X2_36 (by assumption) (by rfl) rfl ?_
        refine v_iload_n dX2_countMoved_16 rfl rfl ?_
        refine v_iald _ dX2_countMoved_17 (by assumption) rfl (by omega) (by decide) rfl ?_
        refine v_aload_n dX2_countMoved_18 rfl rfl ?_
        refine v_getf dX2_countMoved_19 fl_X2_39 (by assumption) (by rfl) rfl ?_
        refine v_iload_n dX2_countMoved_22 rfl rfl ?_
        refine v_iald _ dX2_countMoved_23 (by assumption) rfl (by omega) (by decide) rfl ?_
        refine v_icmp_eq (tgt := 30) dX2_countMoved_24 (by decide) rfl (fun c24 => ?_) (fun c24 => ?_)
        · refine v_iinc1 dX2_countMoved_30 rfl (Nat.le_of_ble_eq_true rfl) rfl ?_
          refine v_goto (tgt := 4) dX2_countMoved_33 (by decide) ?_
          first | (rw [cnt_t (p := fun w => ¬ x.2.2.2.2.2.1 w = x.2.2.2.2.2.2 w) (n := k) ‹_›] at ih; exact ih) | (rw [cnt_f (p := fun w => ¬ x.2.2.2.2.2.1 w = x.2.2.2.2.2.2 w) (n := k) (fun h => h ‹_›)] at ih; exact ih)
        · refine v_iinc1 dX2_countMoved_27 rfl (Nat.le_of_ble_eq_true rfl) rfl ?_
          refine v_iinc1 dX2_countMoved_30 rfl (Nat.le_of_ble_eq_true rfl) rfl ?_
          refine v_goto (tgt := 4) dX2_countMoved_33 (by decide) ?_
          first | (rw [cnt_t (p := fun w => ¬ x.2.2.2.2.2.1 w = x.2.2.2.2.2.2 w) (n := k) ‹_›] at ih; exact ih) | (rw [cnt_f (p := fun w => ¬ x.2.2.2.2.2.1 w = x.2.2.2.2.2.2 w) (n := k) (fun h => h ‹_›)] at ih; exact ih)
  refine Ct.start 2 (by decide) rfl (Nat.le_of_ble_eq_true rfl) ?_
  refine v_iconst (v := nI 0) dX2_countMoved_0 (by decide) rfl ?_
  refine v_istore_n dX2_countMoved_1 (Nat.le_of_ble_eq_true rfl) rfl ?_
  refine v_iconst (v := nI 0) dX2_countMoved_2 (by decide) rfl ?_
  refine v_istore_n dX2_countMoved_3 (Nat.le_of_ble_eq_true rfl) rfl ?_
  exact key 0 (Nat.zero_le _)
noncomputable def trnN (p q : Nat → Int32) (n : Nat) : Nat → Nat
  | 0 => 0
  | i + 1 => trnN p q n i + cnt (fun j => ¬ p i ≤ p j ∧ ¬ q j ≤ q i) n
theorem trnN_le (p q : Nat → Int32) (n : Nat) : ∀ i, trnN p q n i ≤ n * i
  | 0 => Nat.le_refl _
  | i + 1 => by
    have h1 := trnN_le p q n i
    have h2 := cnt_le (fun j => ¬ p i ≤ p j ∧ ¬ q j ≤ q i) n
    simp only [trnN, Nat.mul_add]
    omega
theorem c_countTurned (hX : PX G s x hp) : Ct G mX2_countTurned 0 0 0 [.ref (G.2.2.2 + 0)] hp (Qf (some (.int (nI (trnN x.2.2.2.2.2.1 x.2.2.2.2.2.2 s.n s.n)))) hp) := by
  obtain ⟨h0, h1, hgl, h2, hgw, h3, h4, h5, h6, hln, hwk, hn, hlen⟩ := hX
  generalize x.2.2.2.2.2.1 = p at *
  generalize x.2.2.2.2.2.2 = q at *
  have inner : ∀ i, i < s.n → (∀ l3 : Option Value, Vm G mX2_countTurned 0 0 0 (Qf (some (.int (nI (trnN p q s.n s.n)))) hp) 4 [some (.ref (G.2.2.2 + 0)), some (.int (nI (trnN p q s.n (i + 1)))), some (.int (nI (i + 1))), l3] [] hp 0 0) → ∀ k, k ≤ s.n → Vm G mX2_countTurned 0 0 0 (Qf (some (.int (nI (trnN p q s.n s.n)))) hp) 14 [some (.ref (G.2.2.2 + 0)), some (.int (nI (trnN p q s.n i + cnt (fun j => ¬ p i ≤ p j ∧ ¬ q j ≤ q i) k))), some (.int (nI i)), some (.int (nI k))] [] hp 0 0 := by
    intro i hi hout
    refine loop_up ?_ (fun k hk ih => ?_)
    · refine v_iload_n dX2_countTurned_14 rfl rfl ?_
      refine v_aload_n dX2_countTurned_15 rfl rfl ?_
      refine v_getf dX2_countTurned_16 fl_X2_21 (by assumption) (by rfl) rfl ?_
      refine v_icmp_geN (tgt := 61) dX2_countTurned_19 (by decide) rfl (by omega) (by omega) (fun c19 => ?_) (fun c19 => ?_)
      · refine v_iinc1 dX2_countTurned_61 rfl (Nat.le_of_ble_eq_true rfl) rfl ?_
        refine v_goto (tgt := 4) dX2_countTurned_64 (by decide) ?_
        exact hout _
      · exact absurd c19 (by omega)
    · refine v_iload_n dX2_countTurned_14 rfl rfl ?_
      refine v_aload_n dX2_countTurned_15 rfl rfl ?_
      refine v_getf dX2_countTurned_16 fl_X2_21 (by assumption) (by rfl) rfl ?_
      refine v_icmp_geN (tgt := 61) dX2_countTurned_19 (by decide) rfl (by omega) (by omega) (fun c19 => ?_) (fun c19 => ?_)
      · exact absurd c19 (by omega)
      · refine v_aload_n dX2_countTurned_22 rfl rfl ?_
        refine v_getf dX2_countTurned_23 fl_X2_36 (by assumption) (by rfl) rfl ?_
        refine v_iload_n dX2_countTurned_26 rfl rfl ?_
        refine v_iald _ dX2_countTurned_27 (by assumption) rfl (by omega) (by decide) rfl ?_
        refine v_aload_n dX2_countTurned_28 rfl rfl ?_
        refine v_getf dX2_countTurned_29 fl_X2_36 (by assumption) (by rfl) rfl ?_
        refine v_iload_n dX2_countTurned_32 rfl rfl ?_
        refine v_iald _ dX2_countTurned_33 (by assumption) rfl (by omega) (by decide) rfl ?_
        refine v_icmp_le (tgt := 55) dX2_countTurned_34 (by decide) rfl (fun c34 => ?_) (fun c34 => ?_)
        · refine v_iinc1 dX2_countTurned_55 rfl (Nat.le_of_ble_eq_true rfl) rfl ?_
          refine v_goto (tgt := 14) dX2_countTurned_58 (by decide) ?_
          first | (rw [cnt_t (p := fun j => ¬ p i ≤ p j ∧ ¬ q j ≤ q i) (n := k) ⟨‹_›, ‹_›⟩] at ih; exact ih) | (rw [cnt_f (p := fun j => ¬ p i ≤ p j ∧ ¬ q j ≤ q i) (n := k) (fun h => absurd ‹_› h.1)] at ih; exact ih) | (rw [cnt_f (p := fun j => ¬ p i ≤ p j ∧ ¬ q j ≤ q i) (n := k) (fun h => absurd ‹_› h.2)] at ih; exact ih)
        · refine v_aload_n dX2_countTurned_37 rfl rfl ?_
          refine v_getf dX2_countTurned_38 fl_X2_39 (by assumption) (by rfl) rfl ?_
          refine v_iload_n dX2_countTurned_41 rfl rfl ?_
          refine v_iald _ dX2_countTurned_42 (by assumption) rfl (by omega) (by decide) rfl ?_
          refine v_aload_n dX2_countTurned_43 rfl rfl ?_
          refine v_getf dX2_countTurned_44 fl_X2_39 (by assumption) (by rfl) rfl ?_
          refine v_iload_n dX2_countTurned_47 rfl rfl ?_
          refine v_iald _ dX2_countTurned_48 (by assumption) rfl (by omega) (by decide) rfl ?_
          refine v_icmp_ge (tgt := 55) dX2_countTurned_49 (by decide) rfl (fun c49 => ?_) (fun c49 => ?_)
          · refine v_iinc1 dX2_countTurned_55 rfl (Nat.le_of_ble_eq_true rfl) rfl ?_
            refine v_goto (tgt := 14) dX2_countTurned_58 (by decide) ?_
            first | (rw [cnt_t (p := fun j => ¬ p i ≤ p j ∧ ¬ q j ≤ q i) (n := k) ⟨‹_›, ‹_›⟩] at ih; exact ih) | (rw [cnt_f (p := fun j => ¬ p i ≤ p j ∧ ¬ q j ≤ q i) (n := k) (fun h => absurd ‹_› h.1)] at ih; exact ih) | (rw [cnt_f (p := fun j => ¬ p i ≤ p j ∧ ¬ q j ≤ q i) (n := k) (fun h => absurd ‹_› h.2)] at ih; exact ih)
          · refine v_iinc1 dX2_countTurned_52 rfl (Nat.le_of_ble_eq_true rfl) rfl ?_
            refine v_iinc1 dX2_countTurned_55 rfl (Nat.le_of_ble_eq_true rfl) rfl ?_
            refine v_goto (tgt := 14) dX2_countTurned_58 (by decide) ?_
            first | (rw [cnt_t (p := fun j => ¬ p i ≤ p j ∧ ¬ q j ≤ q i) (n := k) ⟨‹_›, ‹_›⟩] at ih; exact ih) | (rw [cnt_f (p := fun j => ¬ p i ≤ p j ∧ ¬ q j ≤ q i) (n := k) (fun h => absurd ‹_› h.1)] at ih; exact ih) | (rw [cnt_f (p := fun j => ¬ p i ≤ p j ∧ ¬ q j ≤ q i) (n := k) (fun h => absurd ‹_› h.2)] at ih; exact ih)
  have key : ∀ k, k ≤ s.n → ∀ (l3 : Option Value), Vm G mX2_countTurned 0 0 0 (Qf (some (.int (nI (trnN p q s.n s.n)))) hp) 4 [some (.ref (G.2.2.2 + 0)), some (.int (nI (trnN p q s.n k))), some (.int (nI k)), l3] [] hp 0 0 := by
    refine loop_up ?_ (fun k hk ih => ?_)
    · intro l3
      refine v_iload_n dX2_countTurned_4 rfl rfl ?_
      refine v_aload_n dX2_countTurned_5 rfl rfl ?_
      refine v_getf dX2_countTurned_6 fl_X2_21 (by assumption) (by rfl) rfl ?_
      refine v_icmp_geN (tgt := 67) dX2_countTurned_9 (by decide) rfl (by omega) (by omega) (fun c9 => ?_) (fun c9 => ?_)
      · refine v_iload_n dX2_countTurned_67 rfl rfl ?_
        exact v_iret dX2_countTurned_68 rfl ⟨Nat.le_of_ble_eq_true rfl, Nat.le_of_ble_eq_true rfl⟩ (⟨rfl, rfl⟩)
      · exact absurd c9 (by omega)
    · intro l3
      refine v_iload_n dX2_countTurned_4 rfl rfl ?_
      refine v_aload_n dX2_countTurned_5 rfl rfl ?_
      refine v_getf dX2_countTurned_6 fl_X2_21 (by assumption) (by rfl) rfl ?_
      refine v_icmp_geN (tgt := 67) dX2_countTurned_9 (by decide) rfl (by omega) (by omega) (fun c9 => ?_) (fun c9 => ?_)
      · exact absurd c9 (by omega)
      · refine v_iconst (v := nI 0) dX2_countTurned_12 (by decide) rfl ?_
        refine v_istore_n dX2_countTurned_13 (Nat.le_of_ble_eq_true rfl) rfl ?_
        exact inner k hk ih 0 (Nat.zero_le _)
  refine Ct.start 3 (by decide) rfl (Nat.le_of_ble_eq_true rfl) ?_
  refine v_iconst (v := nI 0) dX2_countTurned_0 (by decide) rfl ?_
  refine v_istore_n dX2_countTurned_1 (Nat.le_of_ble_eq_true rfl) rfl ?_
  refine v_iconst (v := nI 0) dX2_countTurned_2 (by decide) rfl ?_
  refine v_istore_n dX2_countTurned_3 (Nat.le_of_ble_eq_true rfl) rfl ?_
  exact key 0 (Nat.zero_le _) _
theorem c_countBothMarked (hX : PX G s x hp) {a b : Nat} (ha : a < 3) (hb : b < 3) : Ct G mX2_countBothMarked 2 0 0 [.ref (G.2.2.2 + 0), .int (nI a), .int (nI b)] hp (Qf (some (.int (nI (cnt (bothP s a b) s.n)))) hp) := by
  obtain ⟨h0, h1, hgl, h2, hgw, h3, h4, h5, h6, hln, hwk, hn, hlen⟩ := hX
  have key : ∀ k, k ≤ s.n → Vm G mX2_countBothMarked 2 0 0 (Qf (some (.int (nI (cnt (bothP s a b) s.n)))) hp) 5 [some (.ref (G.2.2.2 + 0)), some (.int (nI a)), some (.int (nI b)), some (.int (nI (cnt (bothP s a b) k))), some (.int (nI k))] [] hp 0 0 := by
    refine loop_up ?_ (fun k hk ih => ?_)
    · refine v_iload dX2_countBothMarked_5 rfl rfl ?_
      refine v_aload_n dX2_countBothMarked_7 rfl rfl ?_
      refine v_getf dX2_countBothMarked_8 fl_X2_21 (by assumption) (by rfl) rfl ?_
      refine v_icmp_geN (tgt := 38) dX2_countBothMarked_11 (by decide) rfl (by omega) (by omega) (fun c11 => ?_) (fun c11 => ?_)
      · refine v_iload_n dX2_countBothMarked_38 rfl rfl ?_
        exact v_iret dX2_countBothMarked_39 rfl ⟨Nat.le_of_ble_eq_true rfl, Nat.le_of_ble_eq_true rfl⟩ (⟨rfl, rfl⟩)
      · exact absurd c11 (by omega)
    · have hW := hwk k hk
      have l1 := hW.1
      refine v_iload dX2_countBothMarked_5 rfl rfl ?_
      refine v_aload_n dX2_countBothMarked_7 rfl rfl ?_
      refine v_getf dX2_countBothMarked_8 fl_X2_21 (by assumption) (by rfl) rfl ?_
      refine v_icmp_geN (tgt := 38) dX2_countBothMarked_11 (by decide) rfl (by omega) (by omega) (fun c11 => ?_) (fun c11 => ?_)
      · exact absurd c11 (by omega)
      · refine v_aload_n dX2_countBothMarked_14 rfl rfl ?_
        refine v_getf dX2_countBothMarked_15 fl_X2_17 (by assumption) (by rfl) rfl ?_
        refine v_iload dX2_countBothMarked_18 rfl rfl ?_
        refine v_aaldW _ dX2_countBothMarked_20 (by assumption) rfl (by omega) (by decide) (by rw [hgw _ (by omega)]) rfl ?_
        refine v_iload_n dX2_countBothMarked_21 rfl rfl ?_
        refine v_iload_n dX2_countBothMarked_22 rfl rfl ?_
        by_cases q23 : bothP s a b k
        · refine v_cvf dX2_countBothMarked_23 cw_X2_127 ⟨tn_X1_isMarkedByBoth, tl_X1_isMarkedByBoth⟩ rfl (by assumption) ((c_isMarkedByBoth G hp hW ha hb).yes ‹_›) (by rfl) (by rfl) (Nat.le_of_ble_eq_true rfl) (Nat.le_of_ble_eq_true rfl) (Nat.le_of_ble_eq_true rfl) (Nat.le_of_ble_eq_true rfl) (Nat.le_of_ble_eq_true rfl) rfl ?_
          refine v_if_eq (tgt := 32) dX2_countBothMarked_26 (by decide) rfl (fun q => absurd q (by decide)) (fun _ => ?_)
          refine v_iinc1 dX2_countBothMarked_29 rfl (Nat.le_of_ble_eq_true rfl) rfl ?_
          refine v_iinc1 dX2_countBothMarked_32 rfl (Nat.le_of_ble_eq_true rfl) rfl ?_
          refine v_goto (tgt := 5) dX2_countBothMarked_35 (by decide) ?_
          first | (rw [cnt_t (p := bothP s a b) (n := k) ‹_›] at ih; exact ih) | (rw [cnt_f (p := bothP s a b) (n := k) ‹_›] at ih; exact ih)
        · refine v_cvf dX2_countBothMarked_23 cw_X2_127 ⟨tn_X1_isMarkedByBoth, tl_X1_isMarkedByBoth⟩ rfl (by assumption) ((c_isMarkedByBoth G hp hW ha hb).no ‹_›) (by rfl) (by rfl) (Nat.le_of_ble_eq_true rfl) (Nat.le_of_ble_eq_true rfl) (Nat.le_of_ble_eq_true rfl) (Nat.le_of_ble_eq_true rfl) (Nat.le_of_ble_eq_true rfl) rfl ?_
          refine v_if_eq (tgt := 32) dX2_countBothMarked_26 (by decide) rfl (fun _ => ?_) (fun q => absurd (by decide) q)
          refine v_iinc1 dX2_countBothMarked_32 rfl (Nat.le_of_ble_eq_true rfl) rfl ?_
          refine v_goto (tgt := 5) dX2_countBothMarked_35 (by decide) ?_
          first | (rw [cnt_t (p := bothP s a b) (n := k) ‹_›] at ih; exact ih) | (rw [cnt_f (p := bothP s a b) (n := k) ‹_›] at ih; exact ih)
  refine Ct.start 2 (by decide) rfl (Nat.le_of_ble_eq_true rfl) ?_
  refine v_iconst (v := nI 0) dX2_countBothMarked_0 (by decide) rfl ?_
  refine v_istore_n dX2_countBothMarked_1 (Nat.le_of_ble_eq_true rfl) rfl ?_
  refine v_iconst (v := nI 0) dX2_countBothMarked_2 (by decide) rfl ?_
  refine v_istore dX2_countBothMarked_3 (Nat.le_of_ble_eq_true rfl) rfl ?_
  exact key 0 (Nat.zero_le _)
theorem c_countAlike (hX : PX G s x hp) {a b : Nat} (ha : a < 3) (hb : b < 3) : Ct G mX2_countAlike 2 0 0 [.ref (G.2.2.2 + 0), .int (nI a), .int (nI b)] hp (Qf (some (.int (nI (cnt (alkP s a b) s.n)))) hp) := by
  obtain ⟨h0, h1, hgl, h2, hgw, h3, h4, h5, h6, hln, hwk, hn, hlen⟩ := hX
  have key : ∀ k, k ≤ s.n → Vm G mX2_countAlike 2 0 0 (Qf (some (.int (nI (cnt (alkP s a b) s.n)))) hp) 5 [some (.ref (G.2.2.2 + 0)), some (.int (nI a)), some (.int (nI b)), some (.int (nI (cnt (alkP s a b) k))), some (.int (nI k))] [] hp 0 0 := by
    refine loop_up ?_ (fun k hk ih => ?_)
    · refine v_iload dX2_countAlike_5 rfl rfl ?_
      refine v_aload_n dX2_countAlike_7 rfl rfl ?_
      refine v_getf dX2_countAlike_8 fl_X2_21 (by assumption) (by rfl) rfl ?_
      refine v_icmp_geN (tgt := 65) dX2_countAlike_11 (by decide) rfl (by omega) (by omega) (fun c11 => ?_) (fun c11 => ?_)
      · refine v_iload_n dX2_countAlike_65 rfl rfl ?_
        exact v_iret dX2_countAlike_66 rfl ⟨Nat.le_of_ble_eq_true rfl, Nat.le_of_ble_eq_true rfl⟩ (⟨rfl, rfl⟩)
      · exact absurd c11 (by omega)
    · have hW := hwk k hk
      obtain ⟨l1, l2, l3⟩ := hwk k hk
      refine v_iload dX2_countAlike_5 rfl rfl ?_
      refine v_aload_n dX2_countAlike_7 rfl rfl ?_
      refine v_getf dX2_countAlike_8 fl_X2_21 (by assumption) (by rfl) rfl ?_
      refine v_icmp_geN (tgt := 65) dX2_countAlike_11 (by decide) rfl (by omega) (by omega) (fun c11 => ?_) (fun c11 => ?_)
      · exact absurd c11 (by omega)
      · refine v_aload_n dX2_countAlike_14 rfl rfl ?_
        refine v_getf dX2_countAlike_15 fl_X2_17 (by assumption) (by rfl) rfl ?_
        refine v_iload dX2_countAlike_18 rfl rfl ?_
        refine v_aaldW _ dX2_countAlike_20 (by assumption) rfl (by omega) (by decide) (by rw [hgw _ (by omega)]) rfl ?_
        refine v_iload_n dX2_countAlike_21 rfl rfl ?_
        refine v_iload_n dX2_countAlike_22 rfl rfl ?_
        by_cases q23 : bothP s a b k
        · refine v_cvf dX2_countAlike_23 cw_X2_127 ⟨tn_X1_isMarkedByBoth, tl_X1_isMarkedByBoth⟩ rfl (by assumption) ((c_isMarkedByBoth G hp hW ha hb).yes ‹_›) (by rfl) (by rfl) (Nat.le_of_ble_eq_true rfl) (Nat.le_of_ble_eq_true rfl) (Nat.le_of_ble_eq_true rfl) (Nat.le_of_ble_eq_true rfl) (Nat.le_of_ble_eq_true rfl) rfl ?_
          refine v_if_eq (tgt := 59) dX2_countAlike_26 (by decide) rfl (fun q => absurd q (by decide)) (fun _ => ?_)
          refine v_aload_n dX2_countAlike_29 rfl rfl ?_
          refine v_getf dX2_countAlike_30 fl_X2_17 (by assumption) (by rfl) rfl ?_
          refine v_iload dX2_countAlike_33 rfl rfl ?_
          refine v_aaldW _ dX2_countAlike_35 (by assumption) rfl (by omega) (by decide) (by rw [hgw _ (by omega)]) rfl ?_
          refine v_getf dX2_countAlike_36 fl_X2_107 (by assumption) (by rfl) rfl ?_
          refine v_iload_n dX2_countAlike_39 rfl rfl ?_
          refine v_iald _ dX2_countAlike_40 (by assumption) rfl (by omega) (by decide) rfl ?_
          refine v_aload_n dX2_countAlike_41 rfl rfl ?_
          refine v_getf dX2_countAlike_42 fl_X2_17 (by assumption) (by rfl) rfl ?_
          refine v_iload dX2_countAlike_45 rfl rfl ?_
          refine v_aaldW _ dX2_countAlike_47 (by assumption) rfl (by omega) (by decide) (by rw [hgw _ (by omega)]) rfl ?_
          refine v_getf dX2_countAlike_48 fl_X2_107 (by assumption) (by rfl) rfl ?_
          refine v_iload_n dX2_countAlike_51 rfl rfl ?_
          refine v_iald _ dX2_countAlike_52 (by assumption) rfl (by omega) (by decide) rfl ?_
          refine v_icmp_ne (tgt := 59) dX2_countAlike_53 (by decide) rfl (fun c53 => ?_) (fun c53 => ?_)
          · refine v_iinc1 dX2_countAlike_59 rfl (Nat.le_of_ble_eq_true rfl) rfl ?_
            refine v_goto (tgt := 5) dX2_countAlike_62 (by decide) ?_
            first | (rw [cnt_t (p := alkP s a b) (n := k) ⟨‹_›, ‹_›⟩] at ih; exact ih) | (rw [cnt_f (p := alkP s a b) (n := k) (fun h => absurd h.1 ‹_›)] at ih; exact ih) | (rw [cnt_f (p := alkP s a b) (n := k) (fun h => absurd h.2 ‹_›)] at ih; exact ih)
          · refine v_iinc1 dX2_countAlike_56 rfl (Nat.le_of_ble_eq_true rfl) rfl ?_
            refine v_iinc1 dX2_countAlike_59 rfl (Nat.le_of_ble_eq_true rfl) rfl ?_
            refine v_goto (tgt := 5) dX2_countAlike_62 (by decide) ?_
            first | (rw [cnt_t (p := alkP s a b) (n := k) ⟨‹_›, ‹_›⟩] at ih; exact ih) | (rw [cnt_f (p := alkP s a b) (n := k) (fun h => absurd h.1 ‹_›)] at ih; exact ih) | (rw [cnt_f (p := alkP s a b) (n := k) (fun h => absurd h.2 ‹_›)] at ih; exact ih)
        · refine v_cvf dX2_countAlike_23 cw_X2_127 ⟨tn_X1_isMarkedByBoth, tl_X1_isMarkedByBoth⟩ rfl (by assumption) ((c_isMarkedByBoth G hp hW ha hb).no ‹_›) (by rfl) (by rfl) (Nat.le_of_ble_eq_true rfl) (Nat.le_of_ble_eq_true rfl) (Nat.le_of_ble_eq_true rfl) (Nat.le_of_ble_eq_true rfl) (Nat.le_of_ble_eq_true rfl) rfl ?_
          refine v_if_eq (tgt := 59) dX2_countAlike_26 (by decide) rfl (fun _ => ?_) (fun q => absurd (by decide) q)
          refine v_iinc1 dX2_countAlike_59 rfl (Nat.le_of_ble_eq_true rfl) rfl ?_
          refine v_goto (tgt := 5) dX2_countAlike_62 (by decide) ?_
          first | (rw [cnt_t (p := alkP s a b) (n := k) ⟨‹_›, ‹_›⟩] at ih; exact ih) | (rw [cnt_f (p := alkP s a b) (n := k) (fun h => absurd h.1 ‹_›)] at ih; exact ih) | (rw [cnt_f (p := alkP s a b) (n := k) (fun h => absurd h.2 ‹_›)] at ih; exact ih)
  refine Ct.start 2 (by decide) rfl (Nat.le_of_ble_eq_true rfl) ?_
  refine v_iconst (v := nI 0) dX2_countAlike_0 (by decide) rfl ?_
  refine v_istore_n dX2_countAlike_1 (Nat.le_of_ble_eq_true rfl) rfl ?_
  refine v_iconst (v := nI 0) dX2_countAlike_2 (by decide) rfl ?_
  refine v_istore dX2_countAlike_3 (Nat.le_of_ble_eq_true rfl) rfl ?_
  exact key 0 (Nat.zero_le _)
theorem c_countGave (hX : PX G s x hp) {a b : Nat} (ha : a < 3) (hb : b < 3) (v : Nat) : Ct G mX2_countGave 2 0 0 [.ref (G.2.2.2 + 0), .int (nI a), .int (nI b), .int (nI v)] hp (Qf (some (.int (nI (cnt (gavP s a b v) s.n)))) hp) := by
  obtain ⟨h0, h1, hgl, h2, hgw, h3, h4, h5, h6, hln, hwk, hn, hlen⟩ := hX
  have key : ∀ k, k ≤ s.n → Vm G mX2_countGave 2 0 0 (Qf (some (.int (nI (cnt (gavP s a b v) s.n)))) hp) 6 [some (.ref (G.2.2.2 + 0)), some (.int (nI a)), some (.int (nI b)), some (.int (nI v)), some (.int (nI (cnt (gavP s a b v) k))), some (.int (nI k))] [] hp 0 0 := by
    refine loop_up ?_ (fun k hk ih => ?_)
    · refine v_iload dX2_countGave_6 rfl rfl ?_
      refine v_aload_n dX2_countGave_8 rfl rfl ?_
      refine v_getf dX2_countGave_9 fl_X2_21 (by assumption) (by rfl) rfl ?_
      refine v_icmp_geN (tgt := 55) dX2_countGave_12 (by decide) rfl (by omega) (by omega) (fun c12 => ?_) (fun c12 => ?_)
      · refine v_iload dX2_countGave_55 rfl rfl ?_
        exact v_iret dX2_countGave_57 rfl ⟨Nat.le_of_ble_eq_true rfl, Nat.le_of_ble_eq_true rfl⟩ (⟨rfl, rfl⟩)
      · exact absurd c12 (by omega)
    · have hW := hwk k hk
      obtain ⟨l1, l2, l3⟩ := hwk k hk
      refine v_iload dX2_countGave_6 rfl rfl ?_
      refine v_aload_n dX2_countGave_8 rfl rfl ?_
      refine v_getf dX2_countGave_9 fl_X2_21 (by assumption) (by rfl) rfl ?_
      refine v_icmp_geN (tgt := 55) dX2_countGave_12 (by decide) rfl (by omega) (by omega) (fun c12 => ?_) (fun c12 => ?_)
      · exact absurd c12 (by omega)
      · refine v_aload_n dX2_countGave_15 rfl rfl ?_
        refine v_getf dX2_countGave_16 fl_X2_17 (by assumption) (by rfl) rfl ?_
        refine v_iload dX2_countGave_19 rfl rfl ?_
        refine v_aaldW _ dX2_countGave_21 (by assumption) rfl (by omega) (by decide) (by rw [hgw _ (by omega)]) rfl ?_
        refine v_iload_n dX2_countGave_22 rfl rfl ?_
        refine v_iload_n dX2_countGave_23 rfl rfl ?_
        by_cases q24 : bothP s a b k
        · refine v_cvf dX2_countGave_24 cw_X2_127 ⟨tn_X1_isMarkedByBoth, tl_X1_isMarkedByBoth⟩ rfl (by assumption) ((c_isMarkedByBoth G hp hW ha hb).yes ‹_›) (by rfl) (by rfl) (Nat.le_of_ble_eq_true rfl) (Nat.le_of_ble_eq_true rfl) (Nat.le_of_ble_eq_true rfl) (Nat.le_of_ble_eq_true rfl) (Nat.le_of_ble_eq_true rfl) rfl ?_
          refine v_if_eq (tgt := 49) dX2_countGave_27 (by decide) rfl (fun q => absurd q (by decide)) (fun _ => ?_)
          refine v_aload_n dX2_countGave_30 rfl rfl ?_
          refine v_getf dX2_countGave_31 fl_X2_17 (by assumption) (by rfl) rfl ?_
          refine v_iload dX2_countGave_34 rfl rfl ?_
          refine v_aaldW _ dX2_countGave_36 (by assumption) rfl (by omega) (by decide) (by rw [hgw _ (by omega)]) rfl ?_
          refine v_getf dX2_countGave_37 fl_X2_107 (by assumption) (by rfl) rfl ?_
          refine v_iload_n dX2_countGave_40 rfl rfl ?_
          refine v_iald _ dX2_countGave_41 (by assumption) rfl (by omega) (by decide) rfl ?_
          refine v_iload_n dX2_countGave_42 rfl rfl ?_
          refine v_icmp_ne (tgt := 49) dX2_countGave_43 (by decide) rfl (fun c43 => ?_) (fun c43 => ?_)
          · refine v_iinc1 dX2_countGave_49 rfl (Nat.le_of_ble_eq_true rfl) rfl ?_
            refine v_goto (tgt := 6) dX2_countGave_52 (by decide) ?_
            first | (rw [cnt_t (p := gavP s a b v) (n := k) ⟨‹_›, ‹_›⟩] at ih; exact ih) | (rw [cnt_f (p := gavP s a b v) (n := k) (fun h => absurd h.1 ‹_›)] at ih; exact ih) | (rw [cnt_f (p := gavP s a b v) (n := k) (fun h => absurd h.2 ‹_›)] at ih; exact ih)
          · refine v_iinc1 dX2_countGave_46 rfl (Nat.le_of_ble_eq_true rfl) rfl ?_
            refine v_iinc1 dX2_countGave_49 rfl (Nat.le_of_ble_eq_true rfl) rfl ?_
            refine v_goto (tgt := 6) dX2_countGave_52 (by decide) ?_
            first | (rw [cnt_t (p := gavP s a b v) (n := k) ⟨‹_›, ‹_›⟩] at ih; exact ih) | (rw [cnt_f (p := gavP s a b v) (n := k) (fun h => absurd h.1 ‹_›)] at ih; exact ih) | (rw [cnt_f (p := gavP s a b v) (n := k) (fun h => absurd h.2 ‹_›)] at ih; exact ih)
        · refine v_cvf dX2_countGave_24 cw_X2_127 ⟨tn_X1_isMarkedByBoth, tl_X1_isMarkedByBoth⟩ rfl (by assumption) ((c_isMarkedByBoth G hp hW ha hb).no ‹_›) (by rfl) (by rfl) (Nat.le_of_ble_eq_true rfl) (Nat.le_of_ble_eq_true rfl) (Nat.le_of_ble_eq_true rfl) (Nat.le_of_ble_eq_true rfl) (Nat.le_of_ble_eq_true rfl) rfl ?_
          refine v_if_eq (tgt := 49) dX2_countGave_27 (by decide) rfl (fun _ => ?_) (fun q => absurd (by decide) q)
          refine v_iinc1 dX2_countGave_49 rfl (Nat.le_of_ble_eq_true rfl) rfl ?_
          refine v_goto (tgt := 6) dX2_countGave_52 (by decide) ?_
          first | (rw [cnt_t (p := gavP s a b v) (n := k) ⟨‹_›, ‹_›⟩] at ih; exact ih) | (rw [cnt_f (p := gavP s a b v) (n := k) (fun h => absurd h.1 ‹_›)] at ih; exact ih) | (rw [cnt_f (p := gavP s a b v) (n := k) (fun h => absurd h.2 ‹_›)] at ih; exact ih)
  refine Ct.start 2 (by decide) rfl (Nat.le_of_ble_eq_true rfl) ?_
  refine v_iconst (v := nI 0) dX2_countGave_0 (by decide) rfl ?_
  refine v_istore dX2_countGave_1 (Nat.le_of_ble_eq_true rfl) rfl ?_
  refine v_iconst (v := nI 0) dX2_countGave_3 (by decide) rfl ?_
  refine v_istore dX2_countGave_4 (Nat.le_of_ble_eq_true rfl) rfl ?_
  exact key 0 (Nat.zero_le _)
theorem c_chanceOfAlike (hX : PX G s x hp) {a b : Nat} (ha : a < 3) (hb : b < 3) : Ct G mX2_chanceOfAlike 3 0 0 [.ref (G.2.2.2 + 0), .int (nI a), .int (nI b)] hp (Qf (some (.int (nI (chN s a b 4)))) hp) := by
  have h0 := hX.1
  have key : ∀ k, k ≤ 4 → Vm G mX2_chanceOfAlike 3 0 0 (Qf (some (.int (nI (chN s a b 4)))) hp) 5 [some (.ref (G.2.2.2 + 0)), some (.int (nI a)), some (.int (nI b)), some (.int (nI (chN s a b k))), some (.int (nI k))] [] hp 0 0 := by
    refine loop_up ?_ (fun k hk ih => ?_)
    · refine v_iload dX2_chanceOfAlike_5 rfl rfl ?_
      refine v_iconst (v := nI 4) dX2_chanceOfAlike_7 (by decide) rfl ?_
      refine v_icmp_geN (tgt := 37) dX2_chanceOfAlike_8 (by decide) rfl (by omega) (by omega) (fun c8 => ?_) (fun c8 => ?_)
      · refine v_iload_n dX2_chanceOfAlike_37 rfl rfl ?_
        exact v_iret dX2_chanceOfAlike_38 rfl ⟨Nat.le_of_ble_eq_true rfl, Nat.le_of_ble_eq_true rfl⟩ (⟨rfl, rfl⟩)
      · exact absurd c8 (by omega)
    · refine v_iload dX2_chanceOfAlike_5 rfl rfl ?_
      refine v_iconst (v := nI 4) dX2_chanceOfAlike_7 (by decide) rfl ?_
      refine v_icmp_geN (tgt := 37) dX2_chanceOfAlike_8 (by decide) rfl (by omega) (by omega) (fun c8 => ?_) (fun c8 => ?_)
      · exact absurd c8 (by omega)
      · refine v_iload_n dX2_chanceOfAlike_11 rfl rfl ?_
        refine v_aload_n dX2_chanceOfAlike_12 rfl rfl ?_
        refine v_iload_n dX2_chanceOfAlike_13 rfl rfl ?_
        refine v_iload_n dX2_chanceOfAlike_14 rfl rfl ?_
        refine v_iload dX2_chanceOfAlike_15 rfl rfl ?_
        refine v_cvf dX2_chanceOfAlike_17 cw_X2_187 ⟨tn_X2_countGave, tl_X2_countGave⟩ rfl (by assumption) (c_countGave G hp hX ha hb k) (by rfl) (by rfl) (Nat.le_of_ble_eq_true rfl) (Nat.le_of_ble_eq_true rfl) (Nat.le_of_ble_eq_true rfl) (Nat.le_of_ble_eq_true rfl) (Nat.le_of_ble_eq_true rfl) rfl ?_
        refine v_aload_n dX2_chanceOfAlike_20 rfl rfl ?_
        refine v_iload_n dX2_chanceOfAlike_21 rfl rfl ?_
        refine v_iload_n dX2_chanceOfAlike_22 rfl rfl ?_
        refine v_iload dX2_chanceOfAlike_23 rfl rfl ?_
        refine v_cvf dX2_chanceOfAlike_25 cw_X2_187 ⟨tn_X2_countGave, tl_X2_countGave⟩ rfl (by assumption) (c_countGave G hp hX hb ha k) (by rfl) (by rfl) (Nat.le_of_ble_eq_true rfl) (Nat.le_of_ble_eq_true rfl) (Nat.le_of_ble_eq_true rfl) (Nat.le_of_ble_eq_true rfl) (Nat.le_of_ble_eq_true rfl) rfl ?_
        refine v_imulN dX2_chanceOfAlike_28 rfl ?_
        refine v_iaddN dX2_chanceOfAlike_29 rfl ?_
        refine v_istore_n dX2_chanceOfAlike_30 (Nat.le_of_ble_eq_true rfl) rfl ?_
        refine v_iinc1 dX2_chanceOfAlike_31 rfl (Nat.le_of_ble_eq_true rfl) rfl ?_
        refine v_goto (tgt := 5) dX2_chanceOfAlike_34 (by decide) ?_
        exact ih
  refine Ct.start 2 (by decide) rfl (Nat.le_of_ble_eq_true rfl) ?_
  refine v_iconst (v := nI 0) dX2_chanceOfAlike_0 (by decide) rfl ?_
  refine v_istore_n dX2_chanceOfAlike_1 (Nat.le_of_ble_eq_true rfl) rfl ?_
  refine v_iconst (v := nI 0) dX2_chanceOfAlike_2 (by decide) rfl ?_
  refine v_istore dX2_chanceOfAlike_3 (Nat.le_of_ble_eq_true rfl) rfl ?_
  exact key 0 (by decide)
theorem c_countMarkedAnchors (hX : PX G s x hp) {m : Nat} (hm : m < 3) : Ct G mX2_countMarkedAnchors 1 0 0 [.ref (G.2.2.2 + 0), .int (nI m)] hp (Qf (some (.int (nI (cnt (offP s m) s.n)))) hp) := by
  obtain ⟨h0, h1, hgl, h2, hgw, h3, h4, h5, h6, hln, hwk, hn, hlen⟩ := hX
  have key : ∀ k, k ≤ s.n → Vm G mX2_countMarkedAnchors 1 0 0 (Qf (some (.int (nI (cnt (offP s m) s.n)))) hp) 4 [some (.ref (G.2.2.2 + 0)), some (.int (nI m)), some (.int (nI (cnt (offP s m) k))), some (.int (nI k))] [] hp 0 0 := by
    refine loop_up ?_ (fun k hk ih => ?_)
    · refine v_iload_n dX2_countMarkedAnchors_4 rfl rfl ?_
      refine v_aload_n dX2_countMarkedAnchors_5 rfl rfl ?_
      refine v_getf dX2_countMarkedAnchors_6 fl_X2_21 (by assumption) (by rfl) rfl ?_
      refine v_icmp_geN (tgt := 46) dX2_countMarkedAnchors_9 (by decide) rfl (by omega) (by omega) (fun c9 => ?_) (fun c9 => ?_)
      · refine v_iload_n dX2_countMarkedAnchors_46 rfl rfl ?_
        exact v_iret dX2_countMarkedAnchors_47 rfl ⟨Nat.le_of_ble_eq_true rfl, Nat.le_of_ble_eq_true rfl⟩ (⟨rfl, rfl⟩)
      · exact absurd c9 (by omega)
    · have hW := hwk k hk
      have l1 := hW.1
      refine v_iload_n dX2_countMarkedAnchors_4 rfl rfl ?_
      refine v_aload_n dX2_countMarkedAnchors_5 rfl rfl ?_
      refine v_getf dX2_countMarkedAnchors_6 fl_X2_21 (by assumption) (by rfl) rfl ?_
      refine v_icmp_geN (tgt := 46) dX2_countMarkedAnchors_9 (by decide) rfl (by omega) (by omega) (fun c9 => ?_) (fun c9 => ?_)
      · exact absurd c9 (by omega)
      · refine v_aload_n dX2_countMarkedAnchors_12 rfl rfl ?_
        refine v_getf dX2_countMarkedAnchors_13 fl_X2_17 (by assumption) (by rfl) rfl ?_
        refine v_iload_n dX2_countMarkedAnchors_16 rfl rfl ?_
        refine v_aaldW _ dX2_countMarkedAnchors_17 (by assumption) rfl (by omega) (by decide) (by rw [hgw _ (by omega)]) rfl ?_
        by_cases q18 : ancP s k
        · refine v_cvf dX2_countMarkedAnchors_18 cw_X2_184 ⟨tn_X1_isAnchor, tl_X1_isAnchor⟩ rfl (by assumption) ((c_isAnchor G hp hW).yes ‹_›) (by rfl) (by rfl) (Nat.le_of_ble_eq_true rfl) (Nat.le_of_ble_eq_true rfl) (Nat.le_of_ble_eq_true rfl) (Nat.le_of_ble_eq_true rfl) (Nat.le_of_ble_eq_true rfl) rfl ?_
          refine v_if_eq (tgt := 40) dX2_countMarkedAnchors_21 (by decide) rfl (fun q => absurd q (by decide)) (fun _ => ?_)
          refine v_aload_n dX2_countMarkedAnchors_24 rfl rfl ?_
          refine v_getf dX2_countMarkedAnchors_25 fl_X2_17 (by assumption) (by rfl) rfl ?_
          refine v_iload_n dX2_countMarkedAnchors_28 rfl rfl ?_
          refine v_aaldW _ dX2_countMarkedAnchors_29 (by assumption) rfl (by omega) (by decide) (by rw [hgw _ (by omega)]) rfl ?_
          refine v_iload_n dX2_countMarkedAnchors_30 rfl rfl ?_
          by_cases q31 : mkdP s m k
          · refine v_cvf dX2_countMarkedAnchors_31 cw_X2_144 ⟨tn_X1_isMarkedBy, tl_X1_isMarkedBy⟩ rfl (by assumption) ((c_isMarkedBy G hp hW hm).yes ‹_›) (by rfl) (by rfl) (Nat.le_of_ble_eq_true rfl) (Nat.le_of_ble_eq_true rfl) (Nat.le_of_ble_eq_true rfl) (Nat.le_of_ble_eq_true rfl) (Nat.le_of_ble_eq_true rfl) rfl ?_
            refine v_if_eq (tgt := 40) dX2_countMarkedAnchors_34 (by decide) rfl (fun q => absurd q (by decide)) (fun _ => ?_)
            refine v_iinc1 dX2_countMarkedAnchors_37 rfl (Nat.le_of_ble_eq_true rfl) rfl ?_
            refine v_iinc1 dX2_countMarkedAnchors_40 rfl (Nat.le_of_ble_eq_true rfl) rfl ?_
            refine v_goto (tgt := 4) dX2_countMarkedAnchors_43 (by decide) ?_
            first | (rw [cnt_t (p := offP s m) (n := k) ⟨‹_›, ‹_›⟩] at ih; exact ih) | (rw [cnt_f (p := offP s m) (n := k) (fun h => absurd h.1 ‹_›)] at ih; exact ih) | (rw [cnt_f (p := offP s m) (n := k) (fun h => absurd h.2 ‹_›)] at ih; exact ih)
          · refine v_cvf dX2_countMarkedAnchors_31 cw_X2_144 ⟨tn_X1_isMarkedBy, tl_X1_isMarkedBy⟩ rfl (by assumption) ((c_isMarkedBy G hp hW hm).no ‹_›) (by rfl) (by rfl) (Nat.le_of_ble_eq_true rfl) (Nat.le_of_ble_eq_true rfl) (Nat.le_of_ble_eq_true rfl) (Nat.le_of_ble_eq_true rfl) (Nat.le_of_ble_eq_true rfl) rfl ?_
            refine v_if_eq (tgt := 40) dX2_countMarkedAnchors_34 (by decide) rfl (fun _ => ?_) (fun q => absurd (by decide) q)
            refine v_iinc1 dX2_countMarkedAnchors_40 rfl (Nat.le_of_ble_eq_true rfl) rfl ?_
            refine v_goto (tgt := 4) dX2_countMarkedAnchors_43 (by decide) ?_
            first | (rw [cnt_t (p := offP s m) (n := k) ⟨‹_›, ‹_›⟩] at ih; exact ih) | (rw [cnt_f (p := offP s m) (n := k) (fun h => absurd h.1 ‹_›)] at ih; exact ih) | (rw [cnt_f (p := offP s m) (n := k) (fun h => absurd h.2 ‹_›)] at ih; exact ih)
        · refine v_cvf dX2_countMarkedAnchors_18 cw_X2_184 ⟨tn_X1_isAnchor, tl_X1_isAnchor⟩ rfl (by assumption) ((c_isAnchor G hp hW).no ‹_›) (by rfl) (by rfl) (Nat.le_of_ble_eq_true rfl) (Nat.le_of_ble_eq_true rfl) (Nat.le_of_ble_eq_true rfl) (Nat.le_of_ble_eq_true rfl) (Nat.le_of_ble_eq_true rfl) rfl ?_
          refine v_if_eq (tgt := 40) dX2_countMarkedAnchors_21 (by decide) rfl (fun _ => ?_) (fun q => absurd (by decide) q)
          refine v_iinc1 dX2_countMarkedAnchors_40 rfl (Nat.le_of_ble_eq_true rfl) rfl ?_
          refine v_goto (tgt := 4) dX2_countMarkedAnchors_43 (by decide) ?_
          first | (rw [cnt_t (p := offP s m) (n := k) ⟨‹_›, ‹_›⟩] at ih; exact ih) | (rw [cnt_f (p := offP s m) (n := k) (fun h => absurd h.1 ‹_›)] at ih; exact ih) | (rw [cnt_f (p := offP s m) (n := k) (fun h => absurd h.2 ‹_›)] at ih; exact ih)
  refine Ct.start 2 (by decide) rfl (Nat.le_of_ble_eq_true rfl) ?_
  refine v_iconst (v := nI 0) dX2_countMarkedAnchors_0 (by decide) rfl ?_
  refine v_istore_n dX2_countMarkedAnchors_1 (Nat.le_of_ble_eq_true rfl) rfl ?_
  refine v_iconst (v := nI 0) dX2_countMarkedAnchors_2 (by decide) rfl ?_
  refine v_istore_n dX2_countMarkedAnchors_3 (Nat.le_of_ble_eq_true rfl) rfl ?_
  exact key 0 (Nat.zero_le _)
theorem c_sumOffAnchors (hX : PX G s x hp) {m : Nat} (hm : m < 3) : Ct G mX2_sumOffAnchors 1 0 0 [.ref (G.2.2.2 + 0), .int (nI m)] hp (Qf (some (.int (offS s m s.n))) hp) := by
  obtain ⟨h0, h1, hgl, h2, hgw, h3, h4, h5, h6, hln, hwk, hn, hlen⟩ := hX
  have key : ∀ k, k ≤ s.n → Vm G mX2_sumOffAnchors 1 0 0 (Qf (some (.int (offS s m s.n))) hp) 4 [some (.ref (G.2.2.2 + 0)), some (.int (nI m)), some (.int (offS s m k)), some (.int (nI k))] [] hp 0 0 := by
    refine loop_up ?_ (fun k hk ih => ?_)
    · refine v_iload_n dX2_sumOffAnchors_4 rfl rfl ?_
      refine v_aload_n dX2_sumOffAnchors_5 rfl rfl ?_
      refine v_getf dX2_sumOffAnchors_6 fl_X2_21 (by assumption) (by rfl) rfl ?_
      refine v_icmp_geN (tgt := 67) dX2_sumOffAnchors_9 (by decide) rfl (by omega) (by omega) (fun c9 => ?_) (fun c9 => ?_)
      · refine v_iload_n dX2_sumOffAnchors_67 rfl rfl ?_
        exact v_iret dX2_sumOffAnchors_68 rfl ⟨Nat.le_of_ble_eq_true rfl, Nat.le_of_ble_eq_true rfl⟩ (⟨rfl, rfl⟩)
      · exact absurd c9 (by omega)
    · have hW := hwk k hk
      obtain ⟨l1, l2, l3⟩ := hwk k hk
      refine v_iload_n dX2_sumOffAnchors_4 rfl rfl ?_
      refine v_aload_n dX2_sumOffAnchors_5 rfl rfl ?_
      refine v_getf dX2_sumOffAnchors_6 fl_X2_21 (by assumption) (by rfl) rfl ?_
      refine v_icmp_geN (tgt := 67) dX2_sumOffAnchors_9 (by decide) rfl (by omega) (by omega) (fun c9 => ?_) (fun c9 => ?_)
      · exact absurd c9 (by omega)
      · refine v_aload_n dX2_sumOffAnchors_12 rfl rfl ?_
        refine v_getf dX2_sumOffAnchors_13 fl_X2_17 (by assumption) (by rfl) rfl ?_
        refine v_iload_n dX2_sumOffAnchors_16 rfl rfl ?_
        refine v_aaldW _ dX2_sumOffAnchors_17 (by assumption) rfl (by omega) (by decide) (by rw [hgw _ (by omega)]) rfl ?_
        by_cases q18 : ancP s k
        · refine v_cvf dX2_sumOffAnchors_18 cw_X2_184 ⟨tn_X1_isAnchor, tl_X1_isAnchor⟩ rfl (by assumption) ((c_isAnchor G hp hW).yes ‹_›) (by rfl) (by rfl) (Nat.le_of_ble_eq_true rfl) (Nat.le_of_ble_eq_true rfl) (Nat.le_of_ble_eq_true rfl) (Nat.le_of_ble_eq_true rfl) (Nat.le_of_ble_eq_true rfl) rfl ?_
          refine v_if_eq (tgt := 61) dX2_sumOffAnchors_21 (by decide) rfl (fun q => absurd q (by decide)) (fun _ => ?_)
          refine v_aload_n dX2_sumOffAnchors_24 rfl rfl ?_
          refine v_getf dX2_sumOffAnchors_25 fl_X2_17 (by assumption) (by rfl) rfl ?_
          refine v_iload_n dX2_sumOffAnchors_28 rfl rfl ?_
          refine v_aaldW _ dX2_sumOffAnchors_29 (by assumption) rfl (by omega) (by decide) (by rw [hgw _ (by omega)]) rfl ?_
          refine v_iload_n dX2_sumOffAnchors_30 rfl rfl ?_
          by_cases q31 : mkdP s m k
          · refine v_cvf dX2_sumOffAnchors_31 cw_X2_144 ⟨tn_X1_isMarkedBy, tl_X1_isMarkedBy⟩ rfl (by assumption) ((c_isMarkedBy G hp hW hm).yes ‹_›) (by rfl) (by rfl) (Nat.le_of_ble_eq_true rfl) (Nat.le_of_ble_eq_true rfl) (Nat.le_of_ble_eq_true rfl) (Nat.le_of_ble_eq_true rfl) (Nat.le_of_ble_eq_true rfl) rfl ?_
            refine v_if_eq (tgt := 61) dX2_sumOffAnchors_34 (by decide) rfl (fun q => absurd q (by decide)) (fun _ => ?_)
            refine v_iload_n dX2_sumOffAnchors_37 rfl rfl ?_
            refine v_aload_n dX2_sumOffAnchors_38 rfl rfl ?_
            refine v_getf dX2_sumOffAnchors_39 fl_X2_17 (by assumption) (by rfl) rfl ?_
            refine v_iload_n dX2_sumOffAnchors_42 rfl rfl ?_
            refine v_aaldW _ dX2_sumOffAnchors_43 (by assumption) rfl (by omega) (by decide) (by rw [hgw _ (by omega)]) rfl ?_
            refine v_getf dX2_sumOffAnchors_44 fl_X2_107 (by assumption) (by rfl) rfl ?_
            refine v_iload_n dX2_sumOffAnchors_47 rfl rfl ?_
            refine v_iald _ dX2_sumOffAnchors_48 (by assumption) rfl (by omega) (by decide) rfl ?_
            refine v_aload_n dX2_sumOffAnchors_49 rfl rfl ?_
            refine v_getf dX2_sumOffAnchors_50 fl_X2_17 (by assumption) (by rfl) rfl ?_
            refine v_iload_n dX2_sumOffAnchors_53 rfl rfl ?_
            refine v_aaldW _ dX2_sumOffAnchors_54 (by assumption) rfl (by omega) (by decide) (by rw [hgw _ (by omega)]) rfl ?_
            refine v_getf dX2_sumOffAnchors_55 fl_X2_135 (by assumption) (by rfl) rfl ?_
            refine v_isub dX2_sumOffAnchors_58 rfl ?_
            refine v_iadd dX2_sumOffAnchors_59 rfl ?_
            refine v_istore_n dX2_sumOffAnchors_60 (Nat.le_of_ble_eq_true rfl) rfl ?_
            refine v_iinc1 dX2_sumOffAnchors_61 rfl (Nat.le_of_ble_eq_true rfl) rfl ?_
            refine v_goto (tgt := 4) dX2_sumOffAnchors_64 (by decide) ?_
            first | (rw [offS_t (k := k) ⟨‹_›, ‹_›⟩] at ih; exact ih) | (rw [offS_f (k := k) (fun h => absurd h.1 ‹_›)] at ih; exact ih) | (rw [offS_f (k := k) (fun h => absurd h.2 ‹_›)] at ih; exact ih)
          · refine v_cvf dX2_sumOffAnchors_31 cw_X2_144 ⟨tn_X1_isMarkedBy, tl_X1_isMarkedBy⟩ rfl (by assumption) ((c_isMarkedBy G hp hW hm).no ‹_›) (by rfl) (by rfl) (Nat.le_of_ble_eq_true rfl) (Nat.le_of_ble_eq_true rfl) (Nat.le_of_ble_eq_true rfl) (Nat.le_of_ble_eq_true rfl) (Nat.le_of_ble_eq_true rfl) rfl ?_
            refine v_if_eq (tgt := 61) dX2_sumOffAnchors_34 (by decide) rfl (fun _ => ?_) (fun q => absurd (by decide) q)
            refine v_iinc1 dX2_sumOffAnchors_61 rfl (Nat.le_of_ble_eq_true rfl) rfl ?_
            refine v_goto (tgt := 4) dX2_sumOffAnchors_64 (by decide) ?_
            first | (rw [offS_t (k := k) ⟨‹_›, ‹_›⟩] at ih; exact ih) | (rw [offS_f (k := k) (fun h => absurd h.1 ‹_›)] at ih; exact ih) | (rw [offS_f (k := k) (fun h => absurd h.2 ‹_›)] at ih; exact ih)
        · refine v_cvf dX2_sumOffAnchors_18 cw_X2_184 ⟨tn_X1_isAnchor, tl_X1_isAnchor⟩ rfl (by assumption) ((c_isAnchor G hp hW).no ‹_›) (by rfl) (by rfl) (Nat.le_of_ble_eq_true rfl) (Nat.le_of_ble_eq_true rfl) (Nat.le_of_ble_eq_true rfl) (Nat.le_of_ble_eq_true rfl) (Nat.le_of_ble_eq_true rfl) rfl ?_
          refine v_if_eq (tgt := 61) dX2_sumOffAnchors_21 (by decide) rfl (fun _ => ?_) (fun q => absurd (by decide) q)
          refine v_iinc1 dX2_sumOffAnchors_61 rfl (Nat.le_of_ble_eq_true rfl) rfl ?_
          refine v_goto (tgt := 4) dX2_sumOffAnchors_64 (by decide) ?_
          first | (rw [offS_t (k := k) ⟨‹_›, ‹_›⟩] at ih; exact ih) | (rw [offS_f (k := k) (fun h => absurd h.1 ‹_›)] at ih; exact ih) | (rw [offS_f (k := k) (fun h => absurd h.2 ‹_›)] at ih; exact ih)
  refine Ct.start 2 (by decide) rfl (Nat.le_of_ble_eq_true rfl) ?_
  refine v_iconst (v := nI 0) dX2_sumOffAnchors_0 (by decide) rfl ?_
  refine v_istore_n dX2_sumOffAnchors_1 (Nat.le_of_ble_eq_true rfl) rfl ?_
  refine v_iconst (v := nI 0) dX2_sumOffAnchors_2 (by decide) rfl ?_
  refine v_istore_n dX2_sumOffAnchors_3 (Nat.le_of_ble_eq_true rfl) rfl ?_
  exact key 0 (Nat.zero_le _)
end CLASS2

