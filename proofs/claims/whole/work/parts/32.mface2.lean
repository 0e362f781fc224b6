-- LOOK: by first | assumption | exact set_get (by assumption) | exact (set_ne (by decide)).trans (by assumption)
/-! THE REFERENCE'S FACE: works, marks -/
section MFACE2
variable (G : GG) (hp : List va_E) {s : ST} {y : YT}
theorem mm_work_y (hM : PM G s y hp) (hn12 : s.n < 12) {a b c d : Int32} (ha : InR a 10) (hb : InR b 10) (hc : InR c 10) (hd : InR d 10) : Ct G mX3_work 1 0 0 [.ref (G.2.2.2 + 31), .int a, .int b, .int c, .int d] hp (QM G hp (nI s.n) (addW s a b c d)) := by
  obtain ⟨m0, m1, m2, m3, m4, m5, m6, m7, m8, m9, m10⟩ := hM.pr
  obtain ⟨hK, hF, hWf, hMk, hTr, hn⟩ := hM.pp
  refine Ct.start 0 (by decide) rfl (Nat.le_of_ble_eq_true rfl) ?_
  refine v_iload_n dX3_work_0 rfl rfl ?_
  refine v_iconst (v := nI 0) dX3_work_1 (by decide) rfl ?_
  refine v_bipush (v := nI 9) dX3_work_2 (by decide) rfl ?_
  refine v_csf dX3_work_4 cw_X3_40 ts_X3_in ((c_in0 G hp a 9 (by decide)).yes ha) (by rfl) (by rfl) (Nat.le_of_ble_eq_true rfl) (Nat.le_of_ble_eq_true rfl) (Nat.le_of_ble_eq_true rfl) (Nat.le_of_ble_eq_true rfl) (Nat.le_of_ble_eq_true rfl) rfl ?_
  refine v_if_eq (tgt := 41) dX3_work_7 (by decide) rfl (fun q => absurd q (by decide)) (fun _ => ?_)
  refine v_iload_n dX3_work_10 rfl rfl ?_
  refine v_iconst (v := nI 0) dX3_work_11 (by decide) rfl ?_
  refine v_bipush (v := nI 9) dX3_work_12 (by decide) rfl ?_
  refine v_csf dX3_work_14 cw_X3_40 ts_X3_in ((c_in0 G hp b 9 (by decide)).yes hb) (by rfl) (by rfl) (Nat.le_of_ble_eq_true rfl) (Nat.le_of_ble_eq_true rfl) (Nat.le_of_ble_eq_true rfl) (Nat.le_of_ble_eq_true rfl) (Nat.le_of_ble_eq_true rfl) rfl ?_
  refine v_if_eq (tgt := 41) dX3_work_17 (by decide) rfl (fun q => absurd q (by decide)) (fun _ => ?_)
  refine v_iload_n dX3_work_20 rfl rfl ?_
  refine v_iconst (v := nI 0) dX3_work_21 (by decide) rfl ?_
  refine v_bipush (v := nI 9) dX3_work_22 (by decide) rfl ?_
  refine v_csf dX3_work_24 cw_X3_40 ts_X3_in ((c_in0 G hp c 9 (by decide)).yes hc) (by rfl) (by rfl) (Nat.le_of_ble_eq_true rfl) (Nat.le_of_ble_eq_true rfl) (Nat.le_of_ble_eq_true rfl) (Nat.le_of_ble_eq_true rfl) (Nat.le_of_ble_eq_true rfl) rfl ?_
  refine v_if_eq (tgt := 41) dX3_work_27 (by decide) rfl (fun q => absurd q (by decide)) (fun _ => ?_)
  refine v_iload dX3_work_30 rfl rfl ?_
  refine v_iconst (v := nI 0) dX3_work_32 (by decide) rfl ?_
  refine v_bipush (v := nI 9) dX3_work_33 (by decide) rfl ?_
  refine v_csf dX3_work_35 cw_X3_40 ts_X3_in ((c_in0 G hp d 9 (by decide)).yes hd) (by rfl) (by rfl) (Nat.le_of_ble_eq_true rfl) (Nat.le_of_ble_eq_true rfl) (Nat.le_of_ble_eq_true rfl) (Nat.le_of_ble_eq_true rfl) (Nat.le_of_ble_eq_true rfl) rfl ?_
  refine v_if_ne (tgt := 44) dX3_work_38 (by decide) rfl (fun _ => ?_) (fun q => absurd q (by decide))
  refine v_aload_n dX3_work_44 rfl rfl ?_
  refine v_getf dX3_work_45 fl_X3_77 (by first | assumption | exact set_get (by assumption) | exact (set_ne (by decide)).trans (by assumption)) (by rfl) rfl ?_
  refine v_bipush (v := nI 12) dX3_work_48 (by decide) rfl ?_
  refine v_icmp_neN (tgt := 57) dX3_work_50 (by decide) rfl (by omega) (by omega) (fun c50 => ?_) (fun c50 => ?_)
  · refine v_aload_n dX3_work_57 rfl rfl ?_
    refine v_getf dX3_work_58 fl_X3_25 (by first | assumption | exact set_get (by assumption) | exact (set_ne (by decide)).trans (by assumption)) (by rfl) rfl ?_
    refine v_iconst (v := nI 4) dX3_work_61 (by decide) rfl ?_
    refine v_aload_n dX3_work_62 rfl rfl ?_
    refine v_getf dX3_work_63 fl_X3_77 (by first | assumption | exact set_get (by assumption) | exact (set_ne (by decide)).trans (by assumption)) (by rfl) rfl ?_
    refine v_imulN dX3_work_66 rfl ?_
    refine v_iload_n dX3_work_67 rfl rfl ?_
    refine v_iast _ dX3_work_68 (by first | assumption | exact set_get (by assumption) | exact (set_ne (by decide)).trans (by assumption)) rfl (by omega) (by decide) rfl ?_
    refine v_aload_n dX3_work_69 rfl rfl ?_
    refine v_getf dX3_work_70 fl_X3_25 ((set_ne (by decide)).trans m0) (by rfl) rfl ?_
    refine v_iconst (v := nI 4) dX3_work_73 (by decide) rfl ?_
    refine v_aload_n dX3_work_74 rfl rfl ?_
    refine v_getf dX3_work_75 fl_X3_77 ((set_ne (by decide)).trans m0) (by rfl) rfl ?_
    refine v_imulN dX3_work_78 rfl ?_
    refine v_iconst (v := nI 1) dX3_work_79 (by decide) rfl ?_
    refine v_iaddN dX3_work_80 rfl ?_
    refine v_iload_n dX3_work_81 rfl rfl ?_
    refine v_iast _ dX3_work_82 (set_get m6) rfl (by omega) (by decide) rfl ?_
    refine v_aload_n dX3_work_83 rfl rfl ?_
    refine v_getf dX3_work_84 fl_X3_25 ((set_ne (by decide)).trans ((set_ne (by decide)).trans m0)) (by rfl) rfl ?_
    refine v_iconst (v := nI 4) dX3_work_87 (by decide) rfl ?_
    refine v_aload_n dX3_work_88 rfl rfl ?_
    refine v_getf dX3_work_89 fl_X3_77 ((set_ne (by decide)).trans ((set_ne (by decide)).trans m0)) (by rfl) rfl ?_
    refine v_imulN dX3_work_92 rfl ?_
    refine v_iconst (v := nI 2) dX3_work_93 (by decide) rfl ?_
    refine v_iaddN dX3_work_94 rfl ?_
    refine v_iload_n dX3_work_95 rfl rfl ?_
    refine v_iast _ dX3_work_96 (set_get (set_get m6)) rfl (by omega) (by decide) rfl ?_
    refine v_aload_n dX3_work_97 rfl rfl ?_
    refine v_getf dX3_work_98 fl_X3_25 ((set_ne (by decide)).trans ((set_ne (by decide)).trans ((set_ne (by decide)).trans m0))) (by rfl) rfl ?_
    refine v_iconst (v := nI 4) dX3_work_101 (by decide) rfl ?_
    refine v_aload_n dX3_work_102 rfl rfl ?_
    refine v_getf dX3_work_103 fl_X3_77 ((set_ne (by decide)).trans ((set_ne (by decide)).trans ((set_ne (by decide)).trans m0))) (by rfl) rfl ?_
    refine v_imulN dX3_work_106 rfl ?_
    refine v_iconst (v := nI 3) dX3_work_107 (by decide) rfl ?_
    refine v_iaddN dX3_work_108 rfl ?_
    refine v_iload dX3_work_109 rfl rfl ?_
    refine v_iast _ dX3_work_111 (set_get (set_get (set_get m6))) rfl (by omega) (by decide) rfl ?_
    refine v_aload_n dX3_work_112 rfl rfl ?_
    refine v_dup dX3_work_113 rfl rfl ?_
    refine v_getf dX3_work_114 fl_X3_77 ((set_ne (by decide)).trans ((set_ne (by decide)).trans ((set_ne (by decide)).trans ((set_ne (by decide)).trans m0)))) (by rfl) rfl ?_
    refine v_iconst (v := nI 1) dX3_work_117 (by decide) rfl ?_
    refine v_iaddN dX3_work_118 rfl ?_
    refine v_putf dX3_work_119 fl_X3_77 ((set_ne (by decide)).trans ((set_ne (by decide)).trans ((set_ne (by decide)).trans ((set_ne (by decide)).trans m0)))) (by rfl) (by rfl) (by exact Nat.le_of_ble_eq_true rfl) rfl ?_
    refine v_aload_n dX3_work_122 rfl rfl ?_
    refine v_getf dX3_work_123 fl_X3_77 (set_get ((set_ne (by decide)).trans ((set_ne (by decide)).trans ((set_ne (by decide)).trans ((set_ne (by decide)).trans m0))))) (by rfl) rfl ?_
    refine v_iconst (v := nI 1) dX3_work_126 (by decide) rfl ?_
    refine v_isubN dX3_work_127 (by omega) rfl ?_
    exact v_iret dX3_work_128 rfl ⟨Nat.le_of_ble_eq_true rfl, Nat.le_of_ble_eq_true rfl⟩ (⟨rfl, ⟨_, PM.of (s := addW s a b c d) (((((hM.pr.setWf _).setWf _).setWf _).setWf _).setO (s.n + 1) s.tc _ _ _) ⟨hK, hF, fun w q i qi => by
          have q : w < s.n + 1 := q
          show upd (upd (upd (upd _ _ _) _ _) _ _) _ _ (4 * w + i) = updF s.wf s.n (wF0 a b c d) w i
          rw [upd_at, upd_at, upd_at, upd_at, updF]
          by_cases ew : w = s.n
          · subst ew
            have h4 : i = 0 ∨ i = 1 ∨ i = 2 ∨ i = 3 := by omega
            rw [if_pos rfl]
            rcases h4 with h4 | h4 | h4 | h4 <;> subst h4
            · rw [if_neg (by omega), if_neg (by omega), if_neg (by omega), if_pos (by omega)]; rfl
            · rw [if_neg (by omega), if_neg (by omega), if_pos (by omega)]; rfl
            · rw [if_neg (by omega), if_pos (by omega)]; rfl
            · rw [if_pos (by omega)]; rfl
          · rw [if_neg (by omega), if_neg (by omega), if_neg (by omega), if_neg (by omega), if_neg ew]; exact hWf w (by omega) i qi, fun m q w qw => by
          refine (hMk m q w qw).trans ?_
          show _ = if w < s.n + 1 then updF s.mr s.n wM0 w m else -900
          by_cases ew : w = s.n
          · subst ew
            rw [if_neg (by omega), if_pos (by omega), updF, if_pos rfl]
            have h3 : m = 0 ∨ m = 1 ∨ m = 2 := by omega
            rcases h3 with h3 | h3 | h3 <;> subst h3 <;> rfl
          · rw [updF, if_neg ew]
            by_cases q : w < s.n
            · rw [if_pos q, if_pos (by omega)]
            · rw [if_neg q, if_neg (by omega)], fun w qw => by
          refine (hTr w qw).trans ?_
          show _ = if w < s.n + 1 then upd s.tr s.n (-900) w else -900
          by_cases ew : w = s.n
          · subst ew
            rw [if_neg (by omega), if_pos (by omega), upd_s]
          · rw [upd_n ew]
            by_cases q : w < s.n
            · rw [if_pos q, if_pos (by omega)]
            · rw [if_neg q, if_neg (by omega)], hn12⟩⟩, ((((FrM.rf.set (by omega)).set (by omega)).set (by omega)).set (by omega)).set (by omega)⟩)
  · exact absurd c50 (by omega)
theorem mm_work_full (hM : PM G s y hp) (hn12 : s.n = 12) {a b c d : Int32} (ha : InR a 10) (hb : InR b 10) (hc : InR c 10) (hd : InR d 10) : Ct G mX3_work 1 0 0 [.ref (G.2.2.2 + 31), .int a, .int b, .int c, .int d] hp (Qf (some (.int (-300))) hp) := by
  have m0 := hM.1
  refine Ct.start 0 (by decide) rfl (Nat.le_of_ble_eq_true rfl) ?_
  refine v_iload_n dX3_work_0 rfl rfl ?_
  refine v_iconst (v := nI 0) dX3_work_1 (by decide) rfl ?_
  refine v_bipush (v := nI 9) dX3_work_2 (by decide) rfl ?_
  refine v_csf dX3_work_4 cw_X3_40 ts_X3_in ((c_in0 G hp a 9 (by decide)).yes ha) (by rfl) (by rfl) (Nat.le_of_ble_eq_true rfl) (Nat.le_of_ble_eq_true rfl) (Nat.le_of_ble_eq_true rfl) (Nat.le_of_ble_eq_true rfl) (Nat.le_of_ble_eq_true rfl) rfl ?_
  refine v_if_eq (tgt := 41) dX3_work_7 (by decide) rfl (fun q => absurd q (by decide)) (fun _ => ?_)
  refine v_iload_n dX3_work_10 rfl rfl ?_
  refine v_iconst (v := nI 0) dX3_work_11 (by decide) rfl ?_
  refine v_bipush (v := nI 9) dX3_work_12 (by decide) rfl ?_
  refine v_csf dX3_work_14 cw_X3_40 ts_X3_in ((c_in0 G hp b 9 (by decide)).yes hb) (by rfl) (by rfl) (Nat.le_of_ble_eq_true rfl) (Nat.le_of_ble_eq_true rfl) (Nat.le_of_ble_eq_true rfl) (Nat.le_of_ble_eq_true rfl) (Nat.le_of_ble_eq_true rfl) rfl ?_
  refine v_if_eq (tgt := 41) dX3_work_17 (by decide) rfl (fun q => absurd q (by decide)) (fun _ => ?_)
  refine v_iload_n dX3_work_20 rfl rfl ?_
  refine v_iconst (v := nI 0) dX3_work_21 (by decide) rfl ?_
  refine v_bipush (v := nI 9) dX3_work_22 (by decide) rfl ?_
  refine v_csf dX3_work_24 cw_X3_40 ts_X3_in ((c_in0 G hp c 9 (by decide)).yes hc) (by rfl) (by rfl) (Nat.le_of_ble_eq_true rfl) (Nat.le_of_ble_eq_true rfl) (Nat.le_of_ble_eq_true rfl) (Nat.le_of_ble_eq_true rfl) (Nat.le_of_ble_eq_true rfl) rfl ?_
  refine v_if_eq (tgt := 41) dX3_work_27 (by decide) rfl (fun q => absurd q (by decide)) (fun _ => ?_)
  refine v_iload dX3_work_30 rfl rfl ?_
  refine v_iconst (v := nI 0) dX3_work_32 (by decide) rfl ?_
  refine v_bipush (v := nI 9) dX3_work_33 (by decide) rfl ?_
  refine v_csf dX3_work_35 cw_X3_40 ts_X3_in ((c_in0 G hp d 9 (by decide)).yes hd) (by rfl) (by rfl) (Nat.le_of_ble_eq_true rfl) (Nat.le_of_ble_eq_true rfl) (Nat.le_of_ble_eq_true rfl) (Nat.le_of_ble_eq_true rfl) (Nat.le_of_ble_eq_true rfl) rfl ?_
  refine v_if_ne (tgt := 44) dX3_work_38 (by decide) rfl (fun _ => ?_) (fun q => absurd q (by decide))
  refine v_aload_n dX3_work_44 rfl rfl ?_
  refine v_getf dX3_work_45 fl_X3_77 (by first | assumption | exact set_get (by assumption) | exact (set_ne (by decide)).trans (by assumption)) (by rfl) rfl ?_
  refine v_bipush (v := nI 12) dX3_work_48 (by decide) rfl ?_
  refine v_icmp_neN (tgt := 57) dX3_work_50 (by decide) rfl (by omega) (by omega) (fun c50 => ?_) (fun c50 => ?_)
  · exact absurd hn12 c50
  · refine v_sipush (v := (-300)) dX3_work_53 (by decide) rfl ?_
    exact v_iret dX3_work_56 rfl ⟨Nat.le_of_ble_eq_true rfl, Nat.le_of_ble_eq_true rfl⟩ (⟨rfl, rfl⟩)
theorem mm_work_n {a b c d : Int32} (h : ¬ (InR a 10 ∧ InR b 10 ∧ InR c 10 ∧ InR d 10)) : Ct G mX3_work 1 0 0 [.ref (G.2.2.2 + 31), .int a, .int b, .int c, .int d] hp (Qf (some (.int (-100))) hp) := by
  refine Ct.start 0 (by decide) rfl (Nat.le_of_ble_eq_true rfl) ?_
  refine v_iload_n dX3_work_0 rfl rfl ?_
  refine v_iconst (v := nI 0) dX3_work_1 (by decide) rfl ?_
  refine v_bipush (v := nI 9) dX3_work_2 (by decide) rfl ?_
  by_cases q4 : InR a 10
  · refine v_csf dX3_work_4 cw_X3_40 ts_X3_in ((c_in0 G hp a 9 (by decide)).yes ‹_›) (by rfl) (by rfl) (Nat.le_of_ble_eq_true rfl) (Nat.le_of_ble_eq_true rfl) (Nat.le_of_ble_eq_true rfl) (Nat.le_of_ble_eq_true rfl) (Nat.le_of_ble_eq_true rfl) rfl ?_
    refine v_if_eq (tgt := 41) dX3_work_7 (by decide) rfl (fun q => absurd q (by decide)) (fun _ => ?_)
    refine v_iload_n dX3_work_10 rfl rfl ?_
    refine v_iconst (v := nI 0) dX3_work_11 (by decide) rfl ?_
    refine v_bipush (v := nI 9) dX3_work_12 (by decide) rfl ?_
    by_cases q14 : InR b 10
    · refine v_csf dX3_work_14 cw_X3_40 ts_X3_in ((c_in0 G hp b 9 (by decide)).yes ‹_›) (by rfl) (by rfl) (Nat.le_of_ble_eq_true rfl) (Nat.le_of_ble_eq_true rfl) (Nat.le_of_ble_eq_true rfl) (Nat.le_of_ble_eq_true rfl) (Nat.le_of_ble_eq_true rfl) rfl ?_
      refine v_if_eq (tgt := 41) dX3_work_17 (by decide) rfl (fun q => absurd q (by decide)) (fun _ => ?_)
      refine v_iload_n dX3_work_20 rfl rfl ?_
      refine v_iconst (v := nI 0) dX3_work_21 (by decide) rfl ?_
      refine v_bipush (v := nI 9) dX3_work_22 (by decide) rfl ?_
      by_cases q24 : InR c 10
      · refine v_csf dX3_work_24 cw_X3_40 ts_X3_in ((c_in0 G hp c 9 (by decide)).yes ‹_›) (by rfl) (by rfl) (Nat.le_of_ble_eq_true rfl) (Nat.le_of_ble_eq_true rfl) (Nat.le_of_ble_eq_true rfl) (Nat.le_of_ble_eq_true rfl) (Nat.le_of_ble_eq_true rfl) rfl ?_
        refine v_if_eq (tgt := 41) dX3_work_27 (by decide) rfl (fun q => absurd q (by decide)) (fun _ => ?_)
        refine v_iload dX3_work_30 rfl rfl ?_
        refine v_iconst (v := nI 0) dX3_work_32 (by decide) rfl ?_
        refine v_bipush (v := nI 9) dX3_work_33 (by decide) rfl ?_
        by_cases q35 : InR d 10
        · refine v_csf dX3_work_35 cw_X3_40 ts_X3_in ((c_in0 G hp d 9 (by decide)).yes ‹_›) (by rfl) (by rfl) (Nat.le_of_ble_eq_true rfl) (Nat.le_of_ble_eq_true rfl) (Nat.le_of_ble_eq_true rfl) (Nat.le_of_ble_eq_true rfl) (Nat.le_of_ble_eq_true rfl) rfl ?_
          refine v_if_ne (tgt := 44) dX3_work_38 (by decide) rfl (fun _ => ?_) (fun q => absurd q (by decide))
          exact absurd ⟨q4, q14, q24, q35⟩ h
        · refine v_csf dX3_work_35 cw_X3_40 ts_X3_in ((c_in0 G hp d 9 (by decide)).no ‹_›) (by rfl) (by rfl) (Nat.le_of_ble_eq_true rfl) (Nat.le_of_ble_eq_true rfl) (Nat.le_of_ble_eq_true rfl) (Nat.le_of_ble_eq_true rfl) (Nat.le_of_ble_eq_true rfl) rfl ?_
          refine v_if_ne (tgt := 44) dX3_work_38 (by decide) rfl (fun q => absurd (by decide) q) (fun _ => ?_)
          refine v_bipush (v := (-100)) dX3_work_41 (by decide) rfl ?_
          exact v_iret dX3_work_43 rfl ⟨Nat.le_of_ble_eq_true rfl, Nat.le_of_ble_eq_true rfl⟩ (⟨rfl, rfl⟩)
      · refine v_csf dX3_work_24 cw_X3_40 ts_X3_in ((c_in0 G hp c 9 (by decide)).no ‹_›) (by rfl) (by rfl) (Nat.le_of_ble_eq_true rfl) (Nat.le_of_ble_eq_true rfl) (Nat.le_of_ble_eq_true rfl) (Nat.le_of_ble_eq_true rfl) (Nat.le_of_ble_eq_true rfl) rfl ?_
        refine v_if_eq (tgt := 41) dX3_work_27 (by decide) rfl (fun _ => ?_) (fun q => absurd (by decide) q)
        refine v_bipush (v := (-100)) dX3_work_41 (by decide) rfl ?_
        exact v_iret dX3_work_43 rfl ⟨Nat.le_of_ble_eq_true rfl, Nat.le_of_ble_eq_true rfl⟩ (⟨rfl, rfl⟩)
    · refine v_csf dX3_work_14 cw_X3_40 ts_X3_in ((c_in0 G hp b 9 (by decide)).no ‹_›) (by rfl) (by rfl) (Nat.le_of_ble_eq_true rfl) (Nat.le_of_ble_eq_true rfl) (Nat.le_of_ble_eq_true rfl) (Nat.le_of_ble_eq_true rfl) (Nat.le_of_ble_eq_true rfl) rfl ?_
      refine v_if_eq (tgt := 41) dX3_work_17 (by decide) rfl (fun _ => ?_) (fun q => absurd (by decide) q)
      refine v_bipush (v := (-100)) dX3_work_41 (by decide) rfl ?_
      exact v_iret dX3_work_43 rfl ⟨Nat.le_of_ble_eq_true rfl, Nat.le_of_ble_eq_true rfl⟩ (⟨rfl, rfl⟩)
  · refine v_csf dX3_work_4 cw_X3_40 ts_X3_in ((c_in0 G hp a 9 (by decide)).no ‹_›) (by rfl) (by rfl) (Nat.le_of_ble_eq_true rfl) (Nat.le_of_ble_eq_true rfl) (Nat.le_of_ble_eq_true rfl) (Nat.le_of_ble_eq_true rfl) (Nat.le_of_ble_eq_true rfl) rfl ?_
    refine v_if_eq (tgt := 41) dX3_work_7 (by decide) rfl (fun _ => ?_) (fun q => absurd (by decide) q)
    refine v_bipush (v := (-100)) dX3_work_41 (by decide) rfl ?_
    exact v_iret dX3_work_43 rfl ⟨Nat.le_of_ble_eq_true rfl, Nat.le_of_ble_eq_true rfl⟩ (⟨rfl, rfl⟩)
theorem mm_fact_y (hM : PM G s y hp) {w i : Nat} (hw : w < s.n) (hi : i < 4) {v : Int32} (hv : InR v 10) : Ct G mX3_fact 2 0 0 [.ref (G.2.2.2 + 31), .int (nI w), .int (nI i), .int v] hp (QM G hp (s.wf w i) (setWf s w i v)) := by
  obtain ⟨m0, m1, m2, m3, m4, m5, m6, m7, m8, m9, m10⟩ := hM.pr
  obtain ⟨hK, hF, hWf, hMk, hTr, hn⟩ := hM.pp
  refine Ct.start 1 (by decide) rfl (Nat.le_of_ble_eq_true rfl) ?_
  refine v_aload_n dX3_fact_0 rfl rfl ?_
  refine v_iload_n dX3_fact_1 rfl rfl ?_
  refine v_cvf dX3_fact_2 cw_X3_81 ⟨tn_X3_isWork, tl_X3_isWork⟩ rfl (by first | assumption | exact set_get (by assumption) | exact (set_ne (by decide)).trans (by assumption)) ((m_isWork G hp hM (nI w)).yes (inR_nI hw (by omega))) (by rfl) (by rfl) (Nat.le_of_ble_eq_true rfl) (Nat.le_of_ble_eq_true rfl) (Nat.le_of_ble_eq_true rfl) (Nat.le_of_ble_eq_true rfl) (Nat.le_of_ble_eq_true rfl) rfl ?_
  refine v_if_eq (tgt := 27) dX3_fact_5 (by decide) rfl (fun q => absurd q (by decide)) (fun _ => ?_)
  refine v_iload_n dX3_fact_8 rfl rfl ?_
  refine v_iconst (v := nI 0) dX3_fact_9 (by decide) rfl ?_
  refine v_iconst (v := nI 3) dX3_fact_10 (by decide) rfl ?_
  refine v_csf dX3_fact_11 cw_X3_40 ts_X3_in ((c_in0 G hp (nI i) 3 (by decide)).yes (inR_nI hi (by decide))) (by rfl) (by rfl) (Nat.le_of_ble_eq_true rfl) (Nat.le_of_ble_eq_true rfl) (Nat.le_of_ble_eq_true rfl) (Nat.le_of_ble_eq_true rfl) (Nat.le_of_ble_eq_true rfl) rfl ?_
  refine v_if_eq (tgt := 27) dX3_fact_14 (by decide) rfl (fun q => absurd q (by decide)) (fun _ => ?_)
  refine v_iload_n dX3_fact_17 rfl rfl ?_
  refine v_iconst (v := nI 0) dX3_fact_18 (by decide) rfl ?_
  refine v_bipush (v := nI 9) dX3_fact_19 (by decide) rfl ?_
  refine v_csf dX3_fact_21 cw_X3_40 ts_X3_in ((c_in0 G hp v 9 (by decide)).yes hv) (by rfl) (by rfl) (Nat.le_of_ble_eq_true rfl) (Nat.le_of_ble_eq_true rfl) (Nat.le_of_ble_eq_true rfl) (Nat.le_of_ble_eq_true rfl) (Nat.le_of_ble_eq_true rfl) rfl ?_
  refine v_if_ne (tgt := 30) dX3_fact_24 (by decide) rfl (fun _ => ?_) (fun q => absurd q (by decide))
  refine v_aload_n dX3_fact_30 rfl rfl ?_
  refine v_getf dX3_fact_31 fl_X3_25 (by first | assumption | exact set_get (by assumption) | exact (set_ne (by decide)).trans (by assumption)) (by rfl) rfl ?_
  refine v_iconst (v := nI 4) dX3_fact_34 (by decide) rfl ?_
  refine v_iload_n dX3_fact_35 rfl rfl ?_
  refine v_imulN dX3_fact_36 rfl ?_
  refine v_iload_n dX3_fact_37 rfl rfl ?_
  refine v_iaddN dX3_fact_38 rfl ?_
  refine v_iald _ dX3_fact_39 (by first | assumption | exact set_get (by assumption) | exact (set_ne (by decide)).trans (by assumption)) rfl (by omega) (by decide) rfl ?_
  refine v_top (y := s.wf w i) (hWf w hw i hi) ?_
  refine v_istore dX3_fact_40 (Nat.le_of_ble_eq_true rfl) rfl ?_
  refine v_aload_n dX3_fact_42 rfl rfl ?_
  refine v_getf dX3_fact_43 fl_X3_25 (by first | assumption | exact set_get (by assumption) | exact (set_ne (by decide)).trans (by assumption)) (by rfl) rfl ?_
  refine v_iconst (v := nI 4) dX3_fact_46 (by decide) rfl ?_
  refine v_iload_n dX3_fact_47 rfl rfl ?_
  refine v_imulN dX3_fact_48 rfl ?_
  refine v_iload_n dX3_fact_49 rfl rfl ?_
  refine v_iaddN dX3_fact_50 rfl ?_
  refine v_iload_n dX3_fact_51 rfl rfl ?_
  refine v_iast _ dX3_fact_52 (by first | assumption | exact set_get (by assumption) | exact (set_ne (by decide)).trans (by assumption)) rfl (by omega) (by decide) rfl ?_
  refine v_iload dX3_fact_53 rfl rfl ?_
  exact v_iret dX3_fact_55 rfl ⟨Nat.le_of_ble_eq_true rfl, Nat.le_of_ble_eq_true rfl⟩ (⟨rfl, ⟨_, PM.of (s := setWf s w i v) (hM.pr.setWf _) ⟨hK, hF, fun w' q i' qi => by
        show upd _ _ _ (4 * w' + i') = updF s.wf w (upd (s.wf w) i v) w' i'
        rw [upd_at, updF]
        by_cases ew : w' = w
        · subst ew
          rw [if_pos rfl, upd_at]
          by_cases ei : i' = i
          · subst ei; rw [if_pos rfl, if_pos rfl]
          · rw [if_neg (by omega), if_neg ei]; exact hWf w' q i' qi
        · rw [if_neg (by omega), if_neg ew]; exact hWf w' q i' qi, hMk, hTr, hn⟩⟩, FrM.rf.set (by omega)⟩)
theorem mm_fact_n (hM : PM G s y hp) {z x v : Int32} (h : ¬ (InR z s.n ∧ InR x 4 ∧ InR v 10)) : Ct G mX3_fact 2 0 0 [.ref (G.2.2.2 + 31), .int z, .int x, .int v] hp (Qf (some (.int (-100))) hp) := by
  have m0 := hM.1
  refine Ct.start 1 (by decide) rfl (Nat.le_of_ble_eq_true rfl) ?_
  refine v_aload_n dX3_fact_0 rfl rfl ?_
  refine v_iload_n dX3_fact_1 rfl rfl ?_
  by_cases q2 : InR z s.n
  · refine v_cvf dX3_fact_2 cw_X3_81 ⟨tn_X3_isWork, tl_X3_isWork⟩ rfl (by first | assumption | exact set_get (by assumption) | exact (set_ne (by decide)).trans (by assumption)) ((m_isWork G hp hM z).yes ‹_›) (by rfl) (by rfl) (Nat.le_of_ble_eq_true rfl) (Nat.le_of_ble_eq_true rfl) (Nat.le_of_ble_eq_true rfl) (Nat.le_of_ble_eq_true rfl) (Nat.le_of_ble_eq_true rfl) rfl ?_
    refine v_if_eq (tgt := 27) dX3_fact_5 (by decide) rfl (fun q => absurd q (by decide)) (fun _ => ?_)
    refine v_iload_n dX3_fact_8 rfl rfl ?_
    refine v_iconst (v := nI 0) dX3_fact_9 (by decide) rfl ?_
    refine v_iconst (v := nI 3) dX3_fact_10 (by decide) rfl ?_
    by_cases q11 : InR x 4
    · refine v_csf dX3_fact_11 cw_X3_40 ts_X3_in ((c_in0 G hp x 3 (by decide)).yes ‹_›) (by rfl) (by rfl) (Nat.le_of_ble_eq_true rfl) (Nat.le_of_ble_eq_true rfl) (Nat.le_of_ble_eq_true rfl) (Nat.le_of_ble_eq_true rfl) (Nat.le_of_ble_eq_true rfl) rfl ?_
      refine v_if_eq (tgt := 27) dX3_fact_14 (by decide) rfl (fun q => absurd q (by decide)) (fun _ => ?_)
      refine v_iload_n dX3_fact_17 rfl rfl ?_
      refine v_iconst (v := nI 0) dX3_fact_18 (by decide) rfl ?_
      refine v_bipush (v := nI 9) dX3_fact_19 (by decide) rfl ?_
      by_cases q21 : InR v 10
      · refine v_csf dX3_fact_21 cw_X3_40 ts_X3_in ((c_in0 G hp v 9 (by decide)).yes ‹_›) (by rfl) (by rfl) (Nat.le_of_ble_eq_true rfl) (Nat.le_of_ble_eq_true rfl) (Nat.le_of_ble_eq_true rfl) (Nat.le_of_ble_eq_true rfl) (Nat.le_of_ble_eq_true rfl) rfl ?_
        refine v_if_ne (tgt := 30) dX3_fact_24 (by decide) rfl (fun _ => ?_) (fun q => absurd q (by decide))
        exact absurd ⟨q2, q11, q21⟩ h
      · refine v_csf dX3_fact_21 cw_X3_40 ts_X3_in ((c_in0 G hp v 9 (by decide)).no ‹_›) (by rfl) (by rfl) (Nat.le_of_ble_eq_true rfl) (Nat.le_of_ble_eq_true rfl) (Nat.le_of_ble_eq_true rfl) (Nat.le_of_ble_eq_true rfl) (Nat.le_of_ble_eq_true rfl) rfl ?_
        refine v_if_ne (tgt := 30) dX3_fact_24 (by decide) rfl (fun q => absurd (by decide) q) (fun _ => ?_)
        refine v_bipush (v := (-100)) dX3_fact_27 (by decide) rfl ?_
        exact v_iret dX3_fact_29 rfl ⟨Nat.le_of_ble_eq_true rfl, Nat.le_of_ble_eq_true rfl⟩ (⟨rfl, rfl⟩)
    · refine v_csf dX3_fact_11 cw_X3_40 ts_X3_in ((c_in0 G hp x 3 (by decide)).no ‹_›) (by rfl) (by rfl) (Nat.le_of_ble_eq_true rfl) (Nat.le_of_ble_eq_true rfl) (Nat.le_of_ble_eq_true rfl) (Nat.le_of_ble_eq_true rfl) (Nat.le_of_ble_eq_true rfl) rfl ?_
      refine v_if_eq (tgt := 27) dX3_fact_14 (by decide) rfl (fun _ => ?_) (fun q => absurd (by decide) q)
      refine v_bipush (v := (-100)) dX3_fact_27 (by decide) rfl ?_
      exact v_iret dX3_fact_29 rfl ⟨Nat.le_of_ble_eq_true rfl, Nat.le_of_ble_eq_true rfl⟩ (⟨rfl, rfl⟩)
  · refine v_cvf dX3_fact_2 cw_X3_81 ⟨tn_X3_isWork, tl_X3_isWork⟩ rfl (by first | assumption | exact set_get (by assumption) | exact (set_ne (by decide)).trans (by assumption)) ((m_isWork G hp hM z).no ‹_›) (by rfl) (by rfl) (Nat.le_of_ble_eq_true rfl) (Nat.le_of_ble_eq_true rfl) (Nat.le_of_ble_eq_true rfl) (Nat.le_of_ble_eq_true rfl) (Nat.le_of_ble_eq_true rfl) rfl ?_
    refine v_if_eq (tgt := 27) dX3_fact_5 (by decide) rfl (fun _ => ?_) (fun q => absurd (by decide) q)
    refine v_bipush (v := (-100)) dX3_fact_27 (by decide) rfl ?_
    exact v_iret dX3_fact_29 rfl ⟨Nat.le_of_ble_eq_true rfl, Nat.le_of_ble_eq_true rfl⟩ (⟨rfl, rfl⟩)
theorem mm_points_y (hM : PM G s y hp) (hI : Inv s) {a w : Nat} (ha : a < 2) (hw : w < s.n) : Ct G mX3_points 6 0 0 [.ref (G.2.2.2 + 31), .int (nI a), .int (nI w)] hp (Qf (some (.int (ptsI s a w 4))) hp) := by
  have m0 := hM.1
  have hn := hI.2.2.2
  refine Ct.start 0 (by decide) rfl (Nat.le_of_ble_eq_true rfl) ?_
  refine v_iload_n dX3_points_0 rfl rfl ?_
  refine v_iconst (v := nI 0) dX3_points_1 (by decide) rfl ?_
  refine v_iconst (v := nI 1) dX3_points_2 (by decide) rfl ?_
  refine v_csf dX3_points_3 cw_X3_40 ts_X3_in ((c_in0 G hp (nI a) 1 (by decide)).yes (inR_nI ha (by decide))) (by rfl) (by rfl) (Nat.le_of_ble_eq_true rfl) (Nat.le_of_ble_eq_true rfl) (Nat.le_of_ble_eq_true rfl) (Nat.le_of_ble_eq_true rfl) (Nat.le_of_ble_eq_true rfl) rfl ?_
  refine v_if_eq (tgt := 26) dX3_points_6 (by decide) rfl (fun q => absurd q (by decide)) (fun _ => ?_)
  refine v_aload_n dX3_points_9 rfl rfl ?_
  refine v_iload_n dX3_points_10 rfl rfl ?_
  refine v_cvf dX3_points_11 cw_X3_81 ⟨tn_X3_isWork, tl_X3_isWork⟩ rfl (by first | assumption | exact set_get (by assumption) | exact (set_ne (by decide)).trans (by assumption)) ((m_isWork G hp hM (nI w)).yes (inR_nI hw (by omega))) (by rfl) (by rfl) (Nat.le_of_ble_eq_true rfl) (Nat.le_of_ble_eq_true rfl) (Nat.le_of_ble_eq_true rfl) (Nat.le_of_ble_eq_true rfl) (Nat.le_of_ble_eq_true rfl) rfl ?_
  refine v_if_eq (tgt := 26) dX3_points_14 (by decide) rfl (fun q => absurd q (by decide)) (fun _ => ?_)
  refine v_aload_n dX3_points_17 rfl rfl ?_
  refine v_iload_n dX3_points_18 rfl rfl ?_
  refine v_iload_n dX3_points_19 rfl rfl ?_
  refine v_cvf dX3_points_20 cw_X3_84 ⟨tn_X3_pointsOf, tl_X3_pointsOf⟩ rfl (by first | assumption | exact set_get (by assumption) | exact (set_ne (by decide)).trans (by assumption)) (m_pointsOf G hp hM hI ha hw) (by rfl) (by rfl) (Nat.le_of_ble_eq_true rfl) (Nat.le_of_ble_eq_true rfl) (Nat.le_of_ble_eq_true rfl) (Nat.le_of_ble_eq_true rfl) (Nat.le_of_ble_eq_true rfl) rfl ?_
  refine v_goto (tgt := 28) dX3_points_23 (by decide) ?_
  exact v_iret dX3_points_28 rfl ⟨Nat.le_of_ble_eq_true rfl, Nat.le_of_ble_eq_true rfl⟩ (⟨rfl, rfl⟩)
theorem mm_points_n (hM : PM G s y hp) {z x : Int32} (h : ¬ (InR z 2 ∧ InR x s.n)) : Ct G mX3_points 6 0 0 [.ref (G.2.2.2 + 31), .int z, .int x] hp (Qf (some (.int (-100))) hp) := by
  have m0 := hM.1
  refine Ct.start 0 (by decide) rfl (Nat.le_of_ble_eq_true rfl) ?_
  refine v_iload_n dX3_points_0 rfl rfl ?_
  refine v_iconst (v := nI 0) dX3_points_1 (by decide) rfl ?_
  refine v_iconst (v := nI 1) dX3_points_2 (by decide) rfl ?_
  by_cases q3 : InR z 2
  · refine v_csf dX3_points_3 cw_X3_40 ts_X3_in ((c_in0 G hp z 1 (by decide)).yes ‹_›) (by rfl) (by rfl) (Nat.le_of_ble_eq_true rfl) (Nat.le_of_ble_eq_true rfl) (Nat.le_of_ble_eq_true rfl) (Nat.le_of_ble_eq_true rfl) (Nat.le_of_ble_eq_true rfl) rfl ?_
    refine v_if_eq (tgt := 26) dX3_points_6 (by decide) rfl (fun q => absurd q (by decide)) (fun _ => ?_)
    refine v_aload_n dX3_points_9 rfl rfl ?_
    refine v_iload_n dX3_points_10 rfl rfl ?_
    by_cases q11 : InR x s.n
    · refine v_cvf dX3_points_11 cw_X3_81 ⟨tn_X3_isWork, tl_X3_isWork⟩ rfl (by first | assumption | exact set_get (by assumption) | exact (set_ne (by decide)).trans (by assumption)) ((m_isWork G hp hM x).yes ‹_›) (by rfl) (by rfl) (Nat.le_of_ble_eq_true rfl) (Nat.le_of_ble_eq_true rfl) (Nat.le_of_ble_eq_true rfl) (Nat.le_of_ble_eq_true rfl) (Nat.le_of_ble_eq_true rfl) rfl ?_
      refine v_if_eq (tgt := 26) dX3_points_14 (by decide) rfl (fun q => absurd q (by decide)) (fun _ => ?_)
      exact absurd ⟨q3, q11⟩ h
    · refine v_cvf dX3_points_11 cw_X3_81 ⟨tn_X3_isWork, tl_X3_isWork⟩ rfl (by first | assumption | exact set_get (by assumption) | exact (set_ne (by decide)).trans (by assumption)) ((m_isWork G hp hM x).no ‹_›) (by rfl) (by rfl) (Nat.le_of_ble_eq_true rfl) (Nat.le_of_ble_eq_true rfl) (Nat.le_of_ble_eq_true rfl) (Nat.le_of_ble_eq_true rfl) (Nat.le_of_ble_eq_true rfl) rfl ?_
      refine v_if_eq (tgt := 26) dX3_points_14 (by decide) rfl (fun _ => ?_) (fun q => absurd (by decide) q)
      refine v_bipush (v := (-100)) dX3_points_26 (by decide) rfl ?_
      exact v_iret dX3_points_28 rfl ⟨Nat.le_of_ble_eq_true rfl, Nat.le_of_ble_eq_true rfl⟩ (⟨rfl, rfl⟩)
  · refine v_csf dX3_points_3 cw_X3_40 ts_X3_in ((c_in0 G hp z 1 (by decide)).no ‹_›) (by rfl) (by rfl) (Nat.le_of_ble_eq_true rfl) (Nat.le_of_ble_eq_true rfl) (Nat.le_of_ble_eq_true rfl) (Nat.le_of_ble_eq_true rfl) (Nat.le_of_ble_eq_true rfl) rfl ?_
    refine v_if_eq (tgt := 26) dX3_points_6 (by decide) rfl (fun _ => ?_) (fun q => absurd (by decide) q)
    refine v_bipush (v := (-100)) dX3_points_26 (by decide) rfl ?_
    exact v_iret dX3_points_28 rfl ⟨Nat.le_of_ble_eq_true rfl, Nat.le_of_ble_eq_true rfl⟩ (⟨rfl, rfl⟩)
theorem mm_mark_y (hM : PM G s y hp) {m w : Nat} (hm : m < 3) (hw : w < s.n) {v : Int32} (hv : v = -900 ∨ InR v 4) : Ct G mX3_mark 2 0 0 [.ref (G.2.2.2 + 31), .int (nI m), .int (nI w), .int v] hp (QM G hp (s.mr w m) (setMr s w m v)) := by
  obtain ⟨m0, m1, m2, m3, m4, m5, m6, m7, m8, m9, m10⟩ := hM.pr
  obtain ⟨hK, hF, hWf, hMk, hTr, hn⟩ := hM.pp
  refine Ct.start 1 (by decide) rfl (Nat.le_of_ble_eq_true rfl) ?_
  refine v_iload_n dX3_mark_0 rfl rfl ?_
  refine v_csf dX3_mark_1 cw_X3_87 ts_X3_isMarker ((c_isMarker G hp (nI m)).yes (inR_nI hm (by decide))) (by rfl) (by rfl) (Nat.le_of_ble_eq_true rfl) (Nat.le_of_ble_eq_true rfl) (Nat.le_of_ble_eq_true rfl) (Nat.le_of_ble_eq_true rfl) (Nat.le_of_ble_eq_true rfl) rfl ?_
  refine v_if_eq (tgt := 22) dX3_mark_4 (by decide) rfl (fun q => absurd q (by decide)) (fun _ => ?_)
  refine v_aload_n dX3_mark_7 rfl rfl ?_
  refine v_iload_n dX3_mark_8 rfl rfl ?_
  refine v_cvf dX3_mark_9 cw_X3_81 ⟨tn_X3_isWork, tl_X3_isWork⟩ rfl (by first | assumption | exact set_get (by assumption) | exact (set_ne (by decide)).trans (by assumption)) ((m_isWork G hp hM (nI w)).yes (inR_nI hw (by omega))) (by rfl) (by rfl) (Nat.le_of_ble_eq_true rfl) (Nat.le_of_ble_eq_true rfl) (Nat.le_of_ble_eq_true rfl) (Nat.le_of_ble_eq_true rfl) (Nat.le_of_ble_eq_true rfl) rfl ?_
  refine v_if_eq (tgt := 22) dX3_mark_12 (by decide) rfl (fun q => absurd q (by decide)) (fun _ => ?_)
  refine v_iload_n dX3_mark_15 rfl rfl ?_
  refine v_csf dX3_mark_16 cw_X3_90 ts_X3_isMark ((c_isMark G hp v).yes hv) (by rfl) (by rfl) (Nat.le_of_ble_eq_true rfl) (Nat.le_of_ble_eq_true rfl) (Nat.le_of_ble_eq_true rfl) (Nat.le_of_ble_eq_true rfl) (Nat.le_of_ble_eq_true rfl) rfl ?_
  refine v_if_ne (tgt := 25) dX3_mark_19 (by decide) rfl (fun _ => ?_) (fun q => absurd q (by decide))
  refine v_aload_n dX3_mark_25 rfl rfl ?_
  refine v_getf dX3_mark_26 fl_X3_28 (by first | assumption | exact set_get (by assumption) | exact (set_ne (by decide)).trans (by assumption)) (by rfl) rfl ?_
  refine v_bipush (v := nI 12) dX3_mark_29 (by decide) rfl ?_
  refine v_iload_n dX3_mark_31 rfl rfl ?_
  refine v_imulN dX3_mark_32 rfl ?_
  refine v_iload_n dX3_mark_33 rfl rfl ?_
  refine v_iaddN dX3_mark_34 rfl ?_
  refine v_iald _ dX3_mark_35 (by first | assumption | exact set_get (by assumption) | exact (set_ne (by decide)).trans (by assumption)) rfl (by omega) (by decide) rfl ?_
  refine v_top (y := s.mr w m) ((hMk m hm w (by omega)).trans (if_pos hw)) ?_
  refine v_istore dX3_mark_36 (Nat.le_of_ble_eq_true rfl) rfl ?_
  refine v_aload_n dX3_mark_38 rfl rfl ?_
  refine v_getf dX3_mark_39 fl_X3_28 (by first | assumption | exact set_get (by assumption) | exact (set_ne (by decide)).trans (by assumption)) (by rfl) rfl ?_
  refine v_bipush (v := nI 12) dX3_mark_42 (by decide) rfl ?_
  refine v_iload_n dX3_mark_44 rfl rfl ?_
  refine v_imulN dX3_mark_45 rfl ?_
  refine v_iload_n dX3_mark_46 rfl rfl ?_
  refine v_iaddN dX3_mark_47 rfl ?_
  refine v_iload_n dX3_mark_48 rfl rfl ?_
  refine v_iast _ dX3_mark_49 (by first | assumption | exact set_get (by assumption) | exact (set_ne (by decide)).trans (by assumption)) rfl (by omega) (by decide) rfl ?_
  refine v_iload dX3_mark_50 rfl rfl ?_
  exact v_iret dX3_mark_52 rfl ⟨Nat.le_of_ble_eq_true rfl, Nat.le_of_ble_eq_true rfl⟩ (⟨rfl, ⟨_, PM.of (s := setMr s w m v) (hM.pr.setMk _) ⟨hK, hF, hWf, fun m' q w' qw => by
        show upd _ _ _ (12 * m' + w') = if w' < s.n then updF s.mr w (upd (s.mr w) m v) w' m' else -900
        rw [upd_at, updF]
        by_cases ew : w' = w
        · subst ew
          rw [if_pos hw, if_pos rfl, upd_at]
          by_cases ei : m' = m
          · subst ei; rw [if_pos rfl, if_pos rfl]
          · rw [if_neg (by omega), if_neg ei]; exact (hMk m' q w' qw).trans (if_pos hw)
        · rw [if_neg (by omega), if_neg ew]; exact hMk m' q w' qw, hTr, hn⟩⟩, FrM.rf.set (by omega)⟩)
theorem mm_mark_n (hM : PM G s y hp) {z x v : Int32} (h : ¬ (InR z 3 ∧ InR x s.n ∧ (v = -900 ∨ InR v 4))) : Ct G mX3_mark 2 0 0 [.ref (G.2.2.2 + 31), .int z, .int x, .int v] hp (Qf (some (.int (-100))) hp) := by
  have m0 := hM.1
  refine Ct.start 1 (by decide) rfl (Nat.le_of_ble_eq_true rfl) ?_
  refine v_iload_n dX3_mark_0 rfl rfl ?_
  by_cases q1 : InR z 3
  · refine v_csf dX3_mark_1 cw_X3_87 ts_X3_isMarker ((c_isMarker G hp z).yes ‹_›) (by rfl) (by rfl) (Nat.le_of_ble_eq_true rfl) (Nat.le_of_ble_eq_true rfl) (Nat.le_of_ble_eq_true rfl) (Nat.le_of_ble_eq_true rfl) (Nat.le_of_ble_eq_true rfl) rfl ?_
    refine v_if_eq (tgt := 22) dX3_mark_4 (by decide) rfl (fun q => absurd q (by decide)) (fun _ => ?_)
    refine v_aload_n dX3_mark_7 rfl rfl ?_
    refine v_iload_n dX3_mark_8 rfl rfl ?_
    by_cases q9 : InR x s.n
    · refine v_cvf dX3_mark_9 cw_X3_81 ⟨tn_X3_isWork, tl_X3_isWork⟩ rfl (by first | assumption | exact set_get (by assumption) | exact (set_ne (by decide)).trans (by assumption)) ((m_isWork G hp hM x).yes ‹_›) (by rfl) (by rfl) (Nat.le_of_ble_eq_true rfl) (Nat.le_of_ble_eq_true rfl) (Nat.le_of_ble_eq_true rfl) (Nat.le_of_ble_eq_true rfl) (Nat.le_of_ble_eq_true rfl) rfl ?_
      refine v_if_eq (tgt := 22) dX3_mark_12 (by decide) rfl (fun q => absurd q (by decide)) (fun _ => ?_)
      refine v_iload_n dX3_mark_15 rfl rfl ?_
      by_cases q16 : v = -900 ∨ InR v 4
      · refine v_csf dX3_mark_16 cw_X3_90 ts_X3_isMark ((c_isMark G hp v).yes ‹_›) (by rfl) (by rfl) (Nat.le_of_ble_eq_true rfl) (Nat.le_of_ble_eq_true rfl) (Nat.le_of_ble_eq_true rfl) (Nat.le_of_ble_eq_true rfl) (Nat.le_of_ble_eq_true rfl) rfl ?_
        refine v_if_ne (tgt := 25) dX3_mark_19 (by decide) rfl (fun _ => ?_) (fun q => absurd q (by decide))
        exact absurd ⟨q1, q9, q16⟩ h
      · refine v_csf dX3_mark_16 cw_X3_90 ts_X3_isMark ((c_isMark G hp v).no ‹_›) (by rfl) (by rfl) (Nat.le_of_ble_eq_true rfl) (Nat.le_of_ble_eq_true rfl) (Nat.le_of_ble_eq_true rfl) (Nat.le_of_ble_eq_true rfl) (Nat.le_of_ble_eq_true rfl) rfl ?_
        refine v_if_ne (tgt := 25) dX3_mark_19 (by decide) rfl (fun q => absurd (by decide) q) (fun _ => ?_)
        refine v_bipush (v := (-100)) dX3_mark_22 (by decide) rfl ?_
        exact v_iret dX3_mark_24 rfl ⟨Nat.le_of_ble_eq_true rfl, Nat.le_of_ble_eq_true rfl⟩ (⟨rfl, rfl⟩)
    · refine v_cvf dX3_mark_9 cw_X3_81 ⟨tn_X3_isWork, tl_X3_isWork⟩ rfl (by first | assumption | exact set_get (by assumption) | exact (set_ne (by decide)).trans (by assumption)) ((m_isWork G hp hM x).no ‹_›) (by rfl) (by rfl) (Nat.le_of_ble_eq_true rfl) (Nat.le_of_ble_eq_true rfl) (Nat.le_of_ble_eq_true rfl) (Nat.le_of_ble_eq_true rfl) (Nat.le_of_ble_eq_true rfl) rfl ?_
      refine v_if_eq (tgt := 22) dX3_mark_12 (by decide) rfl (fun _ => ?_) (fun q => absurd (by decide) q)
      refine v_bipush (v := (-100)) dX3_mark_22 (by decide) rfl ?_
      exact v_iret dX3_mark_24 rfl ⟨Nat.le_of_ble_eq_true rfl, Nat.le_of_ble_eq_true rfl⟩ (⟨rfl, rfl⟩)
  · refine v_csf dX3_mark_1 cw_X3_87 ts_X3_isMarker ((c_isMarker G hp z).no ‹_›) (by rfl) (by rfl) (Nat.le_of_ble_eq_true rfl) (Nat.le_of_ble_eq_true rfl) (Nat.le_of_ble_eq_true rfl) (Nat.le_of_ble_eq_true rfl) (Nat.le_of_ble_eq_true rfl) rfl ?_
    refine v_if_eq (tgt := 22) dX3_mark_4 (by decide) rfl (fun _ => ?_) (fun q => absurd (by decide) q)
    refine v_bipush (v := (-100)) dX3_mark_22 (by decide) rfl ?_
    exact v_iret dX3_mark_24 rfl ⟨Nat.le_of_ble_eq_true rfl, Nat.le_of_ble_eq_true rfl⟩ (⟨rfl, rfl⟩)
theorem mm_given_y (hM : PM G s y hp) {m w : Nat} (hm : m < 3) (hw : w < s.n) : Ct G mX3_given 2 0 0 [.ref (G.2.2.2 + 31), .int (nI m), .int (nI w)] hp (Qf (some (.int (s.mr w m))) hp) := by
  obtain ⟨m0, m1, m2, m3, m4, m5, m6, m7, m8, m9, m10⟩ := hM.pr
  obtain ⟨hK, hF, hWf, hMk, hTr, hn⟩ := hM.pp
  refine Ct.start 0 (by decide) rfl (Nat.le_of_ble_eq_true rfl) ?_
  refine v_iload_n dX3_given_0 rfl rfl ?_
  refine v_csf dX3_given_1 cw_X3_87 ts_X3_isMarker ((c_isMarker G hp (nI m)).yes (inR_nI hm (by decide))) (by rfl) (by rfl) (Nat.le_of_ble_eq_true rfl) (Nat.le_of_ble_eq_true rfl) (Nat.le_of_ble_eq_true rfl) (Nat.le_of_ble_eq_true rfl) (Nat.le_of_ble_eq_true rfl) rfl ?_
  refine v_if_eq (tgt := 29) dX3_given_4 (by decide) rfl (fun q => absurd q (by decide)) (fun _ => ?_)
  refine v_aload_n dX3_given_7 rfl rfl ?_
  refine v_iload_n dX3_given_8 rfl rfl ?_
  refine v_cvf dX3_given_9 cw_X3_81 ⟨tn_X3_isWork, tl_X3_isWork⟩ rfl (by first | assumption | exact set_get (by assumption) | exact (set_ne (by decide)).trans (by assumption)) ((m_isWork G hp hM (nI w)).yes (inR_nI hw (by omega))) (by rfl) (by rfl) (Nat.le_of_ble_eq_true rfl) (Nat.le_of_ble_eq_true rfl) (Nat.le_of_ble_eq_true rfl) (Nat.le_of_ble_eq_true rfl) (Nat.le_of_ble_eq_true rfl) rfl ?_
  refine v_if_eq (tgt := 29) dX3_given_12 (by decide) rfl (fun q => absurd q (by decide)) (fun _ => ?_)
  refine v_aload_n dX3_given_15 rfl rfl ?_
  refine v_getf dX3_given_16 fl_X3_28 (by first | assumption | exact set_get (by assumption) | exact (set_ne (by decide)).trans (by assumption)) (by rfl) rfl ?_
  refine v_bipush (v := nI 12) dX3_given_19 (by decide) rfl ?_
  refine v_iload_n dX3_given_21 rfl rfl ?_
  refine v_imulN dX3_given_22 rfl ?_
  refine v_iload_n dX3_given_23 rfl rfl ?_
  refine v_iaddN dX3_given_24 rfl ?_
  refine v_iald _ dX3_given_25 (by first | assumption | exact set_get (by assumption) | exact (set_ne (by decide)).trans (by assumption)) rfl (by omega) (by decide) rfl ?_
  refine v_top (y := s.mr w m) ((hMk m hm w (by omega)).trans (if_pos hw)) ?_
  refine v_goto (tgt := 31) dX3_given_26 (by decide) ?_
  exact v_iret dX3_given_31 rfl ⟨Nat.le_of_ble_eq_true rfl, Nat.le_of_ble_eq_true rfl⟩ (⟨rfl, rfl⟩)
theorem mm_given_n (hM : PM G s y hp) {z x : Int32} (h : ¬ (InR z 3 ∧ InR x s.n)) : Ct G mX3_given 2 0 0 [.ref (G.2.2.2 + 31), .int z, .int x] hp (Qf (some (.int (-100))) hp) := by
  have m0 := hM.1
  refine Ct.start 0 (by decide) rfl (Nat.le_of_ble_eq_true rfl) ?_
  refine v_iload_n dX3_given_0 rfl rfl ?_
  by_cases q1 : InR z 3
  · refine v_csf dX3_given_1 cw_X3_87 ts_X3_isMarker ((c_isMarker G hp z).yes ‹_›) (by rfl) (by rfl) (Nat.le_of_ble_eq_true rfl) (Nat.le_of_ble_eq_true rfl) (Nat.le_of_ble_eq_true rfl) (Nat.le_of_ble_eq_true rfl) (Nat.le_of_ble_eq_true rfl) rfl ?_
    refine v_if_eq (tgt := 29) dX3_given_4 (by decide) rfl (fun q => absurd q (by decide)) (fun _ => ?_)
    refine v_aload_n dX3_given_7 rfl rfl ?_
    refine v_iload_n dX3_given_8 rfl rfl ?_
    by_cases q9 : InR x s.n
    · refine v_cvf dX3_given_9 cw_X3_81 ⟨tn_X3_isWork, tl_X3_isWork⟩ rfl (by first | assumption | exact set_get (by assumption) | exact (set_ne (by decide)).trans (by assumption)) ((m_isWork G hp hM x).yes ‹_›) (by rfl) (by rfl) (Nat.le_of_ble_eq_true rfl) (Nat.le_of_ble_eq_true rfl) (Nat.le_of_ble_eq_true rfl) (Nat.le_of_ble_eq_true rfl) (Nat.le_of_ble_eq_true rfl) rfl ?_
      refine v_if_eq (tgt := 29) dX3_given_12 (by decide) rfl (fun q => absurd q (by decide)) (fun _ => ?_)
      exact absurd ⟨q1, q9⟩ h
    · refine v_cvf dX3_given_9 cw_X3_81 ⟨tn_X3_isWork, tl_X3_isWork⟩ rfl (by first | assumption | exact set_get (by assumption) | exact (set_ne (by decide)).trans (by assumption)) ((m_isWork G hp hM x).no ‹_›) (by rfl) (by rfl) (Nat.le_of_ble_eq_true rfl) (Nat.le_of_ble_eq_true rfl) (Nat.le_of_ble_eq_true rfl) (Nat.le_of_ble_eq_true rfl) (Nat.le_of_ble_eq_true rfl) rfl ?_
      refine v_if_eq (tgt := 29) dX3_given_12 (by decide) rfl (fun _ => ?_) (fun q => absurd (by decide) q)
      refine v_bipush (v := (-100)) dX3_given_29 (by decide) rfl ?_
      exact v_iret dX3_given_31 rfl ⟨Nat.le_of_ble_eq_true rfl, Nat.le_of_ble_eq_true rfl⟩ (⟨rfl, rfl⟩)
  · refine v_csf dX3_given_1 cw_X3_87 ts_X3_isMarker ((c_isMarker G hp z).no ‹_›) (by rfl) (by rfl) (Nat.le_of_ble_eq_true rfl) (Nat.le_of_ble_eq_true rfl) (Nat.le_of_ble_eq_true rfl) (Nat.le_of_ble_eq_true rfl) (Nat.le_of_ble_eq_true rfl) rfl ?_
    refine v_if_eq (tgt := 29) dX3_given_4 (by decide) rfl (fun _ => ?_) (fun q => absurd (by decide) q)
    refine v_bipush (v := (-100)) dX3_given_29 (by decide) rfl ?_
    exact v_iret dX3_given_31 rfl ⟨Nat.le_of_ble_eq_true rfl, Nat.le_of_ble_eq_true rfl⟩ (⟨rfl, rfl⟩)
theorem mm_anchor_y (hM : PM G s y hp) {w : Nat} (hw : w < s.n) {v : Int32} (hv : v = -900 ∨ InR v 4) : Ct G mX3_anchor 2 0 0 [.ref (G.2.2.2 + 31), .int (nI w), .int v] hp (QM G hp (s.tr w) (setTr s w v)) := by
  obtain ⟨m0, m1, m2, m3, m4, m5, m6, m7, m8, m9, m10⟩ := hM.pr
  obtain ⟨hK, hF, hWf, hMk, hTr, hn⟩ := hM.pp
  refine Ct.start 1 (by decide) rfl (Nat.le_of_ble_eq_true rfl) ?_
  refine v_aload_n dX3_anchor_0 rfl rfl ?_
  refine v_iload_n dX3_anchor_1 rfl rfl ?_
  refine v_cvf dX3_anchor_2 cw_X3_81 ⟨tn_X3_isWork, tl_X3_isWork⟩ rfl (by first | assumption | exact set_get (by assumption) | exact (set_ne (by decide)).trans (by assumption)) ((m_isWork G hp hM (nI w)).yes (inR_nI hw (by omega))) (by rfl) (by rfl) (Nat.le_of_ble_eq_true rfl) (Nat.le_of_ble_eq_true rfl) (Nat.le_of_ble_eq_true rfl) (Nat.le_of_ble_eq_true rfl) (Nat.le_of_ble_eq_true rfl) rfl ?_
  refine v_if_eq (tgt := 15) dX3_anchor_5 (by decide) rfl (fun q => absurd q (by decide)) (fun _ => ?_)
  refine v_iload_n dX3_anchor_8 rfl rfl ?_
  refine v_csf dX3_anchor_9 cw_X3_90 ts_X3_isMark ((c_isMark G hp v).yes hv) (by rfl) (by rfl) (Nat.le_of_ble_eq_true rfl) (Nat.le_of_ble_eq_true rfl) (Nat.le_of_ble_eq_true rfl) (Nat.le_of_ble_eq_true rfl) (Nat.le_of_ble_eq_true rfl) rfl ?_
  refine v_if_ne (tgt := 18) dX3_anchor_12 (by decide) rfl (fun _ => ?_) (fun q => absurd q (by decide))
  refine v_aload_n dX3_anchor_18 rfl rfl ?_
  refine v_getf dX3_anchor_19 fl_X3_31 (by first | assumption | exact set_get (by assumption) | exact (set_ne (by decide)).trans (by assumption)) (by rfl) rfl ?_
  refine v_iload_n dX3_anchor_22 rfl rfl ?_
  refine v_iald _ dX3_anchor_23 (by first | assumption | exact set_get (by assumption) | exact (set_ne (by decide)).trans (by assumption)) rfl (by omega) (by decide) rfl ?_
  refine v_top (y := s.tr w) ((hTr w (by omega)).trans (if_pos hw)) ?_
  refine v_istore_n dX3_anchor_24 (Nat.le_of_ble_eq_true rfl) rfl ?_
  refine v_aload_n dX3_anchor_25 rfl rfl ?_
  refine v_getf dX3_anchor_26 fl_X3_31 (by first | assumption | exact set_get (by assumption) | exact (set_ne (by decide)).trans (by assumption)) (by rfl) rfl ?_
  refine v_iload_n dX3_anchor_29 rfl rfl ?_
  refine v_iload_n dX3_anchor_30 rfl rfl ?_
  refine v_iast _ dX3_anchor_31 (by first | assumption | exact set_get (by assumption) | exact (set_ne (by decide)).trans (by assumption)) rfl (by omega) (by decide) rfl ?_
  refine v_iload_n dX3_anchor_32 rfl rfl ?_
  exact v_iret dX3_anchor_33 rfl ⟨Nat.le_of_ble_eq_true rfl, Nat.le_of_ble_eq_true rfl⟩ (⟨rfl, ⟨_, PM.of (s := setTr s w v) (hM.pr.setTr _) ⟨hK, hF, hWf, hMk, fun w' qw => by
        show upd _ _ _ w' = if w' < s.n then upd s.tr w v w' else -900
        rw [upd_at, upd_at]
        by_cases ew : w' = w
        · subst ew
          rw [if_pos rfl, if_pos hw, if_pos rfl]
        · rw [if_neg ew, if_neg ew]; exact hTr w' qw, hn⟩⟩, FrM.rf.set (by omega)⟩)
theorem mm_anchor_n (hM : PM G s y hp) {x v : Int32} (h : ¬ (InR x s.n ∧ (v = -900 ∨ InR v 4))) : Ct G mX3_anchor 2 0 0 [.ref (G.2.2.2 + 31), .int x, .int v] hp (Qf (some (.int (-100))) hp) := by
  have m0 := hM.1
  refine Ct.start 1 (by decide) rfl (Nat.le_of_ble_eq_true rfl) ?_
  refine v_aload_n dX3_anchor_0 rfl rfl ?_
  refine v_iload_n dX3_anchor_1 rfl rfl ?_
  by_cases q2 : InR x s.n
  · refine v_cvf dX3_anchor_2 cw_X3_81 ⟨tn_X3_isWork, tl_X3_isWork⟩ rfl (by first | assumption | exact set_get (by assumption) | exact (set_ne (by decide)).trans (by assumption)) ((m_isWork G hp hM x).yes ‹_›) (by rfl) (by rfl) (Nat.le_of_ble_eq_true rfl) (Nat.le_of_ble_eq_true rfl) (Nat.le_of_ble_eq_true rfl) (Nat.le_of_ble_eq_true rfl) (Nat.le_of_ble_eq_true rfl) rfl ?_
    refine v_if_eq (tgt := 15) dX3_anchor_5 (by decide) rfl (fun q => absurd q (by decide)) (fun _ => ?_)
    refine v_iload_n dX3_anchor_8 rfl rfl ?_
    by_cases q9 : v = -900 ∨ InR v 4
    · refine v_csf dX3_anchor_9 cw_X3_90 ts_X3_isMark ((c_isMark G hp v).yes ‹_›) (by rfl) (by rfl) (Nat.le_of_ble_eq_true rfl) (Nat.le_of_ble_eq_true rfl) (Nat.le_of_ble_eq_true rfl) (Nat.le_of_ble_eq_true rfl) (Nat.le_of_ble_eq_true rfl) rfl ?_
      refine v_if_ne (tgt := 18) dX3_anchor_12 (by decide) rfl (fun _ => ?_) (fun q => absurd q (by decide))
      exact absurd ⟨q2, q9⟩ h
    · refine v_csf dX3_anchor_9 cw_X3_90 ts_X3_isMark ((c_isMark G hp v).no ‹_›) (by rfl) (by rfl) (Nat.le_of_ble_eq_true rfl) (Nat.le_of_ble_eq_true rfl) (Nat.le_of_ble_eq_true rfl) (Nat.le_of_ble_eq_true rfl) (Nat.le_of_ble_eq_true rfl) rfl ?_
      refine v_if_ne (tgt := 18) dX3_anchor_12 (by decide) rfl (fun q => absurd (by decide) q) (fun _ => ?_)
      refine v_bipush (v := (-100)) dX3_anchor_15 (by decide) rfl ?_
      exact v_iret dX3_anchor_17 rfl ⟨Nat.le_of_ble_eq_true rfl, Nat.le_of_ble_eq_true rfl⟩ (⟨rfl, rfl⟩)
  · refine v_cvf dX3_anchor_2 cw_X3_81 ⟨tn_X3_isWork, tl_X3_isWork⟩ rfl (by first | assumption | exact set_get (by assumption) | exact (set_ne (by decide)).trans (by assumption)) ((m_isWork G hp hM x).no ‹_›) (by rfl) (by rfl) (Nat.le_of_ble_eq_true rfl) (Nat.le_of_ble_eq_true rfl) (Nat.le_of_ble_eq_true rfl) (Nat.le_of_ble_eq_true rfl) (Nat.le_of_ble_eq_true rfl) rfl ?_
    refine v_if_eq (tgt := 15) dX3_anchor_5 (by decide) rfl (fun _ => ?_) (fun q => absurd (by decide) q)
    refine v_bipush (v := (-100)) dX3_anchor_15 (by decide) rfl ?_
    exact v_iret dX3_anchor_17 rfl ⟨Nat.le_of_ble_eq_true rfl, Nat.le_of_ble_eq_true rfl⟩ (⟨rfl, rfl⟩)
theorem m_both (hM : PM G s y hp) {a b w : Nat} (ha : a < 3) (hb : b < 3) (hw : w < s.n) : Ct G mX3_both 0 0 0 [.ref (G.2.2.2 + 31), .int (nI a), .int (nI b), .int (nI w)] hp (Qf (some (.int (bP (bothP s a b w)))) hp) := by
  obtain ⟨m0, m1, m2, m3, m4, m5, m6, m7, m8, m9, m10⟩ := hM.pr
  obtain ⟨hK, hF, hWf, hMk, hTr, hn⟩ := hM.pp
  refine Ct.start 0 (by decide) rfl (Nat.le_of_ble_eq_true rfl) ?_
  refine v_aload_n dX3_both_0 rfl rfl ?_
  refine v_getf dX3_both_1 fl_X3_28 (by first | assumption | exact set_get (by assumption) | exact (set_ne (by decide)).trans (by assumption)) (by rfl) rfl ?_
  refine v_bipush (v := nI 12) dX3_both_4 (by decide) rfl ?_
  refine v_iload_n dX3_both_6 rfl rfl ?_
  refine v_imulN dX3_both_7 rfl ?_
  refine v_iload_n dX3_both_8 rfl rfl ?_
  refine v_iaddN dX3_both_9 rfl ?_
  refine v_iald _ dX3_both_10 (by first | assumption | exact set_get (by assumption) | exact (set_ne (by decide)).trans (by assumption)) rfl (by omega) (by decide) rfl ?_
  refine v_top (y := s.mr w a) ((hMk a ha w (by omega)).trans (if_pos hw)) ?_
  refine v_sipush (v := (-900)) dX3_both_11 (by decide) rfl ?_
  refine v_icmp_eq (tgt := 38) dX3_both_14 (by decide) rfl (fun c14 => ?_) (fun c14 => ?_)
  · refine v_iconst (v := nI 0) dX3_both_38 (by decide) rfl ?_
    exact v_zret dX3_both_39 rfl (by rfl) ⟨Nat.le_of_ble_eq_true rfl, Nat.le_of_ble_eq_true rfl⟩ (⟨by first | (rw [bP_t ⟨‹_›, ‹_›⟩]; done) | (rw [bP_f (fun h => h.1 ‹_›)]; done) | (rw [bP_f (fun h => h.2 ‹_›)]; done), rfl⟩)
  · refine v_aload_n dX3_both_17 rfl rfl ?_
    refine v_getf dX3_both_18 fl_X3_28 (by first | assumption | exact set_get (by assumption) | exact (set_ne (by decide)).trans (by assumption)) (by rfl) rfl ?_
    refine v_bipush (v := nI 12) dX3_both_21 (by decide) rfl ?_
    refine v_iload_n dX3_both_23 rfl rfl ?_
    refine v_imulN dX3_both_24 rfl ?_
    refine v_iload_n dX3_both_25 rfl rfl ?_
    refine v_iaddN dX3_both_26 rfl ?_
    refine v_iald _ dX3_both_27 (by first | assumption | exact set_get (by assumption) | exact (set_ne (by decide)).trans (by assumption)) rfl (by omega) (by decide) rfl ?_
    refine v_top (y := s.mr w b) ((hMk b hb w (by omega)).trans (if_pos hw)) ?_
    refine v_sipush (v := (-900)) dX3_both_28 (by decide) rfl ?_
    refine v_icmp_eq (tgt := 38) dX3_both_31 (by decide) rfl (fun c31 => ?_) (fun c31 => ?_)
    · refine v_iconst (v := nI 0) dX3_both_38 (by decide) rfl ?_
      exact v_zret dX3_both_39 rfl (by rfl) ⟨Nat.le_of_ble_eq_true rfl, Nat.le_of_ble_eq_true rfl⟩ (⟨by first | (rw [bP_t ⟨‹_›, ‹_›⟩]; done) | (rw [bP_f (fun h => h.1 ‹_›)]; done) | (rw [bP_f (fun h => h.2 ‹_›)]; done), rfl⟩)
    · refine v_iconst (v := nI 1) dX3_both_34 (by decide) rfl ?_
      refine v_goto (tgt := 39) dX3_both_35 (by decide) ?_
      exact v_zret dX3_both_39 rfl (by rfl) ⟨Nat.le_of_ble_eq_true rfl, Nat.le_of_ble_eq_true rfl⟩ (⟨by first | (rw [bP_t ⟨‹_›, ‹_›⟩]; done) | (rw [bP_f (fun h => h.1 ‹_›)]; done) | (rw [bP_f (fun h => h.2 ‹_›)]; done), rfl⟩)
theorem m_times (hM : PM G s y hp) {a b : Nat} (ha : a < 3) (hb : b < 3) (v : Nat) : Ct G mX3_times 1 0 0 [.ref (G.2.2.2 + 31), .int (nI a), .int (nI b), .int (nI v)] hp (Qf (some (.int (nI (cnt (gavP s a b v) s.n)))) hp) := by
  obtain ⟨m0, m1, m2, m3, m4, m5, m6, m7, m8, m9, m10⟩ := hM.pr
  obtain ⟨hK, hF, hWf, hMk, hTr, hn⟩ := hM.pp
  have key : ∀ k, k ≤ s.n → Vm G mX3_times 1 0 0 (Qf (some (.int (nI (cnt (gavP s a b v) s.n)))) hp) 6 [some (.ref (G.2.2.2 + 31)), some (.int (nI a)), some (.int (nI b)), some (.int (nI v)), some (.int (nI (cnt (gavP s a b v) k))), some (.int (nI k))] [] hp 0 0 := by
    refine loop_up ?_ (fun k hk ih => ?_)
    · refine v_iload dX3_times_6 rfl rfl ?_
      refine v_aload_n dX3_times_8 rfl rfl ?_
      refine v_getf dX3_times_9 fl_X3_77 (by first | assumption | exact set_get (by assumption) | exact (set_ne (by decide)).trans (by assumption)) (by rfl) rfl ?_
      refine v_icmp_geN (tgt := 58) dX3_times_12 (by decide) rfl (by omega) (by omega) (fun c12 => ?_) (fun c12 => ?_)
      · refine v_iload dX3_times_58 rfl rfl ?_
        exact v_iret dX3_times_60 rfl ⟨Nat.le_of_ble_eq_true rfl, Nat.le_of_ble_eq_true rfl⟩ (⟨rfl, rfl⟩)
      · exact absurd c12 (by omega)
    · refine v_iload dX3_times_6 rfl rfl ?_
      refine v_aload_n dX3_times_8 rfl rfl ?_
      refine v_getf dX3_times_9 fl_X3_77 (by first | assumption | exact set_get (by assumption) | exact (set_ne (by decide)).trans (by assumption)) (by rfl) rfl ?_
      refine v_icmp_geN (tgt := 58) dX3_times_12 (by decide) rfl (by omega) (by omega) (fun c12 => ?_) (fun c12 => ?_)
      · exact absurd c12 (by omega)
      · refine v_iload dX3_times_15 rfl rfl ?_
        refine v_aload_n dX3_times_17 rfl rfl ?_
        refine v_iload_n dX3_times_18 rfl rfl ?_
        refine v_iload_n dX3_times_19 rfl rfl ?_
        refine v_iload dX3_times_20 rfl rfl ?_
        by_cases q22 : bothP s a b k
        · refine v_cvf dX3_times_22 cw_X3_97 ⟨tn_X3_both, tl_X3_both⟩ rfl (by first | assumption | exact set_get (by assumption) | exact (set_ne (by decide)).trans (by assumption)) ((m_both G hp hM ha hb hk).yes ‹_›) (by rfl) (by rfl) (Nat.le_of_ble_eq_true rfl) (Nat.le_of_ble_eq_true rfl) (Nat.le_of_ble_eq_true rfl) (Nat.le_of_ble_eq_true rfl) (Nat.le_of_ble_eq_true rfl) rfl ?_
          refine v_if_eq (tgt := 48) dX3_times_25 (by decide) rfl (fun q => absurd q (by decide)) (fun _ => ?_)
          refine v_aload_n dX3_times_28 rfl rfl ?_
          refine v_getf dX3_times_29 fl_X3_28 (by first | assumption | exact set_get (by assumption) | exact (set_ne (by decide)).trans (by assumption)) (by rfl) rfl ?_
          refine v_bipush (v := nI 12) dX3_times_32 (by decide) rfl ?_
          refine v_iload_n dX3_times_34 rfl rfl ?_
          refine v_imulN dX3_times_35 rfl ?_
          refine v_iload dX3_times_36 rfl rfl ?_
          refine v_iaddN dX3_times_38 rfl ?_
          refine v_iald _ dX3_times_39 (by first | assumption | exact set_get (by assumption) | exact (set_ne (by decide)).trans (by assumption)) rfl (by omega) (by decide) rfl ?_
          refine v_top (y := s.mr k a) ((hMk a ha k (by omega)).trans (if_pos hk)) ?_
          refine v_iload_n dX3_times_40 rfl rfl ?_
          refine v_icmp_ne (tgt := 48) dX3_times_41 (by decide) rfl (fun c41 => ?_) (fun c41 => ?_)
          · refine v_iconst (v := nI 0) dX3_times_48 (by decide) rfl ?_
            refine v_iaddN dX3_times_49 rfl ?_
            refine v_istore dX3_times_50 (Nat.le_of_ble_eq_true rfl) rfl ?_
            refine v_iinc1 dX3_times_52 rfl (Nat.le_of_ble_eq_true rfl) rfl ?_
            refine v_goto (tgt := 6) dX3_times_55 (by decide) ?_
            first | (rw [cnt_t (p := gavP s a b v) (n := k) ⟨‹_›, ‹_›⟩] at ih; exact ih) | (rw [cnt_f (p := gavP s a b v) (n := k) (fun h => absurd h.1 ‹_›)] at ih; exact ih) | (rw [cnt_f (p := gavP s a b v) (n := k) (fun h => absurd h.2 ‹_›)] at ih; exact ih)
          · refine v_iconst (v := nI 1) dX3_times_44 (by decide) rfl ?_
            refine v_goto (tgt := 49) dX3_times_45 (by decide) ?_
            refine v_iaddN dX3_times_49 rfl ?_
            refine v_istore dX3_times_50 (Nat.le_of_ble_eq_true rfl) rfl ?_
            refine v_iinc1 dX3_times_52 rfl (Nat.le_of_ble_eq_true rfl) rfl ?_
            refine v_goto (tgt := 6) dX3_times_55 (by decide) ?_
            first | (rw [cnt_t (p := gavP s a b v) (n := k) ⟨‹_›, ‹_›⟩] at ih; exact ih) | (rw [cnt_f (p := gavP s a b v) (n := k) (fun h => absurd h.1 ‹_›)] at ih; exact ih) | (rw [cnt_f (p := gavP s a b v) (n := k) (fun h => absurd h.2 ‹_›)] at ih; exact ih)
        · refine v_cvf dX3_times_22 cw_X3_97 ⟨tn_X3_both, tl_X3_both⟩ rfl (by first | assumption | exact set_get (by assumption) | exact (set_ne (by decide)).trans (by assumption)) ((m_both G hp hM ha hb hk).no ‹_›) (by rfl) (by rfl) (Nat.le_of_ble_eq_true rfl) (Nat.le_of_ble_eq_true rfl) (Nat.le_of_ble_eq_true rfl) (Nat.le_of_ble_eq_true rfl) (Nat.le_of_ble_eq_true rfl) rfl ?_
          refine v_if_eq (tgt := 48) dX3_times_25 (by decide) rfl (fun _ => ?_) (fun q => absurd (by decide) q)
          refine v_iconst (v := nI 0) dX3_times_48 (by decide) rfl ?_
          refine v_iaddN dX3_times_49 rfl ?_
          refine v_istore dX3_times_50 (Nat.le_of_ble_eq_true rfl) rfl ?_
          refine v_iinc1 dX3_times_52 rfl (Nat.le_of_ble_eq_true rfl) rfl ?_
          refine v_goto (tgt := 6) dX3_times_55 (by decide) ?_
          first | (rw [cnt_t (p := gavP s a b v) (n := k) ⟨‹_›, ‹_›⟩] at ih; exact ih) | (rw [cnt_f (p := gavP s a b v) (n := k) (fun h => absurd h.1 ‹_›)] at ih; exact ih) | (rw [cnt_f (p := gavP s a b v) (n := k) (fun h => absurd h.2 ‹_›)] at ih; exact ih)
  refine Ct.start 2 (by decide) rfl (Nat.le_of_ble_eq_true rfl) ?_
  refine v_iconst (v := nI 0) dX3_times_0 (by decide) rfl ?_
  refine v_istore dX3_times_1 (Nat.le_of_ble_eq_true rfl) rfl ?_
  refine v_iconst (v := nI 0) dX3_times_3 (by decide) rfl ?_
  refine v_istore dX3_times_4 (Nat.le_of_ble_eq_true rfl) rfl ?_
  exact key 0 (Nat.zero_le _)
theorem toInt_neg_ok {u : Int32} (h : u.toInt.natAbs < 2 ^ 31) : (-u).toInt = -u.toInt := by
  rw [Int32.toInt_neg, Int.bmod_def]
  split <;> omega
theorem absI_nI {u : Int32} (h : u.toInt.natAbs < 2 ^ 31) : absI u = nI u.toInt.natAbs := by
  apply Int32.toInt_inj.mp
  rw [nI_toInt h, absI]
  split
  · rename_i q
    have := Int32.le_iff_toInt_le.mp q
    have h0 : (0 : Int32).toInt = 0 := rfl
    omega
  · rename_i q
    have := Int32.lt_iff_toInt_lt.mp (Int32.not_le.mp q)
    have h0 : (0 : Int32).toInt = 0 := rfl
    rw [toInt_neg_ok h]
    omega
theorem gcd_step (a b : Nat) : Nat.gcd a b = Nat.gcd b (a % b) := by
  rw [Nat.gcd_comm a b, Nat.gcd_rec b a, Nat.gcd_comm]
theorem m_common (u : Int32) (hu : u.toInt.natAbs < 2 ^ 31) {l : Nat} (hl : l < 2 ^ 31) : Ct G mX3_common 1 0 0 [.int u, .int (nI l)] hp (Qf (some (.int (nI (Nat.gcd u.toInt.natAbs l)))) hp) := by
  have key : ∀ b a, a < 2 ^ 31 → b < 2 ^ 31 → Nat.gcd a b = Nat.gcd u.toInt.natAbs l → ∀ l4 : Option Value, Vm G mX3_common 1 0 0 (Qf (some (.int (nI (Nat.gcd u.toInt.natAbs l)))) hp) 10 [some (.int u), some (.int (nI l)), some (.int (nI a)), some (.int (nI b)), l4] [] hp 0 0 := by
    intro b
    induction b using Nat.strongRecOn with
    | ind b ih =>
      intro a ha hb hg l4
      refine v_iload_n dX3_common_10 rfl rfl ?_
      refine v_if_eqN (tgt := 27) dX3_common_11 (by decide) rfl (by omega) (fun c11 => ?_) (fun c11 => ?_)
      · refine v_iload_n dX3_common_27 rfl rfl ?_
        exact v_iret dX3_common_28 rfl ⟨Nat.le_of_ble_eq_true rfl, Nat.le_of_ble_eq_true rfl⟩ (⟨by rw [← hg, c11, Nat.gcd_zero_right], rfl⟩)
      · refine v_iload_n dX3_common_14 rfl rfl ?_
        refine v_iload_n dX3_common_15 rfl rfl ?_
        refine v_iremN dX3_common_16 (by omega) (by omega) (by omega) rfl ?_
        have hm : a % b < b := Nat.mod_lt _ (by omega)
        refine v_istore dX3_common_17 (Nat.le_of_ble_eq_true rfl) rfl ?_
        refine v_iload_n dX3_common_19 rfl rfl ?_
        refine v_istore_n dX3_common_20 (Nat.le_of_ble_eq_true rfl) rfl ?_
        refine v_iload dX3_common_21 rfl rfl ?_
        refine v_istore_n dX3_common_23 (Nat.le_of_ble_eq_true rfl) rfl ?_
        refine v_goto (tgt := 10) dX3_common_24 (by decide) ?_
        exact ih (a % b) hm b hb (by omega) ((gcd_step a b).symm.trans hg) _
  have hl2 : absI (nI l) = nI l := by
    have := absI_nI (u := nI l) (by rw [nI_toInt hl]; omega)
    rw [this, nI_toInt hl]
    rfl
  refine Ct.start 3 (by decide) rfl (Nat.le_of_ble_eq_true rfl) ?_
  refine v_iload_n dX3_common_0 rfl rfl ?_
  refine v_csf dX3_common_1 cw_X3_93 ts_X3_size ((c_size G hp u).is (absI_nI hu)) (by rfl) (by rfl) (Nat.le_of_ble_eq_true rfl) (Nat.le_of_ble_eq_true rfl) (Nat.le_of_ble_eq_true rfl) (Nat.le_of_ble_eq_true rfl) (Nat.le_of_ble_eq_true rfl) rfl ?_
  refine v_istore_n dX3_common_4 (Nat.le_of_ble_eq_true rfl) rfl ?_
  refine v_iload_n dX3_common_5 rfl rfl ?_
  refine v_csf dX3_common_6 cw_X3_93 ts_X3_size ((c_size G hp (nI l)).is hl2) (by rfl) (by rfl) (Nat.le_of_ble_eq_true rfl) (Nat.le_of_ble_eq_true rfl) (Nat.le_of_ble_eq_true rfl) (Nat.le_of_ble_eq_true rfl) (Nat.le_of_ble_eq_true rfl) rfl ?_
  refine v_istore_n dX3_common_9 (Nat.le_of_ble_eq_true rfl) rfl ?_
  exact key l _ hu hl rfl _
theorem mm_trace (hM : PM G s y hp) : Ct G mX3_trace 0 0 0 [.ref (G.2.2.2 + 31)] hp (Qf (some (.long s.tc)) hp) := by
  have m0 := hM.1
  refine Ct.start 0 (by decide) rfl (Nat.le_of_ble_eq_true rfl) ?_
  refine v_aload_n dX3_trace_0 rfl rfl ?_
  refine v_getf dX3_trace_1 fl_X3_58 (by first | assumption | exact set_get (by assumption) | exact (set_ne (by decide)).trans (by assumption)) (by rfl) rfl ?_
  exact v_lret dX3_trace_4 rfl ⟨Nat.le_of_ble_eq_true rfl, Nat.le_of_ble_eq_true rfl⟩ (⟨rfl, rfl⟩)
theorem mm_like_y (hM : PM G s y hp) {a b p : Nat} (ha : a < 3) (hb : b < 3) (hab : a ≠ b) (hp3 : p < 3) : Ct G mX3_like 2 0 0 [.ref (G.2.2.2 + 31), .int (nI a), .int (nI b), .int (nI p)] hp (Qf (some (.int (lkI s a b p))) hp) := by
  obtain ⟨m0, m1, m2, m3, m4, m5, m6, m7, m8, m9, m10⟩ := hM.pr
  obtain ⟨hK, hF, hWf, hMk, hTr, hn⟩ := hM.pp
  have hch := chN_le s a b
  have hB : cnt (bothP s a b) s.n ≤ 12 := Nat.le_trans (cnt_le _ _) hn
  have hA : cnt (alkP s a b) s.n ≤ 12 := Nat.le_trans (cnt_le _ _) hn
  have hBB := Nat.mul_le_mul hB hB
  have hAB := Nat.mul_le_mul hA hB
  have hne : ¬ nI a = nI b := fun q => hab ((nI_eq (by omega) (by omega)).mp q)
  have hui : (nI (cnt (alkP s a b) s.n * cnt (bothP s a b) s.n) - nI (chN s a b 4)).toInt.natAbs < 2 ^ 31 := by
    rw [pk_sub_toInt (by omega) (by omega)]
    omega
  have key2 : ∀ k, k ≤ 4 → ∀ l8 l9 : Option Value, Vm G mX3_like 2 0 0 (Qf (some (.int (lkI s a b p))) hp) 130 [some (.ref (G.2.2.2 + 31)), some (.int (nI a)), some (.int (nI b)), some (.int (nI p)), some (.int (nI (cnt (bothP s a b) s.n))), some (.int (nI (cnt (alkP s a b) s.n))), some (.int (nI (chN s a b k))), some (.int (nI k)), l8, l9] [] hp 0 0 := by
    refine loop_up ?_ (fun k hk ih => ?_)
    · intro l8 l9
      have hg : ¬ cnt (bothP s a b) s.n * cnt (bothP s a b) s.n - chN s a b 4 = 0 → 0 < Nat.gcd (nI (cnt (alkP s a b) s.n * cnt (bothP s a b) s.n) - nI (chN s a b 4)).toInt.natAbs (cnt (bothP s a b) s.n * cnt (bothP s a b) s.n - chN s a b 4) := fun q => Nat.gcd_pos_of_pos_right _ (by omega)
      have hg2 : ¬ cnt (bothP s a b) s.n * cnt (bothP s a b) s.n - chN s a b 4 = 0 → Nat.gcd (nI (cnt (alkP s a b) s.n * cnt (bothP s a b) s.n) - nI (chN s a b 4)).toInt.natAbs (cnt (bothP s a b) s.n * cnt (bothP s a b) s.n - chN s a b 4) ≤ 144 := fun q => Nat.le_trans (Nat.le_of_dvd (by omega) (Nat.gcd_dvd_right _ _)) (by omega)
      refine v_iload dX3_like_130 rfl rfl ?_
      refine v_iconst (v := nI 4) dX3_like_132 (by decide) rfl ?_
      refine v_icmp_geN (tgt := 164) dX3_like_133 (by decide) rfl (by omega) (by omega) (fun c133 => ?_) (fun c133 => ?_)
      · refine v_iload_n dX3_like_164 rfl rfl ?_
        refine v_iconst (v := nI 2) dX3_like_165 (by decide) rfl ?_
        refine v_icmp_neN (tgt := 172) dX3_like_166 (by decide) rfl (by omega) (by omega) (fun c166 => ?_) (fun c166 => ?_)
        · refine v_iload dX3_like_172 rfl rfl ?_
          refine v_iload dX3_like_174 rfl rfl ?_
          refine v_imulN dX3_like_176 rfl ?_
          refine v_iload dX3_like_177 rfl rfl ?_
          refine v_isub dX3_like_179 rfl ?_
          refine v_istore dX3_like_180 (Nat.le_of_ble_eq_true rfl) rfl ?_
          refine v_iload dX3_like_182 rfl rfl ?_
          refine v_iload dX3_like_184 rfl rfl ?_
          refine v_imulN dX3_like_186 rfl ?_
          refine v_iload dX3_like_187 rfl rfl ?_
          refine v_isubN dX3_like_189 (hch) rfl ?_
          refine v_istore dX3_like_190 (Nat.le_of_ble_eq_true rfl) rfl ?_
          refine v_iload dX3_like_192 rfl rfl ?_
          refine v_if_neN (tgt := 201) dX3_like_194 (by decide) rfl (by omega) (fun c194 => ?_) (fun c194 => ?_)
          · refine v_iload dX3_like_201 rfl rfl ?_
            refine v_iload dX3_like_203 rfl rfl ?_
            refine v_csf dX3_like_205 cw_X3_104 ts_X3_common (m_common G hp (nI (cnt (alkP s a b) s.n * cnt (bothP s a b) s.n) - nI (chN s a b 4)) hui (l := cnt (bothP s a b) s.n * cnt (bothP s a b) s.n - chN s a b 4) (by omega)) (by rfl) (by rfl) (Nat.le_of_ble_eq_true rfl) (Nat.le_of_ble_eq_true rfl) (Nat.le_of_ble_eq_true rfl) (Nat.le_of_ble_eq_true rfl) (Nat.le_of_ble_eq_true rfl) rfl ?_
            have g1 := hg c194
            have g2 := hg2 c194
            refine v_istore dX3_like_208 (Nat.le_of_ble_eq_true rfl) rfl ?_
            refine v_iload_n dX3_like_210 rfl rfl ?_
            refine v_if_neN (tgt := 222) dX3_like_211 (by decide) rfl (by omega) (fun c211 => ?_) (fun c211 => ?_)
            · refine v_iload dX3_like_222 rfl rfl ?_
              refine v_iload dX3_like_224 rfl rfl ?_
              refine v_idivN dX3_like_226 (by omega) (by omega) (by omega) rfl ?_
              exact v_iret dX3_like_227 rfl ⟨Nat.le_of_ble_eq_true rfl, Nat.le_of_ble_eq_true rfl⟩ (⟨by first | (rw [lkI, if_pos ‹_›]; done) | (rw [lkI, if_neg ‹_›, ratI, if_pos ‹_›]; done) | (rw [lkI, if_neg ‹_›, ratI, if_neg ‹_›, if_pos (show nI p = 0 by rw [c211]; rfl)]; done) | (rw [lkI, if_neg ‹_›, ratI, if_neg ‹_›, if_neg (nI_ne0 (Nat.pos_of_ne_zero c211) (by omega))]; done), rfl⟩)
            · refine v_iload dX3_like_214 rfl rfl ?_
              refine v_iload dX3_like_216 rfl rfl ?_
              refine v_idiv dX3_like_218 (nI_ne0 g1 (by omega)) rfl ?_
              refine v_goto (tgt := 227) dX3_like_219 (by decide) ?_
              exact v_iret dX3_like_227 rfl ⟨Nat.le_of_ble_eq_true rfl, Nat.le_of_ble_eq_true rfl⟩ (⟨by first | (rw [lkI, if_pos ‹_›]; done) | (rw [lkI, if_neg ‹_›, ratI, if_pos ‹_›]; done) | (rw [lkI, if_neg ‹_›, ratI, if_neg ‹_›, if_pos (show nI p = 0 by rw [c211]; rfl)]; done) | (rw [lkI, if_neg ‹_›, ratI, if_neg ‹_›, if_neg (nI_ne0 (Nat.pos_of_ne_zero c211) (by omega))]; done), rfl⟩)
          · refine v_sipush (v := (-200)) dX3_like_197 (by decide) rfl ?_
            exact v_iret dX3_like_200 rfl ⟨Nat.le_of_ble_eq_true rfl, Nat.le_of_ble_eq_true rfl⟩ (⟨by first | (rw [lkI, if_pos ‹_›]; done) | (rw [lkI, if_neg ‹_›, ratI, if_pos ‹_›]; done) | (rw [lkI, if_neg ‹_›, ratI, if_neg ‹_›, if_pos (show nI p = 0 by rw [c211]; rfl)]; done) | (rw [lkI, if_neg ‹_›, ratI, if_neg ‹_›, if_neg (nI_ne0 (Nat.pos_of_ne_zero c211) (by omega))]; done), rfl⟩)
        · refine v_iload dX3_like_169 rfl rfl ?_
          exact v_iret dX3_like_171 rfl ⟨Nat.le_of_ble_eq_true rfl, Nat.le_of_ble_eq_true rfl⟩ (⟨by first | (rw [lkI, if_pos ‹_›]; done) | (rw [lkI, if_neg ‹_›, ratI, if_pos ‹_›]; done) | (rw [lkI, if_neg ‹_›, ratI, if_neg ‹_›, if_pos (show nI p = 0 by rw [c211]; rfl)]; done) | (rw [lkI, if_neg ‹_›, ratI, if_neg ‹_›, if_neg (nI_ne0 (Nat.pos_of_ne_zero c211) (by omega))]; done), rfl⟩)
      · exact absurd c133 (by omega)
    · intro l8 l9
      refine v_iload dX3_like_130 rfl rfl ?_
      refine v_iconst (v := nI 4) dX3_like_132 (by decide) rfl ?_
      refine v_icmp_geN (tgt := 164) dX3_like_133 (by decide) rfl (by omega) (by omega) (fun c133 => ?_) (fun c133 => ?_)
      · exact absurd c133 (by omega)
      · refine v_iload dX3_like_136 rfl rfl ?_
        refine v_aload_n dX3_like_138 rfl rfl ?_
        refine v_iload_n dX3_like_139 rfl rfl ?_
        refine v_iload_n dX3_like_140 rfl rfl ?_
        refine v_iload dX3_like_141 rfl rfl ?_
        refine v_cvf dX3_like_143 cw_X3_100 ⟨tn_X3_times, tl_X3_times⟩ rfl (by first | assumption | exact set_get (by assumption) | exact (set_ne (by decide)).trans (by assumption)) (m_times G hp hM ha hb k) (by rfl) (by rfl) (Nat.le_of_ble_eq_true rfl) (Nat.le_of_ble_eq_true rfl) (Nat.le_of_ble_eq_true rfl) (Nat.le_of_ble_eq_true rfl) (Nat.le_of_ble_eq_true rfl) rfl ?_
        refine v_aload_n dX3_like_146 rfl rfl ?_
        refine v_iload_n dX3_like_147 rfl rfl ?_
        refine v_iload_n dX3_like_148 rfl rfl ?_
        refine v_iload dX3_like_149 rfl rfl ?_
        refine v_cvf dX3_like_151 cw_X3_100 ⟨tn_X3_times, tl_X3_times⟩ rfl (by first | assumption | exact set_get (by assumption) | exact (set_ne (by decide)).trans (by assumption)) (m_times G hp hM hb ha k) (by rfl) (by rfl) (Nat.le_of_ble_eq_true rfl) (Nat.le_of_ble_eq_true rfl) (Nat.le_of_ble_eq_true rfl) (Nat.le_of_ble_eq_true rfl) (Nat.le_of_ble_eq_true rfl) rfl ?_
        refine v_imulN dX3_like_154 rfl ?_
        refine v_iaddN dX3_like_155 rfl ?_
        refine v_istore dX3_like_156 (Nat.le_of_ble_eq_true rfl) rfl ?_
        refine v_iinc1 dX3_like_158 rfl (Nat.le_of_ble_eq_true rfl) rfl ?_
        refine v_goto (tgt := 130) dX3_like_161 (by decide) ?_
        exact ih _ _
  have key1 : ∀ k, k ≤ s.n → ∀ l8 l9 : Option Value, Vm G mX3_like 2 0 0 (Qf (some (.int (lkI s a b p))) hp) 43 [some (.ref (G.2.2.2 + 31)), some (.int (nI a)), some (.int (nI b)), some (.int (nI p)), some (.int (nI (cnt (bothP s a b) k))), some (.int (nI (cnt (alkP s a b) k))), some (.int (nI 0)), some (.int (nI k)), l8, l9] [] hp 0 0 := by
    refine loop_up ?_ (fun k hk ih => ?_)
    · intro l8 l9
      refine v_iload dX3_like_43 rfl rfl ?_
      refine v_aload_n dX3_like_45 rfl rfl ?_
      refine v_getf dX3_like_46 fl_X3_77 (by first | assumption | exact set_get (by assumption) | exact (set_ne (by decide)).trans (by assumption)) (by rfl) rfl ?_
      refine v_icmp_geN (tgt := 127) dX3_like_49 (by decide) rfl (by omega) (by omega) (fun c49 => ?_) (fun c49 => ?_)
      · refine v_iconst (v := nI 0) dX3_like_127 (by decide) rfl ?_
        refine v_istore dX3_like_128 (Nat.le_of_ble_eq_true rfl) rfl ?_
        exact key2 0 (by decide) _ _
      · exact absurd c49 (by omega)
    · intro l8 l9
      refine v_iload dX3_like_43 rfl rfl ?_
      refine v_aload_n dX3_like_45 rfl rfl ?_
      refine v_getf dX3_like_46 fl_X3_77 (by first | assumption | exact set_get (by assumption) | exact (set_ne (by decide)).trans (by assumption)) (by rfl) rfl ?_
      refine v_icmp_geN (tgt := 127) dX3_like_49 (by decide) rfl (by omega) (by omega) (fun c49 => ?_) (fun c49 => ?_)
      · exact absurd c49 (by omega)
      · refine v_iload dX3_like_52 rfl rfl ?_
        refine v_aload_n dX3_like_54 rfl rfl ?_
        refine v_iload_n dX3_like_55 rfl rfl ?_
        refine v_iload_n dX3_like_56 rfl rfl ?_
        refine v_iload dX3_like_57 rfl rfl ?_
        by_cases q59 : bothP s a b k
        · refine v_cvf dX3_like_59 cw_X3_97 ⟨tn_X3_both, tl_X3_both⟩ rfl (by first | assumption | exact set_get (by assumption) | exact (set_ne (by decide)).trans (by assumption)) ((m_both G hp hM ha hb hk).yes ‹_›) (by rfl) (by rfl) (Nat.le_of_ble_eq_true rfl) (Nat.le_of_ble_eq_true rfl) (Nat.le_of_ble_eq_true rfl) (Nat.le_of_ble_eq_true rfl) (Nat.le_of_ble_eq_true rfl) rfl ?_
          refine v_if_eq (tgt := 69) dX3_like_62 (by decide) rfl (fun q => absurd q (by decide)) (fun _ => ?_)
          refine v_iconst (v := nI 1) dX3_like_65 (by decide) rfl ?_
          refine v_goto (tgt := 70) dX3_like_66 (by decide) ?_
          refine v_iaddN dX3_like_70 rfl ?_
          refine v_istore dX3_like_71 (Nat.le_of_ble_eq_true rfl) rfl ?_
          refine v_iload dX3_like_73 rfl rfl ?_
          refine v_aload_n dX3_like_75 rfl rfl ?_
          refine v_iload_n dX3_like_76 rfl rfl ?_
          refine v_iload_n dX3_like_77 rfl rfl ?_
          refine v_iload dX3_like_78 rfl rfl ?_
          by_cases q80 : bothP s a b k
          · refine v_cvf dX3_like_80 cw_X3_97 ⟨tn_X3_both, tl_X3_both⟩ rfl (by first | assumption | exact set_get (by assumption) | exact (set_ne (by decide)).trans (by assumption)) ((m_both G hp hM ha hb hk).yes ‹_›) (by rfl) (by rfl) (Nat.le_of_ble_eq_true rfl) (Nat.le_of_ble_eq_true rfl) (Nat.le_of_ble_eq_true rfl) (Nat.le_of_ble_eq_true rfl) (Nat.le_of_ble_eq_true rfl) rfl ?_
            refine v_if_eq (tgt := 117) dX3_like_83 (by decide) rfl (fun q => absurd q (by decide)) (fun _ => ?_)
            refine v_aload_n dX3_like_86 rfl rfl ?_
            refine v_getf dX3_like_87 fl_X3_28 (by first | assumption | exact set_get (by assumption) | exact (set_ne (by decide)).trans (by assumption)) (by rfl) rfl ?_
            refine v_bipush (v := nI 12) dX3_like_90 (by decide) rfl ?_
            refine v_iload_n dX3_like_92 rfl rfl ?_
            refine v_imulN dX3_like_93 rfl ?_
            refine v_iload dX3_like_94 rfl rfl ?_
            refine v_iaddN dX3_like_96 rfl ?_
            refine v_iald _ dX3_like_97 (by first | assumption | exact set_get (by assumption) | exact (set_ne (by decide)).trans (by assumption)) rfl (by omega) (by decide) rfl ?_
            refine v_top (y := s.mr k a) ((hMk a ha k (by omega)).trans (if_pos hk)) ?_
            refine v_aload_n dX3_like_98 rfl rfl ?_
            refine v_getf dX3_like_99 fl_X3_28 (by first | assumption | exact set_get (by assumption) | exact (set_ne (by decide)).trans (by assumption)) (by rfl) rfl ?_
            refine v_bipush (v := nI 12) dX3_like_102 (by decide) rfl ?_
            refine v_iload_n dX3_like_104 rfl rfl ?_
            refine v_imulN dX3_like_105 rfl ?_
            refine v_iload dX3_like_106 rfl rfl ?_
            refine v_iaddN dX3_like_108 rfl ?_
            refine v_iald _ dX3_like_109 (by first | assumption | exact set_get (by assumption) | exact (set_ne (by decide)).trans (by assumption)) rfl (by omega) (by decide) rfl ?_
            refine v_top (y := s.mr k b) ((hMk b hb k (by omega)).trans (if_pos hk)) ?_
            refine v_icmp_ne (tgt := 117) dX3_like_110 (by decide) rfl (fun c110 => ?_) (fun c110 => ?_)
            · refine v_iconst (v := nI 0) dX3_like_117 (by decide) rfl ?_
              refine v_iaddN dX3_like_118 rfl ?_
              refine v_istore dX3_like_119 (Nat.le_of_ble_eq_true rfl) rfl ?_
              refine v_iinc1 dX3_like_121 rfl (Nat.le_of_ble_eq_true rfl) rfl ?_
              refine v_goto (tgt := 43) dX3_like_124 (by decide) ?_
              first | exact absurd q59 q80 | exact absurd q80 q59 | (rw [cnt_t (p := bothP s a b) (n := k) q59, cnt_t (p := alkP s a b) (n := k) ⟨q80, ‹_›⟩] at ih; exact ih _ _) | (rw [cnt_t (p := bothP s a b) (n := k) q59, cnt_f (p := alkP s a b) (n := k) (fun h => absurd h.2 ‹_›)] at ih; exact ih _ _) | (rw [cnt_f (p := bothP s a b) (n := k) q59, cnt_f (p := alkP s a b) (n := k) (fun h => absurd h.1 q80)] at ih; exact ih _ _)
            · refine v_iconst (v := nI 1) dX3_like_113 (by decide) rfl ?_
              refine v_goto (tgt := 118) dX3_like_114 (by decide) ?_
              refine v_iaddN dX3_like_118 rfl ?_
              refine v_istore dX3_like_119 (Nat.le_of_ble_eq_true rfl) rfl ?_
              refine v_iinc1 dX3_like_121 rfl (Nat.le_of_ble_eq_true rfl) rfl ?_
              refine v_goto (tgt := 43) dX3_like_124 (by decide) ?_
              first | exact absurd q59 q80 | exact absurd q80 q59 | (rw [cnt_t (p := bothP s a b) (n := k) q59, cnt_t (p := alkP s a b) (n := k) ⟨q80, ‹_›⟩] at ih; exact ih _ _) | (rw [cnt_t (p := bothP s a b) (n := k) q59, cnt_f (p := alkP s a b) (n := k) (fun h => absurd h.2 ‹_›)] at ih; exact ih _ _) | (rw [cnt_f (p := bothP s a b) (n := k) q59, cnt_f (p := alkP s a b) (n := k) (fun h => absurd h.1 q80)] at ih; exact ih _ _)
          · refine v_cvf dX3_like_80 cw_X3_97 ⟨tn_X3_both, tl_X3_both⟩ rfl (by first | assumption | exact set_get (by assumption) | exact (set_ne (by decide)).trans (by assumption)) ((m_both G hp hM ha hb hk).no ‹_›) (by rfl) (by rfl) (Nat.le_of_ble_eq_true rfl) (Nat.le_of_ble_eq_true rfl) (Nat.le_of_ble_eq_true rfl) (Nat.le_of_ble_eq_true rfl) (Nat.le_of_ble_eq_true rfl) rfl ?_
            refine v_if_eq (tgt := 117) dX3_like_83 (by decide) rfl (fun _ => ?_) (fun q => absurd (by decide) q)
            refine v_iconst (v := nI 0) dX3_like_117 (by decide) rfl ?_
            refine v_iaddN dX3_like_118 rfl ?_
            refine v_istore dX3_like_119 (Nat.le_of_ble_eq_true rfl) rfl ?_
            refine v_iinc1 dX3_like_121 rfl (Nat.le_of_ble_eq_true rfl) rfl ?_
            refine v_goto (tgt := 43) dX3_like_124 (by decide) ?_
            first | exact absurd q59 q80 | exact absurd q80 q59 | (rw [cnt_t (p := bothP s a b) (n := k) q59, cnt_t (p := alkP s a b) (n := k) ⟨q80, ‹_›⟩] at ih; exact ih _ _) | (rw [cnt_t (p := bothP s a b) (n := k) q59, cnt_f (p := alkP s a b) (n := k) (fun h => absurd h.2 ‹_›)] at ih; exact ih _ _) | (rw [cnt_f (p := bothP s a b) (n := k) q59, cnt_f (p := alkP s a b) (n := k) (fun h => absurd h.1 q80)] at ih; exact ih _ _)
        · refine v_cvf dX3_like_59 cw_X3_97 ⟨tn_X3_both, tl_X3_both⟩ rfl (by first | assumption | exact set_get (by assumption) | exact (set_ne (by decide)).trans (by assumption)) ((m_both G hp hM ha hb hk).no ‹_›) (by rfl) (by rfl) (Nat.le_of_ble_eq_true rfl) (Nat.le_of_ble_eq_true rfl) (Nat.le_of_ble_eq_true rfl) (Nat.le_of_ble_eq_true rfl) (Nat.le_of_ble_eq_true rfl) rfl ?_
          refine v_if_eq (tgt := 69) dX3_like_62 (by decide) rfl (fun _ => ?_) (fun q => absurd (by decide) q)
          refine v_iconst (v := nI 0) dX3_like_69 (by decide) rfl ?_
          refine v_iaddN dX3_like_70 rfl ?_
          refine v_istore dX3_like_71 (Nat.le_of_ble_eq_true rfl) rfl ?_
          refine v_iload dX3_like_73 rfl rfl ?_
          refine v_aload_n dX3_like_75 rfl rfl ?_
          refine v_iload_n dX3_like_76 rfl rfl ?_
          refine v_iload_n dX3_like_77 rfl rfl ?_
          refine v_iload dX3_like_78 rfl rfl ?_
          by_cases q80 : bothP s a b k
          · refine v_cvf dX3_like_80 cw_X3_97 ⟨tn_X3_both, tl_X3_both⟩ rfl (by first | assumption | exact set_get (by assumption) | exact (set_ne (by decide)).trans (by assumption)) ((m_both G hp hM ha hb hk).yes ‹_›) (by rfl) (by rfl) (Nat.le_of_ble_eq_true rfl) (Nat.le_of_ble_eq_true rfl) (Nat.le_of_ble_eq_true rfl) (Nat.le_of_ble_eq_true rfl) (Nat.le_of_ble_eq_true rfl) rfl ?_
            refine v_if_eq (tgt := 117) dX3_like_83 (by decide) rfl (fun q => absurd q (by decide)) (fun _ => ?_)
            refine v_aload_n dX3_like_86 rfl rfl ?_
            refine v_getf dX3_like_87 fl_X3_28 (by first | assumption | exact set_get (by assumption) | exact (set_ne (by decide)).trans (by assumption)) (by rfl) rfl ?_
            refine v_bipush (v := nI 12) dX3_like_90 (by decide) rfl ?_
            refine v_iload_n dX3_like_92 rfl rfl ?_
            refine v_imulN dX3_like_93 rfl ?_
            refine v_iload dX3_like_94 rfl rfl ?_
            refine v_iaddN dX3_like_96 rfl ?_
            refine v_iald _ dX3_like_97 (by first | assumption | exact set_get (by assumption) | exact (set_ne (by decide)).trans (by assumption)) rfl (by omega) (by decide) rfl ?_
            refine v_top (y := s.mr k a) ((hMk a ha k (by omega)).trans (if_pos hk)) ?_
            refine v_aload_n dX3_like_98 rfl rfl ?_
            refine v_getf dX3_like_99 fl_X3_28 (by first | assumption | exact set_get (by assumption) | exact (set_ne (by decide)).trans (by assumption)) (by rfl) rfl ?_
            refine v_bipush (v := nI 12) dX3_like_102 (by decide) rfl ?_
            refine v_iload_n dX3_like_104 rfl rfl ?_
            refine v_imulN dX3_like_105 rfl ?_
            refine v_iload dX3_like_106 rfl rfl ?_
            refine v_iaddN dX3_like_108 rfl ?_
            refine v_iald _ dX3_like_109 (by first | assumption | exact set_get (by assumption) | exact (set_ne (by decide)).trans (by assumption)) rfl (by omega) (by decide) rfl ?_
            refine v_top (y := s.mr k b) ((hMk b hb k (by omega)).trans (if_pos hk)) ?_
            refine v_icmp_ne (tgt := 117) dX3_like_110 (by decide) rfl (fun c110 => ?_) (fun c110 => ?_)
            · refine v_iconst (v := nI 0) dX3_like_117 (by decide) rfl ?_
              refine v_iaddN dX3_like_118 rfl ?_
              refine v_istore dX3_like_119 (Nat.le_of_ble_eq_true rfl) rfl ?_
              refine v_iinc1 dX3_like_121 rfl (Nat.le_of_ble_eq_true rfl) rfl ?_
              refine v_goto (tgt := 43) dX3_like_124 (by decide) ?_
              first | exact absurd q59 q80 | exact absurd q80 q59 | (rw [cnt_t (p := bothP s a b) (n := k) q59, cnt_t (p := alkP s a b) (n := k) ⟨q80, ‹_›⟩] at ih; exact ih _ _) | (rw [cnt_t (p := bothP s a b) (n := k) q59, cnt_f (p := alkP s a b) (n := k) (fun h => absurd h.2 ‹_›)] at ih; exact ih _ _) | (rw [cnt_f (p := bothP s a b) (n := k) q59, cnt_f (p := alkP s a b) (n := k) (fun h => absurd h.1 q80)] at ih; exact ih _ _)
            · refine v_iconst (v := nI 1) dX3_like_113 (by decide) rfl ?_
              refine v_goto (tgt := 118) dX3_like_114 (by decide) ?_
              refine v_iaddN dX3_like_118 rfl ?_
              refine v_istore dX3_like_119 (Nat.le_of_ble_eq_true rfl) rfl ?_
              refine v_iinc1 dX3_like_121 rfl (Nat.le_of_ble_eq_true rfl) rfl ?_
              refine v_goto (tgt := 43) dX3_like_124 (by decide) ?_
              first | exact absurd q59 q80 | exact absurd q80 q59 | (rw [cnt_t (p := bothP s a b) (n := k) q59, cnt_t (p := alkP s a b) (n := k) ⟨q80, ‹_›⟩] at ih; exact ih _ _) | (rw [cnt_t (p := bothP s a b) (n := k) q59, cnt_f (p := alkP s a b) (n := k) (fun h => absurd h.2 ‹_›)] at ih; exact ih _ _) | (rw [cnt_f (p := bothP s a b) (n := k) q59, cnt_f (p := alkP s a b) (n := k) (fun h => absurd h.1 q80)] at ih; exact ih _ _)
          · refine v_cvf dX3_like_80 cw_X3_97 ⟨tn_X3_both, tl_X3_both⟩ rfl (by first | assumption | exact set_get (by assumption) | exact (set_ne (by decide)).trans (by assumption)) ((m_both G hp hM ha hb hk).no ‹_›) (by rfl) (by rfl) (Nat.le_of_ble_eq_true rfl) (Nat.le_of_ble_eq_true rfl) (Nat.le_of_ble_eq_true rfl) (Nat.le_of_ble_eq_true rfl) (Nat.le_of_ble_eq_true rfl) rfl ?_
            refine v_if_eq (tgt := 117) dX3_like_83 (by decide) rfl (fun _ => ?_) (fun q => absurd (by decide) q)
            refine v_iconst (v := nI 0) dX3_like_117 (by decide) rfl ?_
            refine v_iaddN dX3_like_118 rfl ?_
            refine v_istore dX3_like_119 (Nat.le_of_ble_eq_true rfl) rfl ?_
            refine v_iinc1 dX3_like_121 rfl (Nat.le_of_ble_eq_true rfl) rfl ?_
            refine v_goto (tgt := 43) dX3_like_124 (by decide) ?_
            first | exact absurd q59 q80 | exact absurd q80 q59 | (rw [cnt_t (p := bothP s a b) (n := k) q59, cnt_t (p := alkP s a b) (n := k) ⟨q80, ‹_›⟩] at ih; exact ih _ _) | (rw [cnt_t (p := bothP s a b) (n := k) q59, cnt_f (p := alkP s a b) (n := k) (fun h => absurd h.2 ‹_›)] at ih; exact ih _ _) | (rw [cnt_f (p := bothP s a b) (n := k) q59, cnt_f (p := alkP s a b) (n := k) (fun h => absurd h.1 q80)] at ih; exact ih _ _)
  refine Ct.start 6 (by decide) rfl (Nat.le_of_ble_eq_true rfl) ?_
  refine v_iload_n dX3_like_0 rfl rfl ?_
  refine v_csf dX3_like_1 cw_X3_87 ts_X3_isMarker ((c_isMarker G hp (nI a)).yes (inR_nI ha (by decide))) (by rfl) (by rfl) (Nat.le_of_ble_eq_true rfl) (Nat.le_of_ble_eq_true rfl) (Nat.le_of_ble_eq_true rfl) (Nat.le_of_ble_eq_true rfl) (Nat.le_of_ble_eq_true rfl) rfl ?_
  refine v_if_eq (tgt := 28) dX3_like_4 (by decide) rfl (fun q => absurd q (by decide)) (fun _ => ?_)
  refine v_iload_n dX3_like_7 rfl rfl ?_
  refine v_csf dX3_like_8 cw_X3_87 ts_X3_isMarker ((c_isMarker G hp (nI b)).yes (inR_nI hb (by decide))) (by rfl) (by rfl) (Nat.le_of_ble_eq_true rfl) (Nat.le_of_ble_eq_true rfl) (Nat.le_of_ble_eq_true rfl) (Nat.le_of_ble_eq_true rfl) (Nat.le_of_ble_eq_true rfl) rfl ?_
  refine v_if_eq (tgt := 28) dX3_like_11 (by decide) rfl (fun q => absurd q (by decide)) (fun _ => ?_)
  refine v_iload_n dX3_like_14 rfl rfl ?_
  refine v_iload_n dX3_like_15 rfl rfl ?_
  refine v_icmp_eqN (tgt := 28) dX3_like_16 (by decide) rfl (by omega) (by omega) (fun c16 => ?_) (fun c16 => ?_)
  · exact absurd c16 hab
  · refine v_iload_n dX3_like_19 rfl rfl ?_
    refine v_iconst (v := nI 0) dX3_like_20 (by decide) rfl ?_
    refine v_iconst (v := nI 2) dX3_like_21 (by decide) rfl ?_
    refine v_csf dX3_like_22 cw_X3_40 ts_X3_in ((c_in0 G hp (nI p) 2 (by decide)).yes (inR_nI hp3 (by decide))) (by rfl) (by rfl) (Nat.le_of_ble_eq_true rfl) (Nat.le_of_ble_eq_true rfl) (Nat.le_of_ble_eq_true rfl) (Nat.le_of_ble_eq_true rfl) (Nat.le_of_ble_eq_true rfl) rfl ?_
    refine v_if_ne (tgt := 31) dX3_like_25 (by decide) rfl (fun _ => ?_) (fun q => absurd q (by decide))
    refine v_iconst (v := nI 0) dX3_like_31 (by decide) rfl ?_
    refine v_istore dX3_like_32 (Nat.le_of_ble_eq_true rfl) rfl ?_
    refine v_iconst (v := nI 0) dX3_like_34 (by decide) rfl ?_
    refine v_istore dX3_like_35 (Nat.le_of_ble_eq_true rfl) rfl ?_
    refine v_iconst (v := nI 0) dX3_like_37 (by decide) rfl ?_
    refine v_istore dX3_like_38 (Nat.le_of_ble_eq_true rfl) rfl ?_
    refine v_iconst (v := nI 0) dX3_like_40 (by decide) rfl ?_
    refine v_istore dX3_like_41 (Nat.le_of_ble_eq_true rfl) rfl ?_
    exact key1 0 (Nat.zero_le _) _ _
theorem mm_like_n {z x p : Int32} (h : ¬ ((InR z 3 ∧ InR x 3 ∧ ¬ z = x) ∧ InR p 3)) : Ct G mX3_like 2 0 0 [.ref (G.2.2.2 + 31), .int z, .int x, .int p] hp (Qf (some (.int (-100))) hp) := by
  refine Ct.start 6 (by decide) rfl (Nat.le_of_ble_eq_true rfl) ?_
  refine v_iload_n dX3_like_0 rfl rfl ?_
  by_cases q1 : InR z 3
  · refine v_csf dX3_like_1 cw_X3_87 ts_X3_isMarker ((c_isMarker G hp z).yes ‹_›) (by rfl) (by rfl) (Nat.le_of_ble_eq_true rfl) (Nat.le_of_ble_eq_true rfl) (Nat.le_of_ble_eq_true rfl) (Nat.le_of_ble_eq_true rfl) (Nat.le_of_ble_eq_true rfl) rfl ?_
    refine v_if_eq (tgt := 28) dX3_like_4 (by decide) rfl (fun q => absurd q (by decide)) (fun _ => ?_)
    refine v_iload_n dX3_like_7 rfl rfl ?_
    by_cases q8 : InR x 3
    · refine v_csf dX3_like_8 cw_X3_87 ts_X3_isMarker ((c_isMarker G hp x).yes ‹_›) (by rfl) (by rfl) (Nat.le_of_ble_eq_true rfl) (Nat.le_of_ble_eq_true rfl) (Nat.le_of_ble_eq_true rfl) (Nat.le_of_ble_eq_true rfl) (Nat.le_of_ble_eq_true rfl) rfl ?_
      refine v_if_eq (tgt := 28) dX3_like_11 (by decide) rfl (fun q => absurd q (by decide)) (fun _ => ?_)
      refine v_iload_n dX3_like_14 rfl rfl ?_
      refine v_iload_n dX3_like_15 rfl rfl ?_
      refine v_icmp_eq (tgt := 28) dX3_like_16 (by decide) rfl (fun c16 => ?_) (fun c16 => ?_)
      · refine v_bipush (v := (-100)) dX3_like_28 (by decide) rfl ?_
        exact v_iret dX3_like_30 rfl ⟨Nat.le_of_ble_eq_true rfl, Nat.le_of_ble_eq_true rfl⟩ (⟨rfl, rfl⟩)
      · refine v_iload_n dX3_like_19 rfl rfl ?_
        refine v_iconst (v := nI 0) dX3_like_20 (by decide) rfl ?_
        refine v_iconst (v := nI 2) dX3_like_21 (by decide) rfl ?_
        by_cases q22 : InR p 3
        · refine v_csf dX3_like_22 cw_X3_40 ts_X3_in ((c_in0 G hp p 2 (by decide)).yes ‹_›) (by rfl) (by rfl) (Nat.le_of_ble_eq_true rfl) (Nat.le_of_ble_eq_true rfl) (Nat.le_of_ble_eq_true rfl) (Nat.le_of_ble_eq_true rfl) (Nat.le_of_ble_eq_true rfl) rfl ?_
          refine v_if_ne (tgt := 31) dX3_like_25 (by decide) rfl (fun _ => ?_) (fun q => absurd q (by decide))
          exact absurd ⟨⟨q1, q8, c16⟩, q22⟩ h
        · refine v_csf dX3_like_22 cw_X3_40 ts_X3_in ((c_in0 G hp p 2 (by decide)).no ‹_›) (by rfl) (by rfl) (Nat.le_of_ble_eq_true rfl) (Nat.le_of_ble_eq_true rfl) (Nat.le_of_ble_eq_true rfl) (Nat.le_of_ble_eq_true rfl) (Nat.le_of_ble_eq_true rfl) rfl ?_
          refine v_if_ne (tgt := 31) dX3_like_25 (by decide) rfl (fun q => absurd (by decide) q) (fun _ => ?_)
          refine v_bipush (v := (-100)) dX3_like_28 (by decide) rfl ?_
          exact v_iret dX3_like_30 rfl ⟨Nat.le_of_ble_eq_true rfl, Nat.le_of_ble_eq_true rfl⟩ (⟨rfl, rfl⟩)
    · refine v_csf dX3_like_8 cw_X3_87 ts_X3_isMarker ((c_isMarker G hp x).no ‹_›) (by rfl) (by rfl) (Nat.le_of_ble_eq_true rfl) (Nat.le_of_ble_eq_true rfl) (Nat.le_of_ble_eq_true rfl) (Nat.le_of_ble_eq_true rfl) (Nat.le_of_ble_eq_true rfl) rfl ?_
      refine v_if_eq (tgt := 28) dX3_like_11 (by decide) rfl (fun _ => ?_) (fun q => absurd (by decide) q)
      refine v_bipush (v := (-100)) dX3_like_28 (by decide) rfl ?_
      exact v_iret dX3_like_30 rfl ⟨Nat.le_of_ble_eq_true rfl, Nat.le_of_ble_eq_true rfl⟩ (⟨rfl, rfl⟩)
  · refine v_csf dX3_like_1 cw_X3_87 ts_X3_isMarker ((c_isMarker G hp z).no ‹_›) (by rfl) (by rfl) (Nat.le_of_ble_eq_true rfl) (Nat.le_of_ble_eq_true rfl) (Nat.le_of_ble_eq_true rfl) (Nat.le_of_ble_eq_true rfl) (Nat.le_of_ble_eq_true rfl) rfl ?_
    refine v_if_eq (tgt := 28) dX3_like_4 (by decide) rfl (fun _ => ?_) (fun q => absurd (by decide) q)
    refine v_bipush (v := (-100)) dX3_like_28 (by decide) rfl ?_
    exact v_iret dX3_like_30 rfl ⟨Nat.le_of_ble_eq_true rfl, Nat.le_of_ble_eq_true rfl⟩ (⟨rfl, rfl⟩)
end MFACE2

