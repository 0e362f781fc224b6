-- LOOK: by first | assumption | exact set_get (by assumption) | exact (set_ne (by decide)).trans (by assumption) | exact set_get (set_get (by assumption))
/-! THE REFERENCE'S FACE: drift -/
theorem tkL_congr {p q : Nat → Int32} (num : Nat) : ∀ z, (∀ j, j < z → p j = q j) → tkL p num z = tkL q num z
  | 0, _ => rfl
  | z + 1, h => by rw [tkL, tkL, tkL_congr num z (fun j hj => h j (by omega)), h z (by omega)]
abbrev odP (s : ST) (m num : Nat) : Prop := drI (pL s m) (pN s m) ≤ drL (tkL (pL s m) num (pN s m)).1
noncomputable def dfM (s : ST) (m w : Nat) : Int32 := if w = 2 then nI (pN s m) else if w = 0 then drI (pL s m) (pN s m) else nI (cnt (odP s m) (facN (pN s m)))
section MDR2
variable (G : GG) (hp : List va_E) {s : ST} {y : YT}
theorem mm_drift_y (hM : PM G s y hp) {m w : Nat} (hm : m < 3) (hw : w < 3) : Ct G mX3_drift 2 0 0 [.ref (G.2.2.2 + 31), .int (nI m), .int (nI w)] hp (QM G hp (dfM s m w) s) := by
  have hz : pN s m ≤ 6 := pilL_le s m s.n
  have hfac := facN_le (pN s m) hz
  have main : ∀ y1 h1, PM G s y1 h1 → FrM hp h1 → y1.2.2.2.2.2 = nI (pN s m) → PilP y1.2.2.1.1 (pilL s m s.n) → ∀ l3 l4 l5 l6 : Option Value, Vm G mX3_drift 2 0 0 (QM G hp (dfM s m w) s) 24 [some (.ref (G.2.2.2 + 31)), some (.int (nI m)), some (.int (nI w)), l3, l4, l5, l6] [] h1 0 0 := by
    intro y1 h1 hM1 hF1 hmn hpl l3 l4 l5 l6
    have hpl' : ∀ j, j < pN s m → y1.2.2.1.1 j = pL s m j := hpl
    have hMf : ∀ f, PM G s (y1.1, y1.2.1, (y1.2.2.1.1, f), y1.2.2.2) (h1.set 41 (aI G 6 f)) := fun f => PM.of (hM1.pr.setRw f) hM1.pp
    have key3 : ¬ w = 2 → ¬ w = 0 → ∀ num, num ≤ facN (pN s m) → ∀ f, Vm G mX3_drift 2 0 0 (QM G hp (dfM s m w) s) 107 [some (.ref (G.2.2.2 + 31)), some (.int (nI m)), some (.int (nI w)), some (.int (drI (pL s m) (pN s m))), some (.int (nI (facN (pN s m)))), some (.int (nI (cnt (odP s m) num))), some (.int (nI num))] [] (h1.set 41 (aI G 6 f)) 0 0 := by
      intro w2 w0
      refine loop_up ?_ (fun num hnum ih => ?_)
      · intro f
        refine v_iload dX3_drift_107 rfl rfl ?_
        refine v_iload dX3_drift_109 rfl rfl ?_
        refine v_icmp_geN (tgt := 144) dX3_drift_111 (by decide) rfl (by omega) (by omega) (fun c111 => ?_) (fun c111 => ?_)
        · refine v_iload dX3_drift_144 rfl rfl ?_
          exact v_iret dX3_drift_146 rfl ⟨Nat.le_of_ble_eq_true rfl, Nat.le_of_ble_eq_true rfl⟩ (⟨by rw [dfM, if_neg w2, if_neg w0], ⟨_, hMf f⟩, hF1.set (by omega)⟩)
        · exact absurd c111 (by omega)
      · intro f
        have k0 := (hMf f).1
        refine v_iload dX3_drift_107 rfl rfl ?_
        refine v_iload dX3_drift_109 rfl rfl ?_
        refine v_icmp_geN (tgt := 144) dX3_drift_111 (by decide) rfl (by omega) (by omega) (fun c111 => ?_) (fun c111 => ?_)
        · exact absurd c111 (by omega)
        · refine v_aload_n dX3_drift_114 rfl rfl ?_
          refine v_iload dX3_drift_115 rfl rfl ?_
          refine v_cv dX3_drift_117 cw_X3_127 ⟨tn_X3_take, tl_X3_take⟩ rfl (by first | assumption | exact set_get (by assumption) | exact (set_ne (by decide)).trans (by assumption) | exact set_get (set_get (by assumption))) (m_take G _ (hMf f) (num := num) hz (by omega) hmn) (by rfl) (by rfl) (Nat.le_of_ble_eq_true rfl) (Nat.le_of_ble_eq_true rfl) (Nat.le_of_ble_eq_true rfl) (Nat.le_of_ble_eq_true rfl) (Nat.le_of_ble_eq_true rfl) rfl ?_
          rintro r h2 ⟨rfl, f2, rfl, hf2⟩
          have hM2 : PM G s _ ((h1.set 41 (aI G 6 f)).set 41 (aI G 6 f2)) := PM.of ((hMf f).pr.setRw f2) hM1.pp
          have k2 := hM2.1
          have hd : drI f2 (pN s m) = drL (tkL (pL s m) num (pN s m)).1 := by
            rw [drL, ← tkL_congr num _ hpl', tkL_len]
            exact drI_congr _ (fun j hj => hf2 j (by rw [tkL_len]; exact hj))
          refine v_iload dX3_drift_120 rfl rfl ?_
          refine v_aload_n dX3_drift_122 rfl rfl ?_
          refine v_cvf dX3_drift_123 cw_X3_123 ⟨tn_X3_drifts, tl_X3_drifts⟩ rfl (by first | assumption | exact set_get (by assumption) | exact (set_ne (by decide)).trans (by assumption) | exact set_get (set_get (by assumption))) ((m_drifts G _ hM2 hz hmn).is hd) (by rfl) (by rfl) (Nat.le_of_ble_eq_true rfl) (Nat.le_of_ble_eq_true rfl) (Nat.le_of_ble_eq_true rfl) (Nat.le_of_ble_eq_true rfl) (Nat.le_of_ble_eq_true rfl) rfl ?_
          refine v_iload_n dX3_drift_126 rfl rfl ?_
          refine v_icmp_ltA (tgt := 134) dX3_drift_127 (by decide) rfl (fun c127 => ?_) (fun c127 => ?_)
          · refine v_iconst (v := nI 0) dX3_drift_134 (by decide) rfl ?_
            refine v_iaddN dX3_drift_135 rfl ?_
            refine v_istore dX3_drift_136 (Nat.le_of_ble_eq_true rfl) rfl ?_
            refine v_iinc1 dX3_drift_138 rfl (Nat.le_of_ble_eq_true rfl) rfl ?_
            refine v_goto (tgt := 107) dX3_drift_141 (by decide) ?_
            refine v_hp (List.set_set ..) ?_
            first | (rw [cnt_t (p := odP s m) (n := num) c127] at ih; exact ih f2) | (rw [cnt_f (p := odP s m) (n := num) c127] at ih; exact ih f2)
          · refine v_iconst (v := nI 1) dX3_drift_130 (by decide) rfl ?_
            refine v_goto (tgt := 135) dX3_drift_131 (by decide) ?_
            refine v_iaddN dX3_drift_135 rfl ?_
            refine v_istore dX3_drift_136 (Nat.le_of_ble_eq_true rfl) rfl ?_
            refine v_iinc1 dX3_drift_138 rfl (Nat.le_of_ble_eq_true rfl) rfl ?_
            refine v_goto (tgt := 107) dX3_drift_141 (by decide) ?_
            refine v_hp (List.set_set ..) ?_
            first | (rw [cnt_t (p := odP s m) (n := num) c127] at ih; exact ih f2) | (rw [cnt_f (p := odP s m) (n := num) c127] at ih; exact ih f2)
    have key2 : ¬ w = 2 → ¬ w = 0 → ∀ k, k ≤ pN s m - 1 → ∀ f, ∀ l6 : Option Value, Vm G mX3_drift 2 0 0 (QM G hp (dfM s m w) s) 79 [some (.ref (G.2.2.2 + 31)), some (.int (nI m)), some (.int (nI w)), some (.int (drI (pL s m) (pN s m))), some (.int (nI (facN (k + 1)))), some (.int (nI (k + 2))), l6] [] (h1.set 41 (aI G 6 f)) 0 0 := by
      intro w2 w0
      refine loop_up ?_ (fun k hk ih => ?_)
      · intro f l6
        have k0 := (hMf f).1
        have e : facN (pN s m - 1 + 1) = facN (pN s m) := by
          cases hh : pN s m with
          | zero => rfl
          | succ q => rfl
        rw [e]
        refine v_iload dX3_drift_79 rfl rfl ?_
        refine v_aload_n dX3_drift_81 rfl rfl ?_
        refine v_getf dX3_drift_82 fl_X3_117 (by first | assumption | exact set_get (by assumption) | exact (set_ne (by decide)).trans (by assumption) | exact set_get (set_get (by assumption))) (by rfl) rfl ?_
        refine v_top (y := nI (pN s m)) (hmn) ?_
        refine v_icmp_gtN (tgt := 101) dX3_drift_85 (by decide) rfl (by omega) (by omega) (fun c85 => ?_) (fun c85 => ?_)
        · refine v_iconst (v := nI 0) dX3_drift_101 (by decide) rfl ?_
          refine v_istore dX3_drift_102 (Nat.le_of_ble_eq_true rfl) rfl ?_
          refine v_iconst (v := nI 0) dX3_drift_104 (by decide) rfl ?_
          refine v_istore dX3_drift_105 (Nat.le_of_ble_eq_true rfl) rfl ?_
          exact key3 w2 w0 0 (Nat.zero_le _) f
        · exact absurd c85 (by omega)
      · intro f l6
        have k0 := (hMf f).1
        have e : facN (k + 1) * (k + 2) = facN (k + 1 + 1) := by rw [Nat.mul_comm]; rfl
        refine v_iload dX3_drift_79 rfl rfl ?_
        refine v_aload_n dX3_drift_81 rfl rfl ?_
        refine v_getf dX3_drift_82 fl_X3_117 (by first | assumption | exact set_get (by assumption) | exact (set_ne (by decide)).trans (by assumption) | exact set_get (set_get (by assumption))) (by rfl) rfl ?_
        refine v_top (y := nI (pN s m)) (hmn) ?_
        refine v_icmp_gtN (tgt := 101) dX3_drift_85 (by decide) rfl (by omega) (by omega) (fun c85 => ?_) (fun c85 => ?_)
        · exact absurd c85 (by omega)
        · refine v_iload dX3_drift_88 rfl rfl ?_
          refine v_iload dX3_drift_90 rfl rfl ?_
          refine v_imulN dX3_drift_92 rfl ?_
          refine v_top (y := nI (facN (k + 1 + 1))) (by rw [e]) ?_
          refine v_istore dX3_drift_93 (Nat.le_of_ble_eq_true rfl) rfl ?_
          refine v_iinc1 dX3_drift_95 rfl (Nat.le_of_ble_eq_true rfl) rfl ?_
          refine v_goto (tgt := 79) dX3_drift_98 (by decide) ?_
          exact ih f _
    have key1 : ¬ w = 2 → ∀ k, k ≤ pN s m → ∀ f, (∀ j, j < k → f j = pL s m j) → ∀ l4 l5 l6 : Option Value, Vm G mX3_drift 2 0 0 (QM G hp (dfM s m w) s) 36 [some (.ref (G.2.2.2 + 31)), some (.int (nI m)), some (.int (nI w)), some (.int (nI k)), l4, l5, l6] [] (h1.set 41 (aI G 6 f)) 0 0 := by
      intro w2
      refine loop_up ?_ (fun k hk ih => ?_)
      · intro f hf l4 l5 l6
        have k0 := (hMf f).1
        refine v_iload_n dX3_drift_36 rfl rfl ?_
        refine v_aload_n dX3_drift_37 rfl rfl ?_
        refine v_getf dX3_drift_38 fl_X3_117 (by first | assumption | exact set_get (by assumption) | exact (set_ne (by decide)).trans (by assumption) | exact set_get (set_get (by assumption))) (by rfl) rfl ?_
        refine v_top (y := nI (pN s m)) (hmn) ?_
        refine v_icmp_geN (tgt := 62) dX3_drift_41 (by decide) rfl (by omega) (by omega) (fun c41 => ?_) (fun c41 => ?_)
        · refine v_aload_n dX3_drift_62 rfl rfl ?_
          refine v_cvf dX3_drift_63 cw_X3_123 ⟨tn_X3_drifts, tl_X3_drifts⟩ rfl (by first | assumption | exact set_get (by assumption) | exact (set_ne (by decide)).trans (by assumption) | exact set_get (set_get (by assumption))) ((m_drifts G _ (hMf f) hz hmn).is (drI_congr _ hf)) (by rfl) (by rfl) (Nat.le_of_ble_eq_true rfl) (Nat.le_of_ble_eq_true rfl) (Nat.le_of_ble_eq_true rfl) (Nat.le_of_ble_eq_true rfl) (Nat.le_of_ble_eq_true rfl) rfl ?_
          refine v_istore_n dX3_drift_66 (Nat.le_of_ble_eq_true rfl) rfl ?_
          refine v_iload_n dX3_drift_67 rfl rfl ?_
          refine v_if_neN (tgt := 73) dX3_drift_68 (by decide) rfl (by omega) (fun c68 => ?_) (fun c68 => ?_)
          · refine v_iconst (v := nI 1) dX3_drift_73 (by decide) rfl ?_
            refine v_istore dX3_drift_74 (Nat.le_of_ble_eq_true rfl) rfl ?_
            refine v_iconst (v := nI 2) dX3_drift_76 (by decide) rfl ?_
            refine v_istore dX3_drift_77 (Nat.le_of_ble_eq_true rfl) rfl ?_
            exact key2 w2 c68 0 (Nat.zero_le _) f _
          · refine v_iload_n dX3_drift_71 rfl rfl ?_
            exact v_iret dX3_drift_72 rfl ⟨Nat.le_of_ble_eq_true rfl, Nat.le_of_ble_eq_true rfl⟩ (⟨by rw [dfM, if_neg w2, if_pos c68], ⟨_, hMf f⟩, hF1.set (by omega)⟩)
        · exact absurd c41 (by omega)
      · intro f hf l4 l5 l6
        obtain ⟨m0, m1, m2, m3, m4, m5, m6, m7, m8, m9, m10⟩ := (hMf f).pr
        refine v_iload_n dX3_drift_36 rfl rfl ?_
        refine v_aload_n dX3_drift_37 rfl rfl ?_
        refine v_getf dX3_drift_38 fl_X3_117 (by first | assumption | exact set_get (by assumption) | exact (set_ne (by decide)).trans (by assumption) | exact set_get (set_get (by assumption))) (by rfl) rfl ?_
        refine v_top (y := nI (pN s m)) (hmn) ?_
        refine v_icmp_geN (tgt := 62) dX3_drift_41 (by decide) rfl (by omega) (by omega) (fun c41 => ?_) (fun c41 => ?_)
        · exact absurd c41 (by omega)
        · refine v_aload_n dX3_drift_44 rfl rfl ?_
          refine v_getf dX3_drift_45 fl_X3_37 (by first | assumption | exact set_get (by assumption) | exact (set_ne (by decide)).trans (by assumption) | exact set_get (set_get (by assumption))) (by rfl) rfl ?_
          refine v_iload_n dX3_drift_48 rfl rfl ?_
          refine v_aload_n dX3_drift_49 rfl rfl ?_
          refine v_getf dX3_drift_50 fl_X3_34 (by first | assumption | exact set_get (by assumption) | exact (set_ne (by decide)).trans (by assumption) | exact set_get (set_get (by assumption))) (by rfl) rfl ?_
          refine v_iload_n dX3_drift_53 rfl rfl ?_
          refine v_iald _ dX3_drift_54 (by first | assumption | exact set_get (by assumption) | exact (set_ne (by decide)).trans (by assumption) | exact set_get (set_get (by assumption))) rfl (by omega) (by decide) rfl ?_
          refine v_top (y := pL s m k) (hpl' k hk) ?_
          refine v_iast _ dX3_drift_55 (by first | assumption | exact set_get (by assumption) | exact (set_ne (by decide)).trans (by assumption) | exact set_get (set_get (by assumption))) rfl (by omega) (by decide) rfl ?_
          refine v_iinc1 dX3_drift_56 rfl (Nat.le_of_ble_eq_true rfl) rfl ?_
          refine v_goto (tgt := 36) dX3_drift_59 (by decide) ?_
          exact v_hp (List.set_set ..) (ih _ (fun j hj => by
                      by_cases e : j = k
                      · subst e; exact upd_s _ _ _
                      · exact (upd_n e).trans (hf j (by omega))) _ _ _)
    have k0 := hM1.1
    have k10 := hM1.pr.2.2.2.2.2.2.2.2.2.2
    refine v_iload_n dX3_drift_24 rfl rfl ?_
    refine v_iconst (v := nI 2) dX3_drift_25 (by decide) rfl ?_
    refine v_icmp_neN (tgt := 34) dX3_drift_26 (by decide) rfl (by omega) (by omega) (fun c26 => ?_) (fun c26 => ?_)
    · refine v_iconst (v := nI 0) dX3_drift_34 (by decide) rfl ?_
      refine v_istore_n dX3_drift_35 (Nat.le_of_ble_eq_true rfl) rfl ?_
      exact v_hp (set_same k10).symm (key1 c26 0 (Nat.zero_le _) _ (fun j hj => absurd hj (by omega)) _ _ _)
    · refine v_aload_n dX3_drift_29 rfl rfl ?_
      refine v_getf dX3_drift_30 fl_X3_117 (by first | assumption | exact set_get (by assumption) | exact (set_ne (by decide)).trans (by assumption) | exact set_get (set_get (by assumption))) (by rfl) rfl ?_
      refine v_top (y := nI (pN s m)) (hmn) ?_
      exact v_iret dX3_drift_33 rfl ⟨Nat.le_of_ble_eq_true rfl, Nat.le_of_ble_eq_true rfl⟩ (⟨by rw [dfM, if_pos c26], ⟨_, hM1⟩, hF1⟩)
  have k0 := hM.1
  refine Ct.start 4 (by decide) rfl (Nat.le_of_ble_eq_true rfl) ?_
  refine v_iload_n dX3_drift_0 rfl rfl ?_
  refine v_csf dX3_drift_1 cw_X3_87 ts_X3_isMarker ((c_isMarker G hp (nI m)).yes (inR_nI hm (by decide))) (by rfl) (by rfl) (Nat.le_of_ble_eq_true rfl) (Nat.le_of_ble_eq_true rfl) (Nat.le_of_ble_eq_true rfl) (Nat.le_of_ble_eq_true rfl) (Nat.le_of_ble_eq_true rfl) rfl ?_
  refine v_if_eq (tgt := 16) dX3_drift_4 (by decide) rfl (fun q => absurd q (by decide)) (fun _ => ?_)
  refine v_iload_n dX3_drift_7 rfl rfl ?_
  refine v_iconst (v := nI 0) dX3_drift_8 (by decide) rfl ?_
  refine v_iconst (v := nI 2) dX3_drift_9 (by decide) rfl ?_
  refine v_csf dX3_drift_10 cw_X3_40 ts_X3_in ((c_in0 G hp (nI w) 2 (by decide)).yes (inR_nI hw (by decide))) (by rfl) (by rfl) (Nat.le_of_ble_eq_true rfl) (Nat.le_of_ble_eq_true rfl) (Nat.le_of_ble_eq_true rfl) (Nat.le_of_ble_eq_true rfl) (Nat.le_of_ble_eq_true rfl) rfl ?_
  refine v_if_ne (tgt := 19) dX3_drift_13 (by decide) rfl (fun _ => ?_) (fun q => absurd q (by decide))
  refine v_aload_n dX3_drift_19 rfl rfl ?_
  refine v_iload_n dX3_drift_20 rfl rfl ?_
  refine v_cv dX3_drift_21 cw_X3_120 ⟨tn_X3_collect, tl_X3_collect⟩ rfl (by first | assumption | exact set_get (by assumption) | exact (set_ne (by decide)).trans (by assumption) | exact set_get (set_get (by assumption))) (m_collect G hp hM hm) (by rfl) (by rfl) (Nat.le_of_ble_eq_true rfl) (Nat.le_of_ble_eq_true rfl) (Nat.le_of_ble_eq_true rfl) (Nat.le_of_ble_eq_true rfl) (Nat.le_of_ble_eq_true rfl) rfl ?_
  rintro r h1 ⟨rfl, y1, hM1, hF1, hmn, hpl⟩
  exact main y1 h1 hM1 hF1 hmn hpl _ _ _ _
theorem mm_drift_n {z p : Int32} (h : ¬ (InR z 3 ∧ InR p 3)) : Ct G mX3_drift 2 0 0 [.ref (G.2.2.2 + 31), .int z, .int p] hp (Qf (some (.int (-100))) hp) := by
  refine Ct.start 4 (by decide) rfl (Nat.le_of_ble_eq_true rfl) ?_
  refine v_iload_n dX3_drift_0 rfl rfl ?_
  by_cases q1 : InR z 3
  · refine v_csf dX3_drift_1 cw_X3_87 ts_X3_isMarker ((c_isMarker G hp z).yes ‹_›) (by rfl) (by rfl) (Nat.le_of_ble_eq_true rfl) (Nat.le_of_ble_eq_true rfl) (Nat.le_of_ble_eq_true rfl) (Nat.le_of_ble_eq_true rfl) (Nat.le_of_ble_eq_true rfl) rfl ?_
    refine v_if_eq (tgt := 16) dX3_drift_4 (by decide) rfl (fun q => absurd q (by decide)) (fun _ => ?_)
    refine v_iload_n dX3_drift_7 rfl rfl ?_
    refine v_iconst (v := nI 0) dX3_drift_8 (by decide) rfl ?_
    refine v_iconst (v := nI 2) dX3_drift_9 (by decide) rfl ?_
    by_cases q10 : InR p 3
    · refine v_csf dX3_drift_10 cw_X3_40 ts_X3_in ((c_in0 G hp p 2 (by decide)).yes ‹_›) (by rfl) (by rfl) (Nat.le_of_ble_eq_true rfl) (Nat.le_of_ble_eq_true rfl) (Nat.le_of_ble_eq_true rfl) (Nat.le_of_ble_eq_true rfl) (Nat.le_of_ble_eq_true rfl) rfl ?_
      refine v_if_ne (tgt := 19) dX3_drift_13 (by decide) rfl (fun _ => ?_) (fun q => absurd q (by decide))
      exact absurd ⟨q1, q10⟩ h
    · refine v_csf dX3_drift_10 cw_X3_40 ts_X3_in ((c_in0 G hp p 2 (by decide)).no ‹_›) (by rfl) (by rfl) (Nat.le_of_ble_eq_true rfl) (Nat.le_of_ble_eq_true rfl) (Nat.le_of_ble_eq_true rfl) (Nat.le_of_ble_eq_true rfl) (Nat.le_of_ble_eq_true rfl) rfl ?_
      refine v_if_ne (tgt := 19) dX3_drift_13 (by decide) rfl (fun q => absurd (by decide) q) (fun _ => ?_)
      refine v_bipush (v := (-100)) dX3_drift_16 (by decide) rfl ?_
      exact v_iret dX3_drift_18 rfl ⟨Nat.le_of_ble_eq_true rfl, Nat.le_of_ble_eq_true rfl⟩ (⟨rfl, rfl⟩)
  · refine v_csf dX3_drift_1 cw_X3_87 ts_X3_isMarker ((c_isMarker G hp z).no ‹_›) (by rfl) (by rfl) (Nat.le_of_ble_eq_true rfl) (Nat.le_of_ble_eq_true rfl) (Nat.le_of_ble_eq_true rfl) (Nat.le_of_ble_eq_true rfl) (Nat.le_of_ble_eq_true rfl) rfl ?_
    refine v_if_eq (tgt := 16) dX3_drift_4 (by decide) rfl (fun _ => ?_) (fun q => absurd (by decide) q)
    refine v_bipush (v := (-100)) dX3_drift_16 (by decide) rfl ?_
    exact v_iret dX3_drift_18 rfl ⟨Nat.le_of_ble_eq_true rfl, Nat.le_of_ble_eq_true rfl⟩ (⟨rfl, rfl⟩)
end MDR2

