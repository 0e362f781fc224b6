/-! THE REFERENCE: its cells, its LEVELS, senses, points -/
abbrev YT : Type := ((Nat → Int32) × (Nat → Int32) × (Nat → Int32) × (Nat → Int32) × (Nat → Int32)) × ((Nat → Int32) × (Nat → Int32) × (Nat → Int32)) × ((Nat → Int32) × (Nat → Int32)) × (Int32 × Int32 × Int32)
def PM (G : GG) (s : ST) (y : YT) (hp : List va_E) : Prop :=
  hp[31]? = some (ob 3 [.ref (G.2.2.2 + 32), .ref (G.2.2.2 + 33), .ref (G.2.2.2 + 34), .ref (G.2.2.2 + 35), .ref (G.2.2.2 + 36), .int (nI s.n), .ref (G.2.2.2 + 37), .ref (G.2.2.2 + 38), .ref (G.2.2.2 + 39), .long s.tc, .int y.2.2.2.1, .int y.2.2.2.2.1, .int y.2.2.2.2.2, .ref (G.2.2.2 + 40), .ref (G.2.2.2 + 41)]) ∧
  hp[32]? = some (aI G 8 y.1.1) ∧ hp[33]? = some (aI G 8 y.1.2.1) ∧ hp[34]? = some (aI G 8 y.1.2.2.1) ∧ hp[35]? = some (aI G 32 y.1.2.2.2.1) ∧ hp[36]? = some (aI G 32 y.1.2.2.2.2) ∧ hp[37]? = some (aI G 48 y.2.1.1) ∧ hp[38]? = some (aI G 36 y.2.1.2.1) ∧ hp[39]? = some (aI G 12 y.2.1.2.2) ∧ hp[40]? = some (aI G 6 y.2.2.1.1) ∧ hp[41]? = some (aI G 6 y.2.2.1.2) ∧
  (∀ j, j < 8 → y.1.1 j = s.kd j ∧ y.1.2.1 j = s.fc j ∧ y.1.2.2.1 j = s.wt j) ∧ (∀ j, j < 8 → ∀ k, k < 4 → y.1.2.2.2.1 (4 * j + k) = s.fr j k ∧ y.1.2.2.2.2 (4 * j + k) = s.to j k) ∧ (∀ w, w < s.n → ∀ i, i < 4 → y.2.1.1 (4 * w + i) = s.wf w i) ∧ (∀ m, m < 3 → ∀ w, w < 12 → y.2.1.2.1 (12 * m + w) = if w < s.n then s.mr w m else -900) ∧ (∀ w, w < 12 → y.2.1.2.2 w = if w < s.n then s.tr w else -900) ∧ s.n ≤ 12
theorem add0 (x : Int32) : x + nI 0 = x := Int32.add_zero x
theorem or0 (x : Int32) : x ||| nI 0 = x := Int32.or_zero
section MODEL1
variable (G : GG) (hp : List va_E) {s : ST} {y : YT}
theorem m_has (hM : PM G s y hp) {i k : Nat} (hi : i < 8) (hk : k < 4) (v : Int32) : Ct G mX3_has 1 0 0 [.ref (G.2.2.2 + 31), .int (nI i), .int (nI k), .int v] hp (Qf (some (.int (bP (hasS (s.fr i) (s.to i) k v)))) hp) := by
  obtain ⟨m0, m1, m2, m3, m4, m5, m6, m7, m8, m9, m10, hK, hF, hWf, hMk, hTr, hn⟩ := hM
  refine Ct.start 0 (by decide) rfl (Nat.le_of_ble_eq_true rfl) ?_
  refine v_iload_n dX3_has_0 rfl rfl ?_
  refine v_aload_n dX3_has_1 rfl rfl ?_
  refine v_getf dX3_has_2 fl_X3_19 (by assumption) (by rfl) rfl ?_
  refine v_iconst (v := nI 4) dX3_has_5 (by decide) rfl ?_
  refine v_iload_n dX3_has_6 rfl rfl ?_
  refine v_imulN dX3_has_7 rfl ?_
  refine v_iload_n dX3_has_8 rfl rfl ?_
  refine v_iaddN dX3_has_9 rfl ?_
  refine v_iald _ dX3_has_10 (by assumption) rfl (by omega) (by decide) rfl ?_
  refine v_top (y := s.fr i k) ((hF i hi k hk).1) ?_
  refine v_aload_n dX3_has_11 rfl rfl ?_
  refine v_getf dX3_has_12 fl_X3_22 (by assumption) (by rfl) rfl ?_
  refine v_iconst (v := nI 4) dX3_has_15 (by decide) rfl ?_
  refine v_iload_n dX3_has_16 rfl rfl ?_
  refine v_imulN dX3_has_17 rfl ?_
  refine v_iload_n dX3_has_18 rfl rfl ?_
  refine v_iaddN dX3_has_19 rfl ?_
  refine v_iald _ dX3_has_20 (by assumption) rfl (by omega) (by decide) rfl ?_
  refine v_top (y := s.to i k) ((hF i hi k hk).2) ?_
  by_cases q21 : s.fr i k ≤ v ∧ v ≤ s.to i k
  · refine v_csf dX3_has_21 cw_X3_40 ts_X3_in ((c_in G hp v (s.fr i k) (s.to i k)).yes ‹_›) (by rfl) (by rfl) (Nat.le_of_ble_eq_true rfl) (Nat.le_of_ble_eq_true rfl) (Nat.le_of_ble_eq_true rfl) (Nat.le_of_ble_eq_true rfl) (Nat.le_of_ble_eq_true rfl) rfl ?_
    exact v_zret dX3_has_24 rfl (by rfl) ⟨Nat.le_of_ble_eq_true rfl, Nat.le_of_ble_eq_true rfl⟩ (⟨by first | (rw [bP_t q21]; done) | (rw [bP_f q21]; done), rfl⟩)
  · refine v_csf dX3_has_21 cw_X3_40 ts_X3_in ((c_in G hp v (s.fr i k) (s.to i k)).no ‹_›) (by rfl) (by rfl) (Nat.le_of_ble_eq_true rfl) (Nat.le_of_ble_eq_true rfl) (Nat.le_of_ble_eq_true rfl) (Nat.le_of_ble_eq_true rfl) (Nat.le_of_ble_eq_true rfl) rfl ?_
    exact v_zret dX3_has_24 rfl (by rfl) ⟨Nat.le_of_ble_eq_true rfl, Nat.le_of_ble_eq_true rfl⟩ (⟨by first | (rw [bP_t q21]; done) | (rw [bP_f q21]; done), rfl⟩)
theorem m_strict (hM : PM G s y hp) {i : Nat} (hi : i < 8) (v : Int32) : Ct G mX3_strict 2 0 0 [.ref (G.2.2.2 + 31), .int (nI i), .int v] hp (Qf (some (.int (oI (strictO (s.fr i) (s.to i) v)))) hp) := by
  have m0 := hM.1
  refine Ct.start 1 (by decide) rfl (Nat.le_of_ble_eq_true rfl) ?_
  refine v_iconst (v := nI 3) dX3_strict_0 (by decide) rfl ?_
  refine v_istore_n dX3_strict_1 (Nat.le_of_ble_eq_true rfl) rfl ?_
  refine v_iload_n dX3_strict_2 rfl rfl ?_
  refine v_if_lt (tgt := 24) dX3_strict_3 (by decide) rfl (fun q => absurd q (by decide)) (fun _ => ?_)
  refine v_aload_n dX3_strict_6 rfl rfl ?_
  refine v_iload_n dX3_strict_7 rfl rfl ?_
  refine v_iload_n dX3_strict_8 rfl rfl ?_
  refine v_iload_n dX3_strict_9 rfl rfl ?_
  by_cases q10 : hasS (s.fr i) (s.to i) 3 v
  · refine v_cvf dX3_strict_10 cw_X3_48 ⟨tn_X3_has, tl_X3_has⟩ rfl (by assumption) ((m_has G hp hM hi (k := 3) (by decide) v).yes ‹_›) (by rfl) (by rfl) (Nat.le_of_ble_eq_true rfl) (Nat.le_of_ble_eq_true rfl) (Nat.le_of_ble_eq_true rfl) (Nat.le_of_ble_eq_true rfl) (Nat.le_of_ble_eq_true rfl) rfl ?_
    refine v_if_eq (tgt := 18) dX3_strict_13 (by decide) rfl (fun q => absurd q (by decide)) (fun _ => ?_)
    refine v_iload_n dX3_strict_16 rfl rfl ?_
    exact v_iret dX3_strict_17 rfl ⟨Nat.le_of_ble_eq_true rfl, Nat.le_of_ble_eq_true rfl⟩ (⟨by unfold strictO; (repeat' split) <;> first | rfl | contradiction, rfl⟩)
  · refine v_cvf dX3_strict_10 cw_X3_48 ⟨tn_X3_has, tl_X3_has⟩ rfl (by assumption) ((m_has G hp hM hi (k := 3) (by decide) v).no ‹_›) (by rfl) (by rfl) (Nat.le_of_ble_eq_true rfl) (Nat.le_of_ble_eq_true rfl) (Nat.le_of_ble_eq_true rfl) (Nat.le_of_ble_eq_true rfl) (Nat.le_of_ble_eq_true rfl) rfl ?_
    refine v_if_eq (tgt := 18) dX3_strict_13 (by decide) rfl (fun _ => ?_) (fun q => absurd (by decide) q)
    refine v_iinc (v := nI 2) dX3_strict_18 rfl (by decide) (Nat.le_of_ble_eq_true rfl) rfl ?_
    refine v_goto (tgt := 2) dX3_strict_21 (by decide) ?_
    refine v_iload_n dX3_strict_2 rfl rfl ?_
    refine v_if_lt (tgt := 24) dX3_strict_3 (by decide) rfl (fun q => absurd q (by decide)) (fun _ => ?_)
    refine v_aload_n dX3_strict_6 rfl rfl ?_
    refine v_iload_n dX3_strict_7 rfl rfl ?_
    refine v_iload_n dX3_strict_8 rfl rfl ?_
    refine v_iload_n dX3_strict_9 rfl rfl ?_
    by_cases q10 : hasS (s.fr i) (s.to i) 2 v
    · refine v_cvf dX3_strict_10 cw_X3_48 ⟨tn_X3_has, tl_X3_has⟩ rfl (by assumption) ((m_has G hp hM hi (k := 2) (by decide) v).yes ‹_›) (by rfl) (by rfl) (Nat.le_of_ble_eq_true rfl) (Nat.le_of_ble_eq_true rfl) (Nat.le_of_ble_eq_true rfl) (Nat.le_of_ble_eq_true rfl) (Nat.le_of_ble_eq_true rfl) rfl ?_
      refine v_if_eq (tgt := 18) dX3_strict_13 (by decide) rfl (fun q => absurd q (by decide)) (fun _ => ?_)
      refine v_iload_n dX3_strict_16 rfl rfl ?_
      exact v_iret dX3_strict_17 rfl ⟨Nat.le_of_ble_eq_true rfl, Nat.le_of_ble_eq_true rfl⟩ (⟨by unfold strictO; (repeat' split) <;> first | rfl | contradiction, rfl⟩)
    · refine v_cvf dX3_strict_10 cw_X3_48 ⟨tn_X3_has, tl_X3_has⟩ rfl (by assumption) ((m_has G hp hM hi (k := 2) (by decide) v).no ‹_›) (by rfl) (by rfl) (Nat.le_of_ble_eq_true rfl) (Nat.le_of_ble_eq_true rfl) (Nat.le_of_ble_eq_true rfl) (Nat.le_of_ble_eq_true rfl) (Nat.le_of_ble_eq_true rfl) rfl ?_
      refine v_if_eq (tgt := 18) dX3_strict_13 (by decide) rfl (fun _ => ?_) (fun q => absurd (by decide) q)
      refine v_iinc (v := nI 1) dX3_strict_18 rfl (by decide) (Nat.le_of_ble_eq_true rfl) rfl ?_
      refine v_goto (tgt := 2) dX3_strict_21 (by decide) ?_
      refine v_iload_n dX3_strict_2 rfl rfl ?_
      refine v_if_lt (tgt := 24) dX3_strict_3 (by decide) rfl (fun q => absurd q (by decide)) (fun _ => ?_)
      refine v_aload_n dX3_strict_6 rfl rfl ?_
      refine v_iload_n dX3_strict_7 rfl rfl ?_
      refine v_iload_n dX3_strict_8 rfl rfl ?_
      refine v_iload_n dX3_strict_9 rfl rfl ?_
      by_cases q10 : hasS (s.fr i) (s.to i) 1 v
      · refine v_cvf dX3_strict_10 cw_X3_48 ⟨tn_X3_has, tl_X3_has⟩ rfl (by assumption) ((m_has G hp hM hi (k := 1) (by decide) v).yes ‹_›) (by rfl) (by rfl) (Nat.le_of_ble_eq_true rfl) (Nat.le_of_ble_eq_true rfl) (Nat.le_of_ble_eq_true rfl) (Nat.le_of_ble_eq_true rfl) (Nat.le_of_ble_eq_true rfl) rfl ?_
        refine v_if_eq (tgt := 18) dX3_strict_13 (by decide) rfl (fun q => absurd q (by decide)) (fun _ => ?_)
        refine v_iload_n dX3_strict_16 rfl rfl ?_
        exact v_iret dX3_strict_17 rfl ⟨Nat.le_of_ble_eq_true rfl, Nat.le_of_ble_eq_true rfl⟩ (⟨by unfold strictO; (repeat' split) <;> first | rfl | contradiction, rfl⟩)
      · refine v_cvf dX3_strict_10 cw_X3_48 ⟨tn_X3_has, tl_X3_has⟩ rfl (by assumption) ((m_has G hp hM hi (k := 1) (by decide) v).no ‹_›) (by rfl) (by rfl) (Nat.le_of_ble_eq_true rfl) (Nat.le_of_ble_eq_true rfl) (Nat.le_of_ble_eq_true rfl) (Nat.le_of_ble_eq_true rfl) (Nat.le_of_ble_eq_true rfl) rfl ?_
        refine v_if_eq (tgt := 18) dX3_strict_13 (by decide) rfl (fun _ => ?_) (fun q => absurd (by decide) q)
        refine v_iinc (v := nI 0) dX3_strict_18 rfl (by decide) (Nat.le_of_ble_eq_true rfl) rfl ?_
        refine v_goto (tgt := 2) dX3_strict_21 (by decide) ?_
        refine v_iload_n dX3_strict_2 rfl rfl ?_
        refine v_if_lt (tgt := 24) dX3_strict_3 (by decide) rfl (fun q => absurd q (by decide)) (fun _ => ?_)
        refine v_aload_n dX3_strict_6 rfl rfl ?_
        refine v_iload_n dX3_strict_7 rfl rfl ?_
        refine v_iload_n dX3_strict_8 rfl rfl ?_
        refine v_iload_n dX3_strict_9 rfl rfl ?_
        by_cases q10 : hasS (s.fr i) (s.to i) 0 v
        · refine v_cvf dX3_strict_10 cw_X3_48 ⟨tn_X3_has, tl_X3_has⟩ rfl (by assumption) ((m_has G hp hM hi (k := 0) (by decide) v).yes ‹_›) (by rfl) (by rfl) (Nat.le_of_ble_eq_true rfl) (Nat.le_of_ble_eq_true rfl) (Nat.le_of_ble_eq_true rfl) (Nat.le_of_ble_eq_true rfl) (Nat.le_of_ble_eq_true rfl) rfl ?_
          refine v_if_eq (tgt := 18) dX3_strict_13 (by decide) rfl (fun q => absurd q (by decide)) (fun _ => ?_)
          refine v_iload_n dX3_strict_16 rfl rfl ?_
          exact v_iret dX3_strict_17 rfl ⟨Nat.le_of_ble_eq_true rfl, Nat.le_of_ble_eq_true rfl⟩ (⟨by unfold strictO; (repeat' split) <;> first | rfl | contradiction, rfl⟩)
        · refine v_cvf dX3_strict_10 cw_X3_48 ⟨tn_X3_has, tl_X3_has⟩ rfl (by assumption) ((m_has G hp hM hi (k := 0) (by decide) v).no ‹_›) (by rfl) (by rfl) (Nat.le_of_ble_eq_true rfl) (Nat.le_of_ble_eq_true rfl) (Nat.le_of_ble_eq_true rfl) (Nat.le_of_ble_eq_true rfl) (Nat.le_of_ble_eq_true rfl) rfl ?_
          refine v_if_eq (tgt := 18) dX3_strict_13 (by decide) rfl (fun _ => ?_) (fun q => absurd (by decide) q)
          refine v_iinc (v := (-1)) dX3_strict_18 rfl (by decide) (Nat.le_of_ble_eq_true rfl) rfl ?_
          refine v_goto (tgt := 2) dX3_strict_21 (by decide) ?_
          refine v_iload_n dX3_strict_2 rfl rfl ?_
          refine v_if_lt (tgt := 24) dX3_strict_3 (by decide) rfl (fun _ => ?_) (fun q => absurd (by decide) q)
          refine v_sipush (v := (-900)) dX3_strict_24 (by decide) rfl ?_
          exact v_iret dX3_strict_27 rfl ⟨Nat.le_of_ble_eq_true rfl, Nat.le_of_ble_eq_true rfl⟩ (⟨by unfold strictO; (repeat' split) <;> first | rfl | contradiction, rfl⟩)
theorem m_filled (hM : PM G s y hp) {i : Nat} (hi : i < 8) (v : Int32) : Ct G mX3_filled 3 0 0 [.ref (G.2.2.2 + 31), .int (nI i), .int v] hp (Qf (some (.int (nI (filledN (s.fr i) (s.to i) v)))) hp) := by
  obtain ⟨m0, m1, m2, m3, m4, m5, m6, m7, m8, m9, m10, hK, hF, hWf, hMk, hTr, hn⟩ := id hM
  refine Ct.start 2 (by decide) rfl (Nat.le_of_ble_eq_true rfl) ?_
  by_cases hu : oI (strictO (s.fr i) (s.to i) v) = -900
  · rw [filled_none hu]
    refine v_aload_n dX3_filled_0 rfl rfl ?_
    refine v_iload_n dX3_filled_1 rfl rfl ?_
    refine v_iload_n dX3_filled_2 rfl rfl ?_
    refine v_cvf dX3_filled_3 cw_X3_51 ⟨tn_X3_strict, tl_X3_strict⟩ rfl (by assumption) ((m_strict G hp hM hi v).is hu) (by rfl) (by rfl) (Nat.le_of_ble_eq_true rfl) (Nat.le_of_ble_eq_true rfl) (Nat.le_of_ble_eq_true rfl) (Nat.le_of_ble_eq_true rfl) (Nat.le_of_ble_eq_true rfl) rfl ?_
    refine v_istore_n dX3_filled_6 (Nat.le_of_ble_eq_true rfl) rfl ?_
    refine v_iconst (v := nI 3) dX3_filled_7 (by decide) rfl ?_
    refine v_istore dX3_filled_8 (Nat.le_of_ble_eq_true rfl) rfl ?_
    refine v_iload dX3_filled_10 rfl rfl ?_
    refine v_if_lt (tgt := 71) dX3_filled_12 (by decide) rfl (fun q => absurd q (by decide)) (fun _ => ?_)
    refine v_iload_n dX3_filled_15 rfl rfl ?_
    refine v_sipush (v := (-900)) dX3_filled_16 (by decide) rfl ?_
    refine v_icmp_ne (tgt := 71) dX3_filled_19 (by decide) rfl (fun q => absurd (by decide) q) (fun _ => ?_)
    refine v_aload_n dX3_filled_22 rfl rfl ?_
    refine v_getf dX3_filled_23 fl_X3_19 (by assumption) (by rfl) rfl ?_
    refine v_iconst (v := nI 4) dX3_filled_26 (by decide) rfl ?_
    refine v_iload_n dX3_filled_27 rfl rfl ?_
    refine v_imulN dX3_filled_28 rfl ?_
    refine v_iload dX3_filled_29 rfl rfl ?_
    refine v_iaddN dX3_filled_31 rfl ?_
    refine v_iald _ dX3_filled_32 (by assumption) rfl (by omega) (by decide) rfl ?_
    refine v_top (y := s.fr i 3) ((hF i hi 3 (by decide)).1) ?_
    refine v_aload_n dX3_filled_33 rfl rfl ?_
    refine v_getf dX3_filled_34 fl_X3_22 (by assumption) (by rfl) rfl ?_
    refine v_iconst (v := nI 4) dX3_filled_37 (by decide) rfl ?_
    refine v_iload_n dX3_filled_38 rfl rfl ?_
    refine v_imulN dX3_filled_39 rfl ?_
    refine v_iload dX3_filled_40 rfl rfl ?_
    refine v_iaddN dX3_filled_42 rfl ?_
    refine v_iald _ dX3_filled_43 (by assumption) rfl (by omega) (by decide) rfl ?_
    refine v_top (y := s.to i 3) ((hF i hi 3 (by decide)).2) ?_
    refine v_icmp_gtA (tgt := 65) dX3_filled_44 (by decide) rfl (fun c44 => ?_) (fun c44 => ?_)
    · refine v_iinc (v := nI 2) dX3_filled_65 rfl (by decide) (Nat.le_of_ble_eq_true rfl) rfl ?_
      refine v_goto (tgt := 10) dX3_filled_68 (by decide) ?_
      refine v_iload dX3_filled_10 rfl rfl ?_
      refine v_if_lt (tgt := 71) dX3_filled_12 (by decide) rfl (fun q => absurd q (by decide)) (fun _ => ?_)
      refine v_iload_n dX3_filled_15 rfl rfl ?_
      refine v_sipush (v := (-900)) dX3_filled_16 (by decide) rfl ?_
      refine v_icmp_ne (tgt := 71) dX3_filled_19 (by decide) rfl (fun q => absurd (by decide) q) (fun _ => ?_)
      refine v_aload_n dX3_filled_22 rfl rfl ?_
      refine v_getf dX3_filled_23 fl_X3_19 (by assumption) (by rfl) rfl ?_
      refine v_iconst (v := nI 4) dX3_filled_26 (by decide) rfl ?_
      refine v_iload_n dX3_filled_27 rfl rfl ?_
      refine v_imulN dX3_filled_28 rfl ?_
      refine v_iload dX3_filled_29 rfl rfl ?_
      refine v_iaddN dX3_filled_31 rfl ?_
      refine v_iald _ dX3_filled_32 (by assumption) rfl (by omega) (by decide) rfl ?_
      refine v_top (y := s.fr i 2) ((hF i hi 2 (by decide)).1) ?_
      refine v_aload_n dX3_filled_33 rfl rfl ?_
      refine v_getf dX3_filled_34 fl_X3_22 (by assumption) (by rfl) rfl ?_
      refine v_iconst (v := nI 4) dX3_filled_37 (by decide) rfl ?_
      refine v_iload_n dX3_filled_38 rfl rfl ?_
      refine v_imulN dX3_filled_39 rfl ?_
      refine v_iload dX3_filled_40 rfl rfl ?_
      refine v_iaddN dX3_filled_42 rfl ?_
      refine v_iald _ dX3_filled_43 (by assumption) rfl (by omega) (by decide) rfl ?_
      refine v_top (y := s.to i 2) ((hF i hi 2 (by decide)).2) ?_
      refine v_icmp_gtA (tgt := 65) dX3_filled_44 (by decide) rfl (fun c44 => ?_) (fun c44 => ?_)
      · refine v_iinc (v := nI 1) dX3_filled_65 rfl (by decide) (Nat.le_of_ble_eq_true rfl) rfl ?_
        refine v_goto (tgt := 10) dX3_filled_68 (by decide) ?_
        refine v_iload dX3_filled_10 rfl rfl ?_
        refine v_if_lt (tgt := 71) dX3_filled_12 (by decide) rfl (fun q => absurd q (by decide)) (fun _ => ?_)
        refine v_iload_n dX3_filled_15 rfl rfl ?_
        refine v_sipush (v := (-900)) dX3_filled_16 (by decide) rfl ?_
        refine v_icmp_ne (tgt := 71) dX3_filled_19 (by decide) rfl (fun q => absurd (by decide) q) (fun _ => ?_)
        refine v_aload_n dX3_filled_22 rfl rfl ?_
        refine v_getf dX3_filled_23 fl_X3_19 (by assumption) (by rfl) rfl ?_
        refine v_iconst (v := nI 4) dX3_filled_26 (by decide) rfl ?_
        refine v_iload_n dX3_filled_27 rfl rfl ?_
        refine v_imulN dX3_filled_28 rfl ?_
        refine v_iload dX3_filled_29 rfl rfl ?_
        refine v_iaddN dX3_filled_31 rfl ?_
        refine v_iald _ dX3_filled_32 (by assumption) rfl (by omega) (by decide) rfl ?_
        refine v_top (y := s.fr i 1) ((hF i hi 1 (by decide)).1) ?_
        refine v_aload_n dX3_filled_33 rfl rfl ?_
        refine v_getf dX3_filled_34 fl_X3_22 (by assumption) (by rfl) rfl ?_
        refine v_iconst (v := nI 4) dX3_filled_37 (by decide) rfl ?_
        refine v_iload_n dX3_filled_38 rfl rfl ?_
        refine v_imulN dX3_filled_39 rfl ?_
        refine v_iload dX3_filled_40 rfl rfl ?_
        refine v_iaddN dX3_filled_42 rfl ?_
        refine v_iald _ dX3_filled_43 (by assumption) rfl (by omega) (by decide) rfl ?_
        refine v_top (y := s.to i 1) ((hF i hi 1 (by decide)).2) ?_
        refine v_icmp_gtA (tgt := 65) dX3_filled_44 (by decide) rfl (fun c44 => ?_) (fun c44 => ?_)
        · refine v_iinc (v := nI 0) dX3_filled_65 rfl (by decide) (Nat.le_of_ble_eq_true rfl) rfl ?_
          refine v_goto (tgt := 10) dX3_filled_68 (by decide) ?_
          refine v_iload dX3_filled_10 rfl rfl ?_
          refine v_if_lt (tgt := 71) dX3_filled_12 (by decide) rfl (fun q => absurd q (by decide)) (fun _ => ?_)
          refine v_iload_n dX3_filled_15 rfl rfl ?_
          refine v_sipush (v := (-900)) dX3_filled_16 (by decide) rfl ?_
          refine v_icmp_ne (tgt := 71) dX3_filled_19 (by decide) rfl (fun q => absurd (by decide) q) (fun _ => ?_)
          refine v_aload_n dX3_filled_22 rfl rfl ?_
          refine v_getf dX3_filled_23 fl_X3_19 (by assumption) (by rfl) rfl ?_
          refine v_iconst (v := nI 4) dX3_filled_26 (by decide) rfl ?_
          refine v_iload_n dX3_filled_27 rfl rfl ?_
          refine v_imulN dX3_filled_28 rfl ?_
          refine v_iload dX3_filled_29 rfl rfl ?_
          refine v_iaddN dX3_filled_31 rfl ?_
          refine v_iald _ dX3_filled_32 (by assumption) rfl (by omega) (by decide) rfl ?_
          refine v_top (y := s.fr i 0) ((hF i hi 0 (by decide)).1) ?_
          refine v_aload_n dX3_filled_33 rfl rfl ?_
          refine v_getf dX3_filled_34 fl_X3_22 (by assumption) (by rfl) rfl ?_
          refine v_iconst (v := nI 4) dX3_filled_37 (by decide) rfl ?_
          refine v_iload_n dX3_filled_38 rfl rfl ?_
          refine v_imulN dX3_filled_39 rfl ?_
          refine v_iload dX3_filled_40 rfl rfl ?_
          refine v_iaddN dX3_filled_42 rfl ?_
          refine v_iald _ dX3_filled_43 (by assumption) rfl (by omega) (by decide) rfl ?_
          refine v_top (y := s.to i 0) ((hF i hi 0 (by decide)).2) ?_
          refine v_icmp_gtA (tgt := 65) dX3_filled_44 (by decide) rfl (fun c44 => ?_) (fun c44 => ?_)
          · refine v_iinc (v := (-1)) dX3_filled_65 rfl (by decide) (Nat.le_of_ble_eq_true rfl) rfl ?_
            refine v_goto (tgt := 10) dX3_filled_68 (by decide) ?_
            refine v_iload dX3_filled_10 rfl rfl ?_
            refine v_if_lt (tgt := 71) dX3_filled_12 (by decide) rfl (fun _ => ?_) (fun q => absurd (by decide) q)
            refine v_iload_n dX3_filled_71 rfl rfl ?_
            refine v_sipush (v := (-900)) dX3_filled_72 (by decide) rfl ?_
            refine v_icmp_ne (tgt := 82) dX3_filled_75 (by decide) rfl (fun q => absurd (by decide) q) (fun _ => ?_)
            refine v_iconst (v := nI 0) dX3_filled_78 (by decide) rfl ?_
            refine v_goto (tgt := 83) dX3_filled_79 (by decide) ?_
            exact v_iret dX3_filled_83 rfl ⟨Nat.le_of_ble_eq_true rfl, Nat.le_of_ble_eq_true rfl⟩ (⟨by unfold belowN; grind, rfl⟩)
          · refine v_aload_n dX3_filled_47 rfl rfl ?_
            refine v_getf dX3_filled_48 fl_X3_22 (by assumption) (by rfl) rfl ?_
            refine v_iconst (v := nI 4) dX3_filled_51 (by decide) rfl ?_
            refine v_iload_n dX3_filled_52 rfl rfl ?_
            refine v_imulN dX3_filled_53 rfl ?_
            refine v_iload dX3_filled_54 rfl rfl ?_
            refine v_iaddN dX3_filled_56 rfl ?_
            refine v_iald _ dX3_filled_57 (by assumption) rfl (by omega) (by decide) rfl ?_
            refine v_top (y := s.to i 0) ((hF i hi 0 (by decide)).2) ?_
            refine v_iload_n dX3_filled_58 rfl rfl ?_
            refine v_icmp_ge (tgt := 65) dX3_filled_59 (by decide) rfl (fun c59 => ?_) (fun c59 => ?_)
            · refine v_iinc (v := (-1)) dX3_filled_65 rfl (by decide) (Nat.le_of_ble_eq_true rfl) rfl ?_
              refine v_goto (tgt := 10) dX3_filled_68 (by decide) ?_
              refine v_iload dX3_filled_10 rfl rfl ?_
              refine v_if_lt (tgt := 71) dX3_filled_12 (by decide) rfl (fun _ => ?_) (fun q => absurd (by decide) q)
              refine v_iload_n dX3_filled_71 rfl rfl ?_
              refine v_sipush (v := (-900)) dX3_filled_72 (by decide) rfl ?_
              refine v_icmp_ne (tgt := 82) dX3_filled_75 (by decide) rfl (fun q => absurd (by decide) q) (fun _ => ?_)
              refine v_iconst (v := nI 0) dX3_filled_78 (by decide) rfl ?_
              refine v_goto (tgt := 83) dX3_filled_79 (by decide) ?_
              exact v_iret dX3_filled_83 rfl ⟨Nat.le_of_ble_eq_true rfl, Nat.le_of_ble_eq_true rfl⟩ (⟨by unfold belowN; grind, rfl⟩)
            · refine v_iload dX3_filled_62 rfl rfl ?_
              exact v_iret dX3_filled_64 rfl ⟨Nat.le_of_ble_eq_true rfl, Nat.le_of_ble_eq_true rfl⟩ (⟨by unfold belowN; grind, rfl⟩)
        · refine v_aload_n dX3_filled_47 rfl rfl ?_
          refine v_getf dX3_filled_48 fl_X3_22 (by assumption) (by rfl) rfl ?_
          refine v_iconst (v := nI 4) dX3_filled_51 (by decide) rfl ?_
          refine v_iload_n dX3_filled_52 rfl rfl ?_
          refine v_imulN dX3_filled_53 rfl ?_
          refine v_iload dX3_filled_54 rfl rfl ?_
          refine v_iaddN dX3_filled_56 rfl ?_
          refine v_iald _ dX3_filled_57 (by assumption) rfl (by omega) (by decide) rfl ?_
          refine v_top (y := s.to i 1) ((hF i hi 1 (by decide)).2) ?_
          refine v_iload_n dX3_filled_58 rfl rfl ?_
          refine v_icmp_ge (tgt := 65) dX3_filled_59 (by decide) rfl (fun c59 => ?_) (fun c59 => ?_)
          · refine v_iinc (v := nI 0) dX3_filled_65 rfl (by decide) (Nat.le_of_ble_eq_true rfl) rfl ?_
            refine v_goto (tgt := 10) dX3_filled_68 (by decide) ?_
            refine v_iload dX3_filled_10 rfl rfl ?_
            refine v_if_lt (tgt := 71) dX3_filled_12 (by decide) rfl (fun q => absurd q (by decide)) (fun _ => ?_)
            refine v_iload_n dX3_filled_15 rfl rfl ?_
            refine v_sipush (v := (-900)) dX3_filled_16 (by decide) rfl ?_
            refine v_icmp_ne (tgt := 71) dX3_filled_19 (by decide) rfl (fun q => absurd (by decide) q) (fun _ => ?_)
            refine v_aload_n dX3_filled_22 rfl rfl ?_
            refine v_getf dX3_filled_23 fl_X3_19 (by assumption) (by rfl) rfl ?_
            refine v_iconst (v := nI 4) dX3_filled_26 (by decide) rfl ?_
            refine v_iload_n dX3_filled_27 rfl rfl ?_
            refine v_imulN dX3_filled_28 rfl ?_
            refine v_iload dX3_filled_29 rfl rfl ?_
            refine v_iaddN dX3_filled_31 rfl ?_
            refine v_iald _ dX3_filled_32 (by assumption) rfl (by omega) (by decide) rfl ?_
            refine v_top (y := s.fr i 0) ((hF i hi 0 (by decide)).1) ?_
            refine v_aload_n dX3_filled_33 rfl rfl ?_
            refine v_getf dX3_filled_34 fl_X3_22 (by assumption) (by rfl) rfl ?_
            refine v_iconst (v := nI 4) dX3_filled_37 (by decide) rfl ?_
            refine v_iload_n dX3_filled_38 rfl rfl ?_
            refine v_imulN dX3_filled_39 rfl ?_
            refine v_iload dX3_filled_40 rfl rfl ?_
            refine v_iaddN dX3_filled_42 rfl ?_
            refine v_iald _ dX3_filled_43 (by assumption) rfl (by omega) (by decide) rfl ?_
            refine v_top (y := s.to i 0) ((hF i hi 0 (by decide)).2) ?_
            refine v_icmp_gtA (tgt := 65) dX3_filled_44 (by decide) rfl (fun c44 => ?_) (fun c44 => ?_)
            · refine v_iinc (v := (-1)) dX3_filled_65 rfl (by decide) (Nat.le_of_ble_eq_true rfl) rfl ?_
              refine v_goto (tgt := 10) dX3_filled_68 (by decide) ?_
              refine v_iload dX3_filled_10 rfl rfl ?_
              refine v_if_lt (tgt := 71) dX3_filled_12 (by decide) rfl (fun _ => ?_) (fun q => absurd (by decide) q)
              refine v_iload_n dX3_filled_71 rfl rfl ?_
              refine v_sipush (v := (-900)) dX3_filled_72 (by decide) rfl ?_
              refine v_icmp_ne (tgt := 82) dX3_filled_75 (by decide) rfl (fun q => absurd (by decide) q) (fun _ => ?_)
              refine v_iconst (v := nI 0) dX3_filled_78 (by decide) rfl ?_
              refine v_goto (tgt := 83) dX3_filled_79 (by decide) ?_
              exact v_iret dX3_filled_83 rfl ⟨Nat.le_of_ble_eq_true rfl, Nat.le_of_ble_eq_true rfl⟩ (⟨by unfold belowN; grind, rfl⟩)
            · refine v_aload_n dX3_filled_47 rfl rfl ?_
              refine v_getf dX3_filled_48 fl_X3_22 (by assumption) (by rfl) rfl ?_
              refine v_iconst (v := nI 4) dX3_filled_51 (by decide) rfl ?_
              refine v_iload_n dX3_filled_52 rfl rfl ?_
              refine v_imulN dX3_filled_53 rfl ?_
              refine v_iload dX3_filled_54 rfl rfl ?_
              refine v_iaddN dX3_filled_56 rfl ?_
              refine v_iald _ dX3_filled_57 (by assumption) rfl (by omega) (by decide) rfl ?_
              refine v_top (y := s.to i 0) ((hF i hi 0 (by decide)).2) ?_
              refine v_iload_n dX3_filled_58 rfl rfl ?_
              refine v_icmp_ge (tgt := 65) dX3_filled_59 (by decide) rfl (fun c59 => ?_) (fun c59 => ?_)
              · refine v_iinc (v := (-1)) dX3_filled_65 rfl (by decide) (Nat.le_of_ble_eq_true rfl) rfl ?_
                refine v_goto (tgt := 10) dX3_filled_68 (by decide) ?_
                refine v_iload dX3_filled_10 rfl rfl ?_
                refine v_if_lt (tgt := 71) dX3_filled_12 (by decide) rfl (fun _ => ?_) (fun q => absurd (by decide) q)
                refine v_iload_n dX3_filled_71 rfl rfl ?_
                refine v_sipush (v := (-900)) dX3_filled_72 (by decide) rfl ?_
                refine v_icmp_ne (tgt := 82) dX3_filled_75 (by decide) rfl (fun q => absurd (by decide) q) (fun _ => ?_)
                refine v_iconst (v := nI 0) dX3_filled_78 (by decide) rfl ?_
                refine v_goto (tgt := 83) dX3_filled_79 (by decide) ?_
                exact v_iret dX3_filled_83 rfl ⟨Nat.le_of_ble_eq_true rfl, Nat.le_of_ble_eq_true rfl⟩ (⟨by unfold belowN; grind, rfl⟩)
              · refine v_iload dX3_filled_62 rfl rfl ?_
                exact v_iret dX3_filled_64 rfl ⟨Nat.le_of_ble_eq_true rfl, Nat.le_of_ble_eq_true rfl⟩ (⟨by unfold belowN; grind, rfl⟩)
          · refine v_iload dX3_filled_62 rfl rfl ?_
            exact v_iret dX3_filled_64 rfl ⟨Nat.le_of_ble_eq_true rfl, Nat.le_of_ble_eq_true rfl⟩ (⟨by unfold belowN; grind, rfl⟩)
      · refine v_aload_n dX3_filled_47 rfl rfl ?_
        refine v_getf dX3_filled_48 fl_X3_22 (by assumption) (by rfl) rfl ?_
        refine v_iconst (v := nI 4) dX3_filled_51 (by decide) rfl ?_
        refine v_iload_n dX3_filled_52 rfl rfl ?_
        refine v_imulN dX3_filled_53 rfl ?_
        refine v_iload dX3_filled_54 rfl rfl ?_
        refine v_iaddN dX3_filled_56 rfl ?_
        refine v_iald _ dX3_filled_57 (by assumption) rfl (by omega) (by decide) rfl ?_
        refine v_top (y := s.to i 2) ((hF i hi 2 (by decide)).2) ?_
        refine v_iload_n dX3_filled_58 rfl rfl ?_
        refine v_icmp_ge (tgt := 65) dX3_filled_59 (by decide) rfl (fun c59 => ?_) (fun c59 => ?_)
        · refine v_iinc (v := nI 1) dX3_filled_65 rfl (by decide) (Nat.le_of_ble_eq_true rfl) rfl ?_
          refine v_goto (tgt := 10) dX3_filled_68 (by decide) ?_
          refine v_iload dX3_filled_10 rfl rfl ?_
          refine v_if_lt (tgt := 71) dX3_filled_12 (by decide) rfl (fun q => absurd q (by decide)) (fun _ => ?_)
          refine v_iload_n dX3_filled_15 rfl rfl ?_
          refine v_sipush (v := (-900)) dX3_filled_16 (by decide) rfl ?_
          refine v_icmp_ne (tgt := 71) dX3_filled_19 (by decide) rfl (fun q => absurd (by decide) q) (fun _ => ?_)
          refine v_aload_n dX3_filled_22 rfl rfl ?_
          refine v_getf dX3_filled_23 fl_X3_19 (by assumption) (by rfl) rfl ?_
          refine v_iconst (v := nI 4) dX3_filled_26 (by decide) rfl ?_
          refine v_iload_n dX3_filled_27 rfl rfl ?_
          refine v_imulN dX3_filled_28 rfl ?_
          refine v_iload dX3_filled_29 rfl rfl ?_
          refine v_iaddN dX3_filled_31 rfl ?_
          refine v_iald _ dX3_filled_32 (by assumption) rfl (by omega) (by decide) rfl ?_
          refine v_top (y := s.fr i 1) ((hF i hi 1 (by decide)).1) ?_
          refine v_aload_n dX3_filled_33 rfl rfl ?_
          refine v_getf dX3_filled_34 fl_X3_22 (by assumption) (by rfl) rfl ?_
          refine v_iconst (v := nI 4) dX3_filled_37 (by decide) rfl ?_
          refine v_iload_n dX3_filled_38 rfl rfl ?_
          refine v_imulN dX3_filled_39 rfl ?_
          refine v_iload dX3_filled_40 rfl rfl ?_
          refine v_iaddN dX3_filled_42 rfl ?_
          refine v_iald _ dX3_filled_43 (by assumption) rfl (by omega) (by decide) rfl ?_
          refine v_top (y := s.to i 1) ((hF i hi 1 (by decide)).2) ?_
          refine v_icmp_gtA (tgt := 65) dX3_filled_44 (by decide) rfl (fun c44 => ?_) (fun c44 => ?_)
          · refine v_iinc (v := nI 0) dX3_filled_65 rfl (by decide) (Nat.le_of_ble_eq_true rfl) rfl ?_
            refine v_goto (tgt := 10) dX3_filled_68 (by decide) ?_
            refine v_iload dX3_filled_10 rfl rfl ?_
            refine v_if_lt (tgt := 71) dX3_filled_12 (by decide) rfl (fun q => absurd q (by decide)) (fun _ => ?_)
            refine v_iload_n dX3_filled_15 rfl rfl ?_
            refine v_sipush (v := (-900)) dX3_filled_16 (by decide) rfl ?_
            refine v_icmp_ne (tgt := 71) dX3_filled_19 (by decide) rfl (fun q => absurd (by decide) q) (fun _ => ?_)
            refine v_aload_n dX3_filled_22 rfl rfl ?_
            refine v_getf dX3_filled_23 fl_X3_19 (by assumption) (by rfl) rfl ?_
            refine v_iconst (v := nI 4) dX3_filled_26 (by decide) rfl ?_
            refine v_iload_n dX3_filled_27 rfl rfl ?_
            refine v_imulN dX3_filled_28 rfl ?_
            refine v_iload dX3_filled_29 rfl rfl ?_
            refine v_iaddN dX3_filled_31 rfl ?_
            refine v_iald _ dX3_filled_32 (by assumption) rfl (by omega) (by decide) rfl ?_
            refine v_top (y := s.fr i 0) ((hF i hi 0 (by decide)).1) ?_
            refine v_aload_n dX3_filled_33 rfl rfl ?_
            refine v_getf dX3_filled_34 fl_X3_22 (by assumption) (by rfl) rfl ?_
            refine v_iconst (v := nI 4) dX3_filled_37 (by decide) rfl ?_
            refine v_iload_n dX3_filled_38 rfl rfl ?_
            refine v_imulN dX3_filled_39 rfl ?_
            refine v_iload dX3_filled_40 rfl rfl ?_
            refine v_iaddN dX3_filled_42 rfl ?_
            refine v_iald _ dX3_filled_43 (by assumption) rfl (by omega) (by decide) rfl ?_
            refine v_top (y := s.to i 0) ((hF i hi 0 (by decide)).2) ?_
            refine v_icmp_gtA (tgt := 65) dX3_filled_44 (by decide) rfl (fun c44 => ?_) (fun c44 => ?_)
            · refine v_iinc (v := (-1)) dX3_filled_65 rfl (by decide) (Nat.le_of_ble_eq_true rfl) rfl ?_
              refine v_goto (tgt := 10) dX3_filled_68 (by decide) ?_
              refine v_iload dX3_filled_10 rfl rfl ?_
              refine v_if_lt (tgt := 71) dX3_filled_12 (by decide) rfl (fun _ => ?_) (fun q => absurd (by decide) q)
              refine v_iload_n dX3_filled_71 rfl rfl ?_
              refine v_sipush (v := (-900)) dX3_filled_72 (by decide) rfl ?_
              refine v_icmp_ne (tgt := 82) dX3_filled_75 (by decide) rfl (fun q => absurd (by decide) q) (fun _ => ?_)
              refine v_iconst (v := nI 0) dX3_filled_78 (by decide) rfl ?_
              refine v_goto (tgt := 83) dX3_filled_79 (by decide) ?_
              exact v_iret dX3_filled_83 rfl ⟨Nat.le_of_ble_eq_true rfl, Nat.le_of_ble_eq_true rfl⟩ (⟨by unfold belowN; grind, rfl⟩)
            · refine v_aload_n dX3_filled_47 rfl rfl ?_
              refine v_getf dX3_filled_48 fl_X3_22 (by assumption) (by rfl) rfl ?_
              refine v_iconst (v := nI 4) dX3_filled_51 (by decide) rfl ?_
              refine v_iload_n dX3_filled_52 rfl rfl ?_
              refine v_imulN dX3_filled_53 rfl ?_
              refine v_iload dX3_filled_54 rfl rfl ?_
              refine v_iaddN dX3_filled_56 rfl ?_
              refine v_iald _ dX3_filled_57 (by assumption) rfl (by omega) (by decide) rfl ?_
              refine v_top (y := s.to i 0) ((hF i hi 0 (by decide)).2) ?_
              refine v_iload_n dX3_filled_58 rfl rfl ?_
              refine v_icmp_ge (tgt := 65) dX3_filled_59 (by decide) rfl (fun c59 => ?_) (fun c59 => ?_)
              · refine v_iinc (v := (-1)) dX3_filled_65 rfl (by decide) (Nat.le_of_ble_eq_true rfl) rfl ?_
                refine v_goto (tgt := 10) dX3_filled_68 (by decide) ?_
                refine v_iload dX3_filled_10 rfl rfl ?_
                refine v_if_lt (tgt := 71) dX3_filled_12 (by decide) rfl (fun _ => ?_) (fun q => absurd (by decide) q)
                refine v_iload_n dX3_filled_71 rfl rfl ?_
                refine v_sipush (v := (-900)) dX3_filled_72 (by decide) rfl ?_
                refine v_icmp_ne (tgt := 82) dX3_filled_75 (by decide) rfl (fun q => absurd (by decide) q) (fun _ => ?_)
                refine v_iconst (v := nI 0) dX3_filled_78 (by decide) rfl ?_
                refine v_goto (tgt := 83) dX3_filled_79 (by decide) ?_
                exact v_iret dX3_filled_83 rfl ⟨Nat.le_of_ble_eq_true rfl, Nat.le_of_ble_eq_true rfl⟩ (⟨by unfold belowN; grind, rfl⟩)
              · refine v_iload dX3_filled_62 rfl rfl ?_
                exact v_iret dX3_filled_64 rfl ⟨Nat.le_of_ble_eq_true rfl, Nat.le_of_ble_eq_true rfl⟩ (⟨by unfold belowN; grind, rfl⟩)
          · refine v_aload_n dX3_filled_47 rfl rfl ?_
            refine v_getf dX3_filled_48 fl_X3_22 (by assumption) (by rfl) rfl ?_
            refine v_iconst (v := nI 4) dX3_filled_51 (by decide) rfl ?_
            refine v_iload_n dX3_filled_52 rfl rfl ?_
            refine v_imulN dX3_filled_53 rfl ?_
            refine v_iload dX3_filled_54 rfl rfl ?_
            refine v_iaddN dX3_filled_56 rfl ?_
            refine v_iald _ dX3_filled_57 (by assumption) rfl (by omega) (by decide) rfl ?_
            refine v_top (y := s.to i 1) ((hF i hi 1 (by decide)).2) ?_
            refine v_iload_n dX3_filled_58 rfl rfl ?_
            refine v_icmp_ge (tgt := 65) dX3_filled_59 (by decide) rfl (fun c59 => ?_) (fun c59 => ?_)
            · refine v_iinc (v := nI 0) dX3_filled_65 rfl (by decide) (Nat.le_of_ble_eq_true rfl) rfl ?_
              refine v_goto (tgt := 10) dX3_filled_68 (by decide) ?_
              refine v_iload dX3_filled_10 rfl rfl ?_
              refine v_if_lt (tgt := 71) dX3_filled_12 (by decide) rfl (fun q => absurd q (by decide)) (fun _ => ?_)
              refine v_iload_n dX3_filled_15 rfl rfl ?_
              refine v_sipush (v := (-900)) dX3_filled_16 (by decide) rfl ?_
              refine v_icmp_ne (tgt := 71) dX3_filled_19 (by decide) rfl (fun q => absurd (by decide) q) (fun _ => ?_)
              refine v_aload_n dX3_filled_22 rfl rfl ?_
              refine v_getf dX3_filled_23 fl_X3_19 (by assumption) (by rfl) rfl ?_
              refine v_iconst (v := nI 4) dX3_filled_26 (by decide) rfl ?_
              refine v_iload_n dX3_filled_27 rfl rfl ?_
              refine v_imulN dX3_filled_28 rfl ?_
              refine v_iload dX3_filled_29 rfl rfl ?_
              refine v_iaddN dX3_filled_31 rfl ?_
              refine v_iald _ dX3_filled_32 (by assumption) rfl (by omega) (by decide) rfl ?_
              refine v_top (y := s.fr i 0) ((hF i hi 0 (by decide)).1) ?_
              refine v_aload_n dX3_filled_33 rfl rfl ?_
              refine v_getf dX3_filled_34 fl_X3_22 (by assumption) (by rfl) rfl ?_
              refine v_iconst (v := nI 4) dX3_filled_37 (by decide) rfl ?_
              refine v_iload_n dX3_filled_38 rfl rfl ?_
              refine v_imulN dX3_filled_39 rfl ?_
              refine v_iload dX3_filled_40 rfl rfl ?_
              refine v_iaddN dX3_filled_42 rfl ?_
              refine v_iald _ dX3_filled_43 (by assumption) rfl (by omega) (by decide) rfl ?_
              refine v_top (y := s.to i 0) ((hF i hi 0 (by decide)).2) ?_
              refine v_icmp_gtA (tgt := 65) dX3_filled_44 (by decide) rfl (fun c44 => ?_) (fun c44 => ?_)
              · refine v_iinc (v := (-1)) dX3_filled_65 rfl (by decide) (Nat.le_of_ble_eq_true rfl) rfl ?_
                refine v_goto (tgt := 10) dX3_filled_68 (by decide) ?_
                refine v_iload dX3_filled_10 rfl rfl ?_
                refine v_if_lt (tgt := 71) dX3_filled_12 (by decide) rfl (fun _ => ?_) (fun q => absurd (by decide) q)
                refine v_iload_n dX3_filled_71 rfl rfl ?_
                refine v_sipush (v := (-900)) dX3_filled_72 (by decide) rfl ?_
                refine v_icmp_ne (tgt := 82) dX3_filled_75 (by decide) rfl (fun q => absurd (by decide) q) (fun _ => ?_)
                refine v_iconst (v := nI 0) dX3_filled_78 (by decide) rfl ?_
                refine v_goto (tgt := 83) dX3_filled_79 (by decide) ?_
                exact v_iret dX3_filled_83 rfl ⟨Nat.le_of_ble_eq_true rfl, Nat.le_of_ble_eq_true rfl⟩ (⟨by unfold belowN; grind, rfl⟩)
              · refine v_aload_n dX3_filled_47 rfl rfl ?_
                refine v_getf dX3_filled_48 fl_X3_22 (by assumption) (by rfl) rfl ?_
                refine v_iconst (v := nI 4) dX3_filled_51 (by decide) rfl ?_
                refine v_iload_n dX3_filled_52 rfl rfl ?_
                refine v_imulN dX3_filled_53 rfl ?_
                refine v_iload dX3_filled_54 rfl rfl ?_
                refine v_iaddN dX3_filled_56 rfl ?_
                refine v_iald _ dX3_filled_57 (by assumption) rfl (by omega) (by decide) rfl ?_
                refine v_top (y := s.to i 0) ((hF i hi 0 (by decide)).2) ?_
                refine v_iload_n dX3_filled_58 rfl rfl ?_
                refine v_icmp_ge (tgt := 65) dX3_filled_59 (by decide) rfl (fun c59 => ?_) (fun c59 => ?_)
                · refine v_iinc (v := (-1)) dX3_filled_65 rfl (by decide) (Nat.le_of_ble_eq_true rfl) rfl ?_
                  refine v_goto (tgt := 10) dX3_filled_68 (by decide) ?_
                  refine v_iload dX3_filled_10 rfl rfl ?_
                  refine v_if_lt (tgt := 71) dX3_filled_12 (by decide) rfl (fun _ => ?_) (fun q => absurd (by decide) q)
                  refine v_iload_n dX3_filled_71 rfl rfl ?_
                  refine v_sipush (v := (-900)) dX3_filled_72 (by decide) rfl ?_
                  refine v_icmp_ne (tgt := 82) dX3_filled_75 (by decide) rfl (fun q => absurd (by decide) q) (fun _ => ?_)
                  refine v_iconst (v := nI 0) dX3_filled_78 (by decide) rfl ?_
                  refine v_goto (tgt := 83) dX3_filled_79 (by decide) ?_
                  exact v_iret dX3_filled_83 rfl ⟨Nat.le_of_ble_eq_true rfl, Nat.le_of_ble_eq_true rfl⟩ (⟨by unfold belowN; grind, rfl⟩)
                · refine v_iload dX3_filled_62 rfl rfl ?_
                  exact v_iret dX3_filled_64 rfl ⟨Nat.le_of_ble_eq_true rfl, Nat.le_of_ble_eq_true rfl⟩ (⟨by unfold belowN; grind, rfl⟩)
            · refine v_iload dX3_filled_62 rfl rfl ?_
              exact v_iret dX3_filled_64 rfl ⟨Nat.le_of_ble_eq_true rfl, Nat.le_of_ble_eq_true rfl⟩ (⟨by unfold belowN; grind, rfl⟩)
        · refine v_iload dX3_filled_62 rfl rfl ?_
          exact v_iret dX3_filled_64 rfl ⟨Nat.le_of_ble_eq_true rfl, Nat.le_of_ble_eq_true rfl⟩ (⟨by unfold belowN; grind, rfl⟩)
    · refine v_aload_n dX3_filled_47 rfl rfl ?_
      refine v_getf dX3_filled_48 fl_X3_22 (by assumption) (by rfl) rfl ?_
      refine v_iconst (v := nI 4) dX3_filled_51 (by decide) rfl ?_
      refine v_iload_n dX3_filled_52 rfl rfl ?_
      refine v_imulN dX3_filled_53 rfl ?_
      refine v_iload dX3_filled_54 rfl rfl ?_
      refine v_iaddN dX3_filled_56 rfl ?_
      refine v_iald _ dX3_filled_57 (by assumption) rfl (by omega) (by decide) rfl ?_
      refine v_top (y := s.to i 3) ((hF i hi 3 (by decide)).2) ?_
      refine v_iload_n dX3_filled_58 rfl rfl ?_
      refine v_icmp_ge (tgt := 65) dX3_filled_59 (by decide) rfl (fun c59 => ?_) (fun c59 => ?_)
      · refine v_iinc (v := nI 2) dX3_filled_65 rfl (by decide) (Nat.le_of_ble_eq_true rfl) rfl ?_
        refine v_goto (tgt := 10) dX3_filled_68 (by decide) ?_
        refine v_iload dX3_filled_10 rfl rfl ?_
        refine v_if_lt (tgt := 71) dX3_filled_12 (by decide) rfl (fun q => absurd q (by decide)) (fun _ => ?_)
        refine v_iload_n dX3_filled_15 rfl rfl ?_
        refine v_sipush (v := (-900)) dX3_filled_16 (by decide) rfl ?_
        refine v_icmp_ne (tgt := 71) dX3_filled_19 (by decide) rfl (fun q => absurd (by decide) q) (fun _ => ?_)
        refine v_aload_n dX3_filled_22 rfl rfl ?_
        refine v_getf dX3_filled_23 fl_X3_19 (by assumption) (by rfl) rfl ?_
        refine v_iconst (v := nI 4) dX3_filled_26 (by decide) rfl ?_
        refine v_iload_n dX3_filled_27 rfl rfl ?_
        refine v_imulN dX3_filled_28 rfl ?_
        refine v_iload dX3_filled_29 rfl rfl ?_
        refine v_iaddN dX3_filled_31 rfl ?_
        refine v_iald _ dX3_filled_32 (by assumption) rfl (by omega) (by decide) rfl ?_
        refine v_top (y := s.fr i 2) ((hF i hi 2 (by decide)).1) ?_
        refine v_aload_n dX3_filled_33 rfl rfl ?_
        refine v_getf dX3_filled_34 fl_X3_22 (by assumption) (by rfl) rfl ?_
        refine v_iconst (v := nI 4) dX3_filled_37 (by decide) rfl ?_
        refine v_iload_n dX3_filled_38 rfl rfl ?_
        refine v_imulN dX3_filled_39 rfl ?_
        refine v_iload dX3_filled_40 rfl rfl ?_
        refine v_iaddN dX3_filled_42 rfl ?_
        refine v_iald _ dX3_filled_43 (by assumption) rfl (by omega) (by decide) rfl ?_
        refine v_top (y := s.to i 2) ((hF i hi 2 (by decide)).2) ?_
        refine v_icmp_gtA (tgt := 65) dX3_filled_44 (by decide) rfl (fun c44 => ?_) (fun c44 => ?_)
        · refine v_iinc (v := nI 1) dX3_filled_65 rfl (by decide) (Nat.le_of_ble_eq_true rfl) rfl ?_
          refine v_goto (tgt := 10) dX3_filled_68 (by decide) ?_
          refine v_iload dX3_filled_10 rfl rfl ?_
          refine v_if_lt (tgt := 71) dX3_filled_12 (by decide) rfl (fun q => absurd q (by decide)) (fun _ => ?_)
          refine v_iload_n dX3_filled_15 rfl rfl ?_
          refine v_sipush (v := (-900)) dX3_filled_16 (by decide) rfl ?_
          refine v_icmp_ne (tgt := 71) dX3_filled_19 (by decide) rfl (fun q => absurd (by decide) q) (fun _ => ?_)
          refine v_aload_n dX3_filled_22 rfl rfl ?_
          refine v_getf dX3_filled_23 fl_X3_19 (by assumption) (by rfl) rfl ?_
          refine v_iconst (v := nI 4) dX3_filled_26 (by decide) rfl ?_
          refine v_iload_n dX3_filled_27 rfl rfl ?_
          refine v_imulN dX3_filled_28 rfl ?_
          refine v_iload dX3_filled_29 rfl rfl ?_
          refine v_iaddN dX3_filled_31 rfl ?_
          refine v_iald _ dX3_filled_32 (by assumption) rfl (by omega) (by decide) rfl ?_
          refine v_top (y := s.fr i 1) ((hF i hi 1 (by decide)).1) ?_
          refine v_aload_n dX3_filled_33 rfl rfl ?_
          refine v_getf dX3_filled_34 fl_X3_22 (by assumption) (by rfl) rfl ?_
          refine v_iconst (v := nI 4) dX3_filled_37 (by decide) rfl ?_
          refine v_iload_n dX3_filled_38 rfl rfl ?_
          refine v_imulN dX3_filled_39 rfl ?_
          refine v_iload dX3_filled_40 rfl rfl ?_
          refine v_iaddN dX3_filled_42 rfl ?_
          refine v_iald _ dX3_filled_43 (by assumption) rfl (by omega) (by decide) rfl ?_
          refine v_top (y := s.to i 1) ((hF i hi 1 (by decide)).2) ?_
          refine v_icmp_gtA (tgt := 65) dX3_filled_44 (by decide) rfl (fun c44 => ?_) (fun c44 => ?_)
          · refine v_iinc (v := nI 0) dX3_filled_65 rfl (by decide) (Nat.le_of_ble_eq_true rfl) rfl ?_
            refine v_goto (tgt := 10) dX3_filled_68 (by decide) ?_
            refine v_iload dX3_filled_10 rfl rfl ?_
            refine v_if_lt (tgt := 71) dX3_filled_12 (by decide) rfl (fun q => absurd q (by decide)) (fun _ => ?_)
            refine v_iload_n dX3_filled_15 rfl rfl ?_
            refine v_sipush (v := (-900)) dX3_filled_16 (by decide) rfl ?_
            refine v_icmp_ne (tgt := 71) dX3_filled_19 (by decide) rfl (fun q => absurd (by decide) q) (fun _ => ?_)
            refine v_aload_n dX3_filled_22 rfl rfl ?_
            refine v_getf dX3_filled_23 fl_X3_19 (by assumption) (by rfl) rfl ?_
            refine v_iconst (v := nI 4) dX3_filled_26 (by decide) rfl ?_
            refine v_iload_n dX3_filled_27 rfl rfl ?_
            refine v_imulN dX3_filled_28 rfl ?_
            refine v_iload dX3_filled_29 rfl rfl ?_
            refine v_iaddN dX3_filled_31 rfl ?_
            refine v_iald _ dX3_filled_32 (by assumption) rfl (by omega) (by decide) rfl ?_
            refine v_top (y := s.fr i 0) ((hF i hi 0 (by decide)).1) ?_
            refine v_aload_n dX3_filled_33 rfl rfl ?_
            refine v_getf dX3_filled_34 fl_X3_22 (by assumption) (by rfl) rfl ?_
            refine v_iconst (v := nI 4) dX3_filled_37 (by decide) rfl ?_
            refine v_iload_n dX3_filled_38 rfl rfl ?_
            refine v_imulN dX3_filled_39 rfl ?_
            refine v_iload dX3_filled_40 rfl rfl ?_
            refine v_iaddN dX3_filled_42 rfl ?_
            refine v_iald _ dX3_filled_43 (by assumption) rfl (by omega) (by decide) rfl ?_
            refine v_top (y := s.to i 0) ((hF i hi 0 (by decide)).2) ?_
            refine v_icmp_gtA (tgt := 65) dX3_filled_44 (by decide) rfl (fun c44 => ?_) (fun c44 => ?_)
            · refine v_iinc (v := (-1)) dX3_filled_65 rfl (by decide) (Nat.le_of_ble_eq_true rfl) rfl ?_
              refine v_goto (tgt := 10) dX3_filled_68 (by decide) ?_
              refine v_iload dX3_filled_10 rfl rfl ?_
              refine v_if_lt (tgt := 71) dX3_filled_12 (by decide) rfl (fun _ => ?_) (fun q => absurd (by decide) q)
              refine v_iload_n dX3_filled_71 rfl rfl ?_
              refine v_sipush (v := (-900)) dX3_filled_72 (by decide) rfl ?_
              refine v_icmp_ne (tgt := 82) dX3_filled_75 (by decide) rfl (fun q => absurd (by decide) q) (fun _ => ?_)
              refine v_iconst (v := nI 0) dX3_filled_78 (by decide) rfl ?_
              refine v_goto (tgt := 83) dX3_filled_79 (by decide) ?_
              exact v_iret dX3_filled_83 rfl ⟨Nat.le_of_ble_eq_true rfl, Nat.le_of_ble_eq_true rfl⟩ (⟨by unfold belowN; grind, rfl⟩)
            · refine v_aload_n dX3_filled_47 rfl rfl ?_
              refine v_getf dX3_filled_48 fl_X3_22 (by assumption) (by rfl) rfl ?_
              refine v_iconst (v := nI 4) dX3_filled_51 (by decide) rfl ?_
              refine v_iload_n dX3_filled_52 rfl rfl ?_
              refine v_imulN dX3_filled_53 rfl ?_
              refine v_iload dX3_filled_54 rfl rfl ?_
              refine v_iaddN dX3_filled_56 rfl ?_
              refine v_iald _ dX3_filled_57 (by assumption) rfl (by omega) (by decide) rfl ?_
              refine v_top (y := s.to i 0) ((hF i hi 0 (by decide)).2) ?_
              refine v_iload_n dX3_filled_58 rfl rfl ?_
              refine v_icmp_ge (tgt := 65) dX3_filled_59 (by decide) rfl (fun c59 => ?_) (fun c59 => ?_)
              · refine v_iinc (v := (-1)) dX3_filled_65 rfl (by decide) (Nat.le_of_ble_eq_true rfl) rfl ?_
                refine v_goto (tgt := 10) dX3_filled_68 (by decide) ?_
                refine v_iload dX3_filled_10 rfl rfl ?_
                refine v_if_lt (tgt := 71) dX3_filled_12 (by decide) rfl (fun _ => ?_) (fun q => absurd (by decide) q)
                refine v_iload_n dX3_filled_71 rfl rfl ?_
                refine v_sipush (v := (-900)) dX3_filled_72 (by decide) rfl ?_
                refine v_icmp_ne (tgt := 82) dX3_filled_75 (by decide) rfl (fun q => absurd (by decide) q) (fun _ => ?_)
                refine v_iconst (v := nI 0) dX3_filled_78 (by decide) rfl ?_
                refine v_goto (tgt := 83) dX3_filled_79 (by decide) ?_
                exact v_iret dX3_filled_83 rfl ⟨Nat.le_of_ble_eq_true rfl, Nat.le_of_ble_eq_true rfl⟩ (⟨by unfold belowN; grind, rfl⟩)
              · refine v_iload dX3_filled_62 rfl rfl ?_
                exact v_iret dX3_filled_64 rfl ⟨Nat.le_of_ble_eq_true rfl, Nat.le_of_ble_eq_true rfl⟩ (⟨by unfold belowN; grind, rfl⟩)
          · refine v_aload_n dX3_filled_47 rfl rfl ?_
            refine v_getf dX3_filled_48 fl_X3_22 (by assumption) (by rfl) rfl ?_
            refine v_iconst (v := nI 4) dX3_filled_51 (by decide) rfl ?_
            refine v_iload_n dX3_filled_52 rfl rfl ?_
            refine v_imulN dX3_filled_53 rfl ?_
            refine v_iload dX3_filled_54 rfl rfl ?_
            refine v_iaddN dX3_filled_56 rfl ?_
            refine v_iald _ dX3_filled_57 (by assumption) rfl (by omega) (by decide) rfl ?_
            refine v_top (y := s.to i 1) ((hF i hi 1 (by decide)).2) ?_
            refine v_iload_n dX3_filled_58 rfl rfl ?_
            refine v_icmp_ge (tgt := 65) dX3_filled_59 (by decide) rfl (fun c59 => ?_) (fun c59 => ?_)
            · refine v_iinc (v := nI 0) dX3_filled_65 rfl (by decide) (Nat.le_of_ble_eq_true rfl) rfl ?_
              refine v_goto (tgt := 10) dX3_filled_68 (by decide) ?_
              refine v_iload dX3_filled_10 rfl rfl ?_
              refine v_if_lt (tgt := 71) dX3_filled_12 (by decide) rfl (fun q => absurd q (by decide)) (fun _ => ?_)
              refine v_iload_n dX3_filled_15 rfl rfl ?_
              refine v_sipush (v := (-900)) dX3_filled_16 (by decide) rfl ?_
              refine v_icmp_ne (tgt := 71) dX3_filled_19 (by decide) rfl (fun q => absurd (by decide) q) (fun _ => ?_)
              refine v_aload_n dX3_filled_22 rfl rfl ?_
              refine v_getf dX3_filled_23 fl_X3_19 (by assumption) (by rfl) rfl ?_
              refine v_iconst (v := nI 4) dX3_filled_26 (by decide) rfl ?_
              refine v_iload_n dX3_filled_27 rfl rfl ?_
              refine v_imulN dX3_filled_28 rfl ?_
              refine v_iload dX3_filled_29 rfl rfl ?_
              refine v_iaddN dX3_filled_31 rfl ?_
              refine v_iald _ dX3_filled_32 (by assumption) rfl (by omega) (by decide) rfl ?_
              refine v_top (y := s.fr i 0) ((hF i hi 0 (by decide)).1) ?_
              refine v_aload_n dX3_filled_33 rfl rfl ?_
              refine v_getf dX3_filled_34 fl_X3_22 (by assumption) (by rfl) rfl ?_
              refine v_iconst (v := nI 4) dX3_filled_37 (by decide) rfl ?_
              refine v_iload_n dX3_filled_38 rfl rfl ?_
              refine v_imulN dX3_filled_39 rfl ?_
              refine v_iload dX3_filled_40 rfl rfl ?_
              refine v_iaddN dX3_filled_42 rfl ?_
              refine v_iald _ dX3_filled_43 (by assumption) rfl (by omega) (by decide) rfl ?_
              refine v_top (y := s.to i 0) ((hF i hi 0 (by decide)).2) ?_
              refine v_icmp_gtA (tgt := 65) dX3_filled_44 (by decide) rfl (fun c44 => ?_) (fun c44 => ?_)
              · refine v_iinc (v := (-1)) dX3_filled_65 rfl (by decide) (Nat.le_of_ble_eq_true rfl) rfl ?_
                refine v_goto (tgt := 10) dX3_filled_68 (by decide) ?_
                refine v_iload dX3_filled_10 rfl rfl ?_
                refine v_if_lt (tgt := 71) dX3_filled_12 (by decide) rfl (fun _ => ?_) (fun q => absurd (by decide) q)
                refine v_iload_n dX3_filled_71 rfl rfl ?_
                refine v_sipush (v := (-900)) dX3_filled_72 (by decide) rfl ?_
                refine v_icmp_ne (tgt := 82) dX3_filled_75 (by decide) rfl (fun q => absurd (by decide) q) (fun _ => ?_)
                refine v_iconst (v := nI 0) dX3_filled_78 (by decide) rfl ?_
                refine v_goto (tgt := 83) dX3_filled_79 (by decide) ?_
                exact v_iret dX3_filled_83 rfl ⟨Nat.le_of_ble_eq_true rfl, Nat.le_of_ble_eq_true rfl⟩ (⟨by unfold belowN; grind, rfl⟩)
              · refine v_aload_n dX3_filled_47 rfl rfl ?_
                refine v_getf dX3_filled_48 fl_X3_22 (by assumption) (by rfl) rfl ?_
                refine v_iconst (v := nI 4) dX3_filled_51 (by decide) rfl ?_
                refine v_iload_n dX3_filled_52 rfl rfl ?_
                refine v_imulN dX3_filled_53 rfl ?_
                refine v_iload dX3_filled_54 rfl rfl ?_
                refine v_iaddN dX3_filled_56 rfl ?_
                refine v_iald _ dX3_filled_57 (by assumption) rfl (by omega) (by decide) rfl ?_
                refine v_top (y := s.to i 0) ((hF i hi 0 (by decide)).2) ?_
                refine v_iload_n dX3_filled_58 rfl rfl ?_
                refine v_icmp_ge (tgt := 65) dX3_filled_59 (by decide) rfl (fun c59 => ?_) (fun c59 => ?_)
                · refine v_iinc (v := (-1)) dX3_filled_65 rfl (by decide) (Nat.le_of_ble_eq_true rfl) rfl ?_
                  refine v_goto (tgt := 10) dX3_filled_68 (by decide) ?_
                  refine v_iload dX3_filled_10 rfl rfl ?_
                  refine v_if_lt (tgt := 71) dX3_filled_12 (by decide) rfl (fun _ => ?_) (fun q => absurd (by decide) q)
                  refine v_iload_n dX3_filled_71 rfl rfl ?_
                  refine v_sipush (v := (-900)) dX3_filled_72 (by decide) rfl ?_
                  refine v_icmp_ne (tgt := 82) dX3_filled_75 (by decide) rfl (fun q => absurd (by decide) q) (fun _ => ?_)
                  refine v_iconst (v := nI 0) dX3_filled_78 (by decide) rfl ?_
                  refine v_goto (tgt := 83) dX3_filled_79 (by decide) ?_
                  exact v_iret dX3_filled_83 rfl ⟨Nat.le_of_ble_eq_true rfl, Nat.le_of_ble_eq_true rfl⟩ (⟨by unfold belowN; grind, rfl⟩)
                · refine v_iload dX3_filled_62 rfl rfl ?_
                  exact v_iret dX3_filled_64 rfl ⟨Nat.le_of_ble_eq_true rfl, Nat.le_of_ble_eq_true rfl⟩ (⟨by unfold belowN; grind, rfl⟩)
            · refine v_iload dX3_filled_62 rfl rfl ?_
              exact v_iret dX3_filled_64 rfl ⟨Nat.le_of_ble_eq_true rfl, Nat.le_of_ble_eq_true rfl⟩ (⟨by unfold belowN; grind, rfl⟩)
        · refine v_aload_n dX3_filled_47 rfl rfl ?_
          refine v_getf dX3_filled_48 fl_X3_22 (by assumption) (by rfl) rfl ?_
          refine v_iconst (v := nI 4) dX3_filled_51 (by decide) rfl ?_
          refine v_iload_n dX3_filled_52 rfl rfl ?_
          refine v_imulN dX3_filled_53 rfl ?_
          refine v_iload dX3_filled_54 rfl rfl ?_
          refine v_iaddN dX3_filled_56 rfl ?_
          refine v_iald _ dX3_filled_57 (by assumption) rfl (by omega) (by decide) rfl ?_
          refine v_top (y := s.to i 2) ((hF i hi 2 (by decide)).2) ?_
          refine v_iload_n dX3_filled_58 rfl rfl ?_
          refine v_icmp_ge (tgt := 65) dX3_filled_59 (by decide) rfl (fun c59 => ?_) (fun c59 => ?_)
          · refine v_iinc (v := nI 1) dX3_filled_65 rfl (by decide) (Nat.le_of_ble_eq_true rfl) rfl ?_
            refine v_goto (tgt := 10) dX3_filled_68 (by decide) ?_
            refine v_iload dX3_filled_10 rfl rfl ?_
            refine v_if_lt (tgt := 71) dX3_filled_12 (by decide) rfl (fun q => absurd q (by decide)) (fun _ => ?_)
            refine v_iload_n dX3_filled_15 rfl rfl ?_
            refine v_sipush (v := (-900)) dX3_filled_16 (by decide) rfl ?_
            refine v_icmp_ne (tgt := 71) dX3_filled_19 (by decide) rfl (fun q => absurd (by decide) q) (fun _ => ?_)
            refine v_aload_n dX3_filled_22 rfl rfl ?_
            refine v_getf dX3_filled_23 fl_X3_19 (by assumption) (by rfl) rfl ?_
            refine v_iconst (v := nI 4) dX3_filled_26 (by decide) rfl ?_
            refine v_iload_n dX3_filled_27 rfl rfl ?_
            refine v_imulN dX3_filled_28 rfl ?_
            refine v_iload dX3_filled_29 rfl rfl ?_
            refine v_iaddN dX3_filled_31 rfl ?_
            refine v_iald _ dX3_filled_32 (by assumption) rfl (by omega) (by decide) rfl ?_
            refine v_top (y := s.fr i 1) ((hF i hi 1 (by decide)).1) ?_
            refine v_aload_n dX3_filled_33 rfl rfl ?_
            refine v_getf dX3_filled_34 fl_X3_22 (by assumption) (by rfl) rfl ?_
            refine v_iconst (v := nI 4) dX3_filled_37 (by decide) rfl ?_
            refine v_iload_n dX3_filled_38 rfl rfl ?_
            refine v_imulN dX3_filled_39 rfl ?_
            refine v_iload dX3_filled_40 rfl rfl ?_
            refine v_iaddN dX3_filled_42 rfl ?_
            refine v_iald _ dX3_filled_43 (by assumption) rfl (by omega) (by decide) rfl ?_
            refine v_top (y := s.to i 1) ((hF i hi 1 (by decide)).2) ?_
            refine v_icmp_gtA (tgt := 65) dX3_filled_44 (by decide) rfl (fun c44 => ?_) (fun c44 => ?_)
            · refine v_iinc (v := nI 0) dX3_filled_65 rfl (by decide) (Nat.le_of_ble_eq_true rfl) rfl ?_
              refine v_goto (tgt := 10) dX3_filled_68 (by decide) ?_
              refine v_iload dX3_filled_10 rfl rfl ?_
              refine v_if_lt (tgt := 71) dX3_filled_12 (by decide) rfl (fun q => absurd q (by decide)) (fun _ => ?_)
              refine v_iload_n dX3_filled_15 rfl rfl ?_
              refine v_sipush (v := (-900)) dX3_filled_16 (by decide) rfl ?_
              refine v_icmp_ne (tgt := 71) dX3_filled_19 (by decide) rfl (fun q => absurd (by decide) q) (fun _ => ?_)
              refine v_aload_n dX3_filled_22 rfl rfl ?_
              refine v_getf dX3_filled_23 fl_X3_19 (by assumption) (by rfl) rfl ?_
              refine v_iconst (v := nI 4) dX3_filled_26 (by decide) rfl ?_
              refine v_iload_n dX3_filled_27 rfl rfl ?_
              refine v_imulN dX3_filled_28 rfl ?_
              refine v_iload dX3_filled_29 rfl rfl ?_
              refine v_iaddN dX3_filled_31 rfl ?_
              refine v_iald _ dX3_filled_32 (by assumption) rfl (by omega) (by decide) rfl ?_
              refine v_top (y := s.fr i 0) ((hF i hi 0 (by decide)).1) ?_
              refine v_aload_n dX3_filled_33 rfl rfl ?_
              refine v_getf dX3_filled_34 fl_X3_22 (by assumption) (by rfl) rfl ?_
              refine v_iconst (v := nI 4) dX3_filled_37 (by decide) rfl ?_
              refine v_iload_n dX3_filled_38 rfl rfl ?_
              refine v_imulN dX3_filled_39 rfl ?_
              refine v_iload dX3_filled_40 rfl rfl ?_
              refine v_iaddN dX3_filled_42 rfl ?_
              refine v_iald _ dX3_filled_43 (by assumption) rfl (by omega) (by decide) rfl ?_
              refine v_top (y := s.to i 0) ((hF i hi 0 (by decide)).2) ?_
              refine v_icmp_gtA (tgt := 65) dX3_filled_44 (by decide) rfl (fun c44 => ?_) (fun c44 => ?_)
              · refine v_iinc (v := (-1)) dX3_filled_65 rfl (by decide) (Nat.le_of_ble_eq_true rfl) rfl ?_
                refine v_goto (tgt := 10) dX3_filled_68 (by decide) ?_
                refine v_iload dX3_filled_10 rfl rfl ?_
                refine v_if_lt (tgt := 71) dX3_filled_12 (by decide) rfl (fun _ => ?_) (fun q => absurd (by decide) q)
                refine v_iload_n dX3_filled_71 rfl rfl ?_
                refine v_sipush (v := (-900)) dX3_filled_72 (by decide) rfl ?_
                refine v_icmp_ne (tgt := 82) dX3_filled_75 (by decide) rfl (fun q => absurd (by decide) q) (fun _ => ?_)
                refine v_iconst (v := nI 0) dX3_filled_78 (by decide) rfl ?_
                refine v_goto (tgt := 83) dX3_filled_79 (by decide) ?_
                exact v_iret dX3_filled_83 rfl ⟨Nat.le_of_ble_eq_true rfl, Nat.le_of_ble_eq_true rfl⟩ (⟨by unfold belowN; grind, rfl⟩)
              · refine v_aload_n dX3_filled_47 rfl rfl ?_
                refine v_getf dX3_filled_48 fl_X3_22 (by assumption) (by rfl) rfl ?_
                refine v_iconst (v := nI 4) dX3_filled_51 (by decide) rfl ?_
                refine v_iload_n dX3_filled_52 rfl rfl ?_
                refine v_imulN dX3_filled_53 rfl ?_
                refine v_iload dX3_filled_54 rfl rfl ?_
                refine v_iaddN dX3_filled_56 rfl ?_
                refine v_iald _ dX3_filled_57 (by assumption) rfl (by omega) (by decide) rfl ?_
                refine v_top (y := s.to i 0) ((hF i hi 0 (by decide)).2) ?_
                refine v_iload_n dX3_filled_58 rfl rfl ?_
                refine v_icmp_ge (tgt := 65) dX3_filled_59 (by decide) rfl (fun c59 => ?_) (fun c59 => ?_)
                · refine v_iinc (v := (-1)) dX3_filled_65 rfl (by decide) (Nat.le_of_ble_eq_true rfl) rfl ?_
                  refine v_goto (tgt := 10) dX3_filled_68 (by decide) ?_
                  refine v_iload dX3_filled_10 rfl rfl ?_
                  refine v_if_lt (tgt := 71) dX3_filled_12 (by decide) rfl (fun _ => ?_) (fun q => absurd (by decide) q)
                  refine v_iload_n dX3_filled_71 rfl rfl ?_
                  refine v_sipush (v := (-900)) dX3_filled_72 (by decide) rfl ?_
                  refine v_icmp_ne (tgt := 82) dX3_filled_75 (by decide) rfl (fun q => absurd (by decide) q) (fun _ => ?_)
                  refine v_iconst (v := nI 0) dX3_filled_78 (by decide) rfl ?_
                  refine v_goto (tgt := 83) dX3_filled_79 (by decide) ?_
                  exact v_iret dX3_filled_83 rfl ⟨Nat.le_of_ble_eq_true rfl, Nat.le_of_ble_eq_true rfl⟩ (⟨by unfold belowN; grind, rfl⟩)
                · refine v_iload dX3_filled_62 rfl rfl ?_
                  exact v_iret dX3_filled_64 rfl ⟨Nat.le_of_ble_eq_true rfl, Nat.le_of_ble_eq_true rfl⟩ (⟨by unfold belowN; grind, rfl⟩)
            · refine v_aload_n dX3_filled_47 rfl rfl ?_
              refine v_getf dX3_filled_48 fl_X3_22 (by assumption) (by rfl) rfl ?_
              refine v_iconst (v := nI 4) dX3_filled_51 (by decide) rfl ?_
              refine v_iload_n dX3_filled_52 rfl rfl ?_
              refine v_imulN dX3_filled_53 rfl ?_
              refine v_iload dX3_filled_54 rfl rfl ?_
              refine v_iaddN dX3_filled_56 rfl ?_
              refine v_iald _ dX3_filled_57 (by assumption) rfl (by omega) (by decide) rfl ?_
              refine v_top (y := s.to i 1) ((hF i hi 1 (by decide)).2) ?_
              refine v_iload_n dX3_filled_58 rfl rfl ?_
              refine v_icmp_ge (tgt := 65) dX3_filled_59 (by decide) rfl (fun c59 => ?_) (fun c59 => ?_)
              · refine v_iinc (v := nI 0) dX3_filled_65 rfl (by decide) (Nat.le_of_ble_eq_true rfl) rfl ?_
                refine v_goto (tgt := 10) dX3_filled_68 (by decide) ?_
                refine v_iload dX3_filled_10 rfl rfl ?_
                refine v_if_lt (tgt := 71) dX3_filled_12 (by decide) rfl (fun q => absurd q (by decide)) (fun _ => ?_)
                refine v_iload_n dX3_filled_15 rfl rfl ?_
                refine v_sipush (v := (-900)) dX3_filled_16 (by decide) rfl ?_
                refine v_icmp_ne (tgt := 71) dX3_filled_19 (by decide) rfl (fun q => absurd (by decide) q) (fun _ => ?_)
                refine v_aload_n dX3_filled_22 rfl rfl ?_
                refine v_getf dX3_filled_23 fl_X3_19 (by assumption) (by rfl) rfl ?_
                refine v_iconst (v := nI 4) dX3_filled_26 (by decide) rfl ?_
                refine v_iload_n dX3_filled_27 rfl rfl ?_
                refine v_imulN dX3_filled_28 rfl ?_
                refine v_iload dX3_filled_29 rfl rfl ?_
                refine v_iaddN dX3_filled_31 rfl ?_
                refine v_iald _ dX3_filled_32 (by assumption) rfl (by omega) (by decide) rfl ?_
                refine v_top (y := s.fr i 0) ((hF i hi 0 (by decide)).1) ?_
                refine v_aload_n dX3_filled_33 rfl rfl ?_
                refine v_getf dX3_filled_34 fl_X3_22 (by assumption) (by rfl) rfl ?_
                refine v_iconst (v := nI 4) dX3_filled_37 (by decide) rfl ?_
                refine v_iload_n dX3_filled_38 rfl rfl ?_
                refine v_imulN dX3_filled_39 rfl ?_
                refine v_iload dX3_filled_40 rfl rfl ?_
                refine v_iaddN dX3_filled_42 rfl ?_
                refine v_iald _ dX3_filled_43 (by assumption) rfl (by omega) (by decide) rfl ?_
                refine v_top (y := s.to i 0) ((hF i hi 0 (by decide)).2) ?_
                refine v_icmp_gtA (tgt := 65) dX3_filled_44 (by decide) rfl (fun c44 => ?_) (fun c44 => ?_)
                · refine v_iinc (v := (-1)) dX3_filled_65 rfl (by decide) (Nat.le_of_ble_eq_true rfl) rfl ?_
                  refine v_goto (tgt := 10) dX3_filled_68 (by decide) ?_
                  refine v_iload dX3_filled_10 rfl rfl ?_
                  refine v_if_lt (tgt := 71) dX3_filled_12 (by decide) rfl (fun _ => ?_) (fun q => absurd (by decide) q)
                  refine v_iload_n dX3_filled_71 rfl rfl ?_
                  refine v_sipush (v := (-900)) dX3_filled_72 (by decide) rfl ?_
                  refine v_icmp_ne (tgt := 82) dX3_filled_75 (by decide) rfl (fun q => absurd (by decide) q) (fun _ => ?_)
                  refine v_iconst (v := nI 0) dX3_filled_78 (by decide) rfl ?_
                  refine v_goto (tgt := 83) dX3_filled_79 (by decide) ?_
                  exact v_iret dX3_filled_83 rfl ⟨Nat.le_of_ble_eq_true rfl, Nat.le_of_ble_eq_true rfl⟩ (⟨by unfold belowN; grind, rfl⟩)
                · refine v_aload_n dX3_filled_47 rfl rfl ?_
                  refine v_getf dX3_filled_48 fl_X3_22 (by assumption) (by rfl) rfl ?_
                  refine v_iconst (v := nI 4) dX3_filled_51 (by decide) rfl ?_
                  refine v_iload_n dX3_filled_52 rfl rfl ?_
                  refine v_imulN dX3_filled_53 rfl ?_
                  refine v_iload dX3_filled_54 rfl rfl ?_
                  refine v_iaddN dX3_filled_56 rfl ?_
                  refine v_iald _ dX3_filled_57 (by assumption) rfl (by omega) (by decide) rfl ?_
                  refine v_top (y := s.to i 0) ((hF i hi 0 (by decide)).2) ?_
                  refine v_iload_n dX3_filled_58 rfl rfl ?_
                  refine v_icmp_ge (tgt := 65) dX3_filled_59 (by decide) rfl (fun c59 => ?_) (fun c59 => ?_)
                  · refine v_iinc (v := (-1)) dX3_filled_65 rfl (by decide) (Nat.le_of_ble_eq_true rfl) rfl ?_
                    refine v_goto (tgt := 10) dX3_filled_68 (by decide) ?_
                    refine v_iload dX3_filled_10 rfl rfl ?_
                    refine v_if_lt (tgt := 71) dX3_filled_12 (by decide) rfl (fun _ => ?_) (fun q => absurd (by decide) q)
                    refine v_iload_n dX3_filled_71 rfl rfl ?_
                    refine v_sipush (v := (-900)) dX3_filled_72 (by decide) rfl ?_
                    refine v_icmp_ne (tgt := 82) dX3_filled_75 (by decide) rfl (fun q => absurd (by decide) q) (fun _ => ?_)
                    refine v_iconst (v := nI 0) dX3_filled_78 (by decide) rfl ?_
                    refine v_goto (tgt := 83) dX3_filled_79 (by decide) ?_
                    exact v_iret dX3_filled_83 rfl ⟨Nat.le_of_ble_eq_true rfl, Nat.le_of_ble_eq_true rfl⟩ (⟨by unfold belowN; grind, rfl⟩)
                  · refine v_iload dX3_filled_62 rfl rfl ?_
                    exact v_iret dX3_filled_64 rfl ⟨Nat.le_of_ble_eq_true rfl, Nat.le_of_ble_eq_true rfl⟩ (⟨by unfold belowN; grind, rfl⟩)
              · refine v_iload dX3_filled_62 rfl rfl ?_
                exact v_iret dX3_filled_64 rfl ⟨Nat.le_of_ble_eq_true rfl, Nat.le_of_ble_eq_true rfl⟩ (⟨by unfold belowN; grind, rfl⟩)
          · refine v_iload dX3_filled_62 rfl rfl ?_
            exact v_iret dX3_filled_64 rfl ⟨Nat.le_of_ble_eq_true rfl, Nat.le_of_ble_eq_true rfl⟩ (⟨by unfold belowN; grind, rfl⟩)
      · refine v_iload dX3_filled_62 rfl rfl ?_
        exact v_iret dX3_filled_64 rfl ⟨Nat.le_of_ble_eq_true rfl, Nat.le_of_ble_eq_true rfl⟩ (⟨by unfold belowN; grind, rfl⟩)
  · refine v_aload_n dX3_filled_0 rfl rfl ?_
    refine v_iload_n dX3_filled_1 rfl rfl ?_
    refine v_iload_n dX3_filled_2 rfl rfl ?_
    refine v_cvf dX3_filled_3 cw_X3_51 ⟨tn_X3_strict, tl_X3_strict⟩ rfl (by assumption) ((m_strict G hp hM hi v).is (filled_some hu)) (by rfl) (by rfl) (Nat.le_of_ble_eq_true rfl) (Nat.le_of_ble_eq_true rfl) (Nat.le_of_ble_eq_true rfl) (Nat.le_of_ble_eq_true rfl) (Nat.le_of_ble_eq_true rfl) rfl ?_
    refine v_istore_n dX3_filled_6 (Nat.le_of_ble_eq_true rfl) rfl ?_
    refine v_iconst (v := nI 3) dX3_filled_7 (by decide) rfl ?_
    refine v_istore dX3_filled_8 (Nat.le_of_ble_eq_true rfl) rfl ?_
    refine v_iload dX3_filled_10 rfl rfl ?_
    refine v_if_lt (tgt := 71) dX3_filled_12 (by decide) rfl (fun q => absurd q (by decide)) (fun _ => ?_)
    refine v_iload_n dX3_filled_15 rfl rfl ?_
    refine v_sipush (v := (-900)) dX3_filled_16 (by decide) rfl ?_
    refine v_icmp_ne (tgt := 71) dX3_filled_19 (by decide) rfl (fun c19 => ?_) (fun c19 => ?_)
    · refine v_iload_n dX3_filled_71 rfl rfl ?_
      refine v_sipush (v := (-900)) dX3_filled_72 (by decide) rfl ?_
      refine v_icmp_ne (tgt := 82) dX3_filled_75 (by decide) rfl (fun c75 => ?_) (fun c75 => ?_)
      · refine v_iload_n dX3_filled_82 rfl rfl ?_
        exact v_iret dX3_filled_83 rfl ⟨Nat.le_of_ble_eq_true rfl, Nat.le_of_ble_eq_true rfl⟩ (⟨rfl, rfl⟩)
      · exact absurd ((filled_some hu).trans c75) hu
    · exact absurd ((filled_some hu).trans c19) hu
theorem m_levelOf (hM : PM G s y hp) (hI : Inv s) {i : Nat} (hi : i < 8) (v : Int32) : Ct G mX3_levelOf 4 0 0 [.ref (G.2.2.2 + 31), .int (nI i), .int v] hp (Qf (some (.int (oI (levelO (s.kd i) (s.fr i) (s.to i) v)))) hp) := by
  obtain ⟨m0, m1, m2, m3, m4, m5, m6, m7, m8, m9, m10, hK, hF, hWf, hMk, hTr, hn⟩ := id hM
  obtain ⟨c, hc, ec⟩ := inR_of (by decide) (hI.1 i hi).1
  have hlt := filledN_lt (s.fr i) (s.to i) v
  have h3 : c = 0 ∨ c = 1 ∨ c = 2 := by omega
  refine Ct.start 2 (by decide) rfl (Nat.le_of_ble_eq_true rfl) ?_
  rcases h3 with h3 | h3 | h3 <;> subst h3
  · refine v_aload_n dX3_levelOf_0 rfl rfl ?_
    refine v_getf dX3_levelOf_1 fl_X3_7 (by assumption) (by rfl) rfl ?_
    refine v_iload_n dX3_levelOf_4 rfl rfl ?_
    refine v_iald _ dX3_levelOf_5 (by assumption) rfl (by omega) (by decide) rfl ?_
    refine v_top (y := nI 0) ((hK i hi).1.trans ec) ?_
    refine v_if_ne (tgt := 16) dX3_levelOf_6 (by decide) rfl (fun q => absurd (by decide) q) (fun _ => ?_)
    refine v_aload_n dX3_levelOf_9 rfl rfl ?_
    refine v_iload_n dX3_levelOf_10 rfl rfl ?_
    refine v_iload_n dX3_levelOf_11 rfl rfl ?_
    refine v_cvf dX3_levelOf_12 cw_X3_51 ⟨tn_X3_strict, tl_X3_strict⟩ rfl (by assumption) (m_strict G hp hM hi v) (by rfl) (by rfl) (Nat.le_of_ble_eq_true rfl) (Nat.le_of_ble_eq_true rfl) (Nat.le_of_ble_eq_true rfl) (Nat.le_of_ble_eq_true rfl) (Nat.le_of_ble_eq_true rfl) rfl ?_
    exact v_iret dX3_levelOf_15 rfl ⟨Nat.le_of_ble_eq_true rfl, Nat.le_of_ble_eq_true rfl⟩ (⟨by rw [levelO, if_pos (show s.kd i = 0 from ec)], rfl⟩)
  · have e1 : levelO (s.kd i) (s.fr i) (s.to i) v = some (filledN (s.fr i) (s.to i) v) := by rw [levelO, ec, if_neg (by decide), if_pos rfl]
    refine v_aload_n dX3_levelOf_0 rfl rfl ?_
    refine v_getf dX3_levelOf_1 fl_X3_7 (by assumption) (by rfl) rfl ?_
    refine v_iload_n dX3_levelOf_4 rfl rfl ?_
    refine v_iald _ dX3_levelOf_5 (by assumption) rfl (by omega) (by decide) rfl ?_
    refine v_top (y := nI 1) ((hK i hi).1.trans ec) ?_
    refine v_if_ne (tgt := 16) dX3_levelOf_6 (by decide) rfl (fun _ => ?_) (fun q => absurd q (by decide))
    refine v_aload_n dX3_levelOf_16 rfl rfl ?_
    refine v_iload_n dX3_levelOf_17 rfl rfl ?_
    refine v_iload_n dX3_levelOf_18 rfl rfl ?_
    refine v_cvf dX3_levelOf_19 cw_X3_55 ⟨tn_X3_filled, tl_X3_filled⟩ rfl (by assumption) (m_filled G hp hM hi v) (by rfl) (by rfl) (Nat.le_of_ble_eq_true rfl) (Nat.le_of_ble_eq_true rfl) (Nat.le_of_ble_eq_true rfl) (Nat.le_of_ble_eq_true rfl) (Nat.le_of_ble_eq_true rfl) rfl ?_
    refine v_istore_n dX3_levelOf_22 (Nat.le_of_ble_eq_true rfl) rfl ?_
    refine v_aload_n dX3_levelOf_23 rfl rfl ?_
    refine v_getf dX3_levelOf_24 fl_X3_7 (by assumption) (by rfl) rfl ?_
    refine v_iload_n dX3_levelOf_27 rfl rfl ?_
    refine v_iald _ dX3_levelOf_28 (by assumption) rfl (by omega) (by decide) rfl ?_
    refine v_top (y := nI 1) ((hK i hi).1.trans ec) ?_
    refine v_iconst (v := nI 2) dX3_levelOf_29 (by decide) rfl ?_
    refine v_icmp_ne (tgt := 61) dX3_levelOf_30 (by decide) rfl (fun _ => ?_) (fun q => absurd q (by decide))
    refine v_iconst (v := nI 0) dX3_levelOf_61 (by decide) rfl ?_
    refine v_istore dX3_levelOf_62 (Nat.le_of_ble_eq_true rfl) rfl ?_
    refine v_iload dX3_levelOf_64 rfl rfl ?_
    refine v_if_eq (tgt := 80) dX3_levelOf_66 (by decide) rfl (fun _ => ?_) (fun q => absurd (by decide) q)
    refine v_iload_n dX3_levelOf_80 rfl rfl ?_
    exact v_iret dX3_levelOf_81 rfl ⟨Nat.le_of_ble_eq_true rfl, Nat.le_of_ble_eq_true rfl⟩ (⟨by rw [e1]; rfl, rfl⟩)
  · have e1 : levelO (s.kd i) (s.fr i) (s.to i) v = some (kindN (s.fr i) (s.to i) v) := by rw [levelO, ec, if_neg (by decide), if_neg (by decide)]
    refine v_aload_n dX3_levelOf_0 rfl rfl ?_
    refine v_getf dX3_levelOf_1 fl_X3_7 (by assumption) (by rfl) rfl ?_
    refine v_iload_n dX3_levelOf_4 rfl rfl ?_
    refine v_iald _ dX3_levelOf_5 (by assumption) rfl (by omega) (by decide) rfl ?_
    refine v_top (y := nI 2) ((hK i hi).1.trans ec) ?_
    refine v_if_ne (tgt := 16) dX3_levelOf_6 (by decide) rfl (fun _ => ?_) (fun q => absurd q (by decide))
    refine v_aload_n dX3_levelOf_16 rfl rfl ?_
    refine v_iload_n dX3_levelOf_17 rfl rfl ?_
    refine v_iload_n dX3_levelOf_18 rfl rfl ?_
    refine v_cvf dX3_levelOf_19 cw_X3_55 ⟨tn_X3_filled, tl_X3_filled⟩ rfl (by assumption) (m_filled G hp hM hi v) (by rfl) (by rfl) (Nat.le_of_ble_eq_true rfl) (Nat.le_of_ble_eq_true rfl) (Nat.le_of_ble_eq_true rfl) (Nat.le_of_ble_eq_true rfl) (Nat.le_of_ble_eq_true rfl) rfl ?_
    refine v_istore_n dX3_levelOf_22 (Nat.le_of_ble_eq_true rfl) rfl ?_
    refine v_aload_n dX3_levelOf_23 rfl rfl ?_
    refine v_getf dX3_levelOf_24 fl_X3_7 (by assumption) (by rfl) rfl ?_
    refine v_iload_n dX3_levelOf_27 rfl rfl ?_
    refine v_iald _ dX3_levelOf_28 (by assumption) rfl (by omega) (by decide) rfl ?_
    refine v_top (y := nI 2) ((hK i hi).1.trans ec) ?_
    refine v_iconst (v := nI 2) dX3_levelOf_29 (by decide) rfl ?_
    refine v_icmp_ne (tgt := 61) dX3_levelOf_30 (by decide) rfl (fun q => absurd (by decide) q) (fun _ => ?_)
    refine v_aload_n dX3_levelOf_33 rfl rfl ?_
    refine v_iload_n dX3_levelOf_34 rfl rfl ?_
    refine v_iload_n dX3_levelOf_35 rfl rfl ?_
    refine v_iload_n dX3_levelOf_36 rfl rfl ?_
    by_cases q37 : hasS (s.fr i) (s.to i) (filledN (s.fr i) (s.to i) v) v
    · refine v_cvf dX3_levelOf_37 cw_X3_48 ⟨tn_X3_has, tl_X3_has⟩ rfl (by assumption) ((m_has G hp hM hi hlt v).yes ‹_›) (by rfl) (by rfl) (Nat.le_of_ble_eq_true rfl) (Nat.le_of_ble_eq_true rfl) (Nat.le_of_ble_eq_true rfl) (Nat.le_of_ble_eq_true rfl) (Nat.le_of_ble_eq_true rfl) rfl ?_
      refine v_if_eq (tgt := 61) dX3_levelOf_40 (by decide) rfl (fun q => absurd q (by decide)) (fun _ => ?_)
      refine v_aload_n dX3_levelOf_43 rfl rfl ?_
      refine v_getf dX3_levelOf_44 fl_X3_22 (by assumption) (by rfl) rfl ?_
      refine v_iconst (v := nI 4) dX3_levelOf_47 (by decide) rfl ?_
      refine v_iload_n dX3_levelOf_48 rfl rfl ?_
      refine v_imulN dX3_levelOf_49 rfl ?_
      refine v_iload_n dX3_levelOf_50 rfl rfl ?_
      refine v_iaddN dX3_levelOf_51 rfl ?_
      refine v_iald _ dX3_levelOf_52 (by assumption) rfl (by omega) (by decide) rfl ?_
      refine v_top (y := s.to i (filledN (s.fr i) (s.to i) v)) ((hF i hi _ hlt).2) ?_
      refine v_iload_n dX3_levelOf_53 rfl rfl ?_
      refine v_icmp_ne (tgt := 61) dX3_levelOf_54 (by decide) rfl (fun c54 => ?_) (fun c54 => ?_)
      · refine v_iconst (v := nI 0) dX3_levelOf_61 (by decide) rfl ?_
        refine v_istore dX3_levelOf_62 (Nat.le_of_ble_eq_true rfl) rfl ?_
        refine v_iload dX3_levelOf_64 rfl rfl ?_
        refine v_if_eq (tgt := 80) dX3_levelOf_66 (by decide) rfl (fun _ => ?_) (fun q => absurd (by decide) q)
        refine v_iload_n dX3_levelOf_80 rfl rfl ?_
        exact v_iret dX3_levelOf_81 rfl ⟨Nat.le_of_ble_eq_true rfl, Nat.le_of_ble_eq_true rfl⟩ (⟨by rw [e1]; (by_cases hl : lastS (s.fr i) (s.to i) v) <;> first | (rw [kindN, if_pos hl, if_pos (by omega)]; rfl) | (rw [kindN, if_pos hl, if_neg (by omega)]; rfl) | (rw [kindN, if_neg hl]; rfl) | exact absurd (And.intro q37 c54) hl | exact absurd hl.1 q37 | exact absurd hl.2 c54, rfl⟩)
      · refine v_iconst (v := nI 1) dX3_levelOf_57 (by decide) rfl ?_
        refine v_goto (tgt := 62) dX3_levelOf_58 (by decide) ?_
        refine v_istore dX3_levelOf_62 (Nat.le_of_ble_eq_true rfl) rfl ?_
        refine v_iload dX3_levelOf_64 rfl rfl ?_
        refine v_if_eq (tgt := 80) dX3_levelOf_66 (by decide) rfl (fun q => absurd q (by decide)) (fun _ => ?_)
        refine v_iload_n dX3_levelOf_69 rfl rfl ?_
        refine v_iconst (v := nI 3) dX3_levelOf_70 (by decide) rfl ?_
        refine v_icmp_geN (tgt := 80) dX3_levelOf_71 (by decide) rfl (by omega) (by omega) (fun c71 => ?_) (fun c71 => ?_)
        · refine v_iload_n dX3_levelOf_80 rfl rfl ?_
          exact v_iret dX3_levelOf_81 rfl ⟨Nat.le_of_ble_eq_true rfl, Nat.le_of_ble_eq_true rfl⟩ (⟨by rw [e1]; (by_cases hl : lastS (s.fr i) (s.to i) v) <;> first | (rw [kindN, if_pos hl, if_pos (by omega)]; rfl) | (rw [kindN, if_pos hl, if_neg (by omega)]; rfl) | (rw [kindN, if_neg hl]; rfl) | exact absurd (And.intro q37 c54) hl | exact absurd hl.1 q37 | exact absurd hl.2 c54, rfl⟩)
        · refine v_iload_n dX3_levelOf_74 rfl rfl ?_
          refine v_iconst (v := nI 1) dX3_levelOf_75 (by decide) rfl ?_
          refine v_iaddN dX3_levelOf_76 rfl ?_
          refine v_goto (tgt := 81) dX3_levelOf_77 (by decide) ?_
          exact v_iret dX3_levelOf_81 rfl ⟨Nat.le_of_ble_eq_true rfl, Nat.le_of_ble_eq_true rfl⟩ (⟨by rw [e1]; (by_cases hl : lastS (s.fr i) (s.to i) v) <;> first | (rw [kindN, if_pos hl, if_pos (by omega)]; rfl) | (rw [kindN, if_pos hl, if_neg (by omega)]; rfl) | (rw [kindN, if_neg hl]; rfl) | exact absurd (And.intro q37 c54) hl | exact absurd hl.1 q37 | exact absurd hl.2 c54, rfl⟩)
    · refine v_cvf dX3_levelOf_37 cw_X3_48 ⟨tn_X3_has, tl_X3_has⟩ rfl (by assumption) ((m_has G hp hM hi hlt v).no ‹_›) (by rfl) (by rfl) (Nat.le_of_ble_eq_true rfl) (Nat.le_of_ble_eq_true rfl) (Nat.le_of_ble_eq_true rfl) (Nat.le_of_ble_eq_true rfl) (Nat.le_of_ble_eq_true rfl) rfl ?_
      refine v_if_eq (tgt := 61) dX3_levelOf_40 (by decide) rfl (fun _ => ?_) (fun q => absurd (by decide) q)
      refine v_iconst (v := nI 0) dX3_levelOf_61 (by decide) rfl ?_
      refine v_istore dX3_levelOf_62 (Nat.le_of_ble_eq_true rfl) rfl ?_
      refine v_iload dX3_levelOf_64 rfl rfl ?_
      refine v_if_eq (tgt := 80) dX3_levelOf_66 (by decide) rfl (fun _ => ?_) (fun q => absurd (by decide) q)
      refine v_iload_n dX3_levelOf_80 rfl rfl ?_
      exact v_iret dX3_levelOf_81 rfl ⟨Nat.le_of_ble_eq_true rfl, Nat.le_of_ble_eq_true rfl⟩ (⟨by rw [e1]; (by_cases hl : lastS (s.fr i) (s.to i) v) <;> first | (rw [kindN, if_pos hl, if_pos (by omega)]; rfl) | (rw [kindN, if_pos hl, if_neg (by omega)]; rfl) | (rw [kindN, if_neg hl]; rfl) | exact absurd (And.intro q37 c54) hl | exact absurd hl.1 q37 | exact absurd hl.2 c54, rfl⟩)
theorem m_gaps (hM : PM G s y hp) {i : Nat} (hi : i < 8) : Ct G mX3_senseOf 2 0 0 [.ref (G.2.2.2 + 31), .int (nI i), .int (nI 1)] hp (Qf (some (.int (orTo (gapP (s.fr i) (s.to i)) 10))) hp) := by
  have m0 := hM.1
  have key : ∀ k, k ≤ 10 → ∀ l5 l6 : Option Value, Vm G mX3_senseOf 2 0 0 (Qf (some (.int (orTo (gapP (s.fr i) (s.to i)) 10))) hp) 5 [some (.ref (G.2.2.2 + 31)), some (.int (nI i)), some (.int (nI 1)), some (.int (orTo (gapP (s.fr i) (s.to i)) k)), some (.int (nI k)), l5, l6] [] hp 0 0 := by
    refine loop_up ?_ (fun v hv ih => ?_)
    · intro l5 l6
      refine v_iload dX3_senseOf_5 rfl rfl ?_
      refine v_bipush (v := nI 10) dX3_senseOf_7 (by decide) rfl ?_
      refine v_icmp_geN (tgt := 88) dX3_senseOf_9 (by decide) rfl (by omega) (by omega) (fun c9 => ?_) (fun c9 => ?_)
      · refine v_iload_n dX3_senseOf_88 rfl rfl ?_
        exact v_iret dX3_senseOf_89 rfl ⟨Nat.le_of_ble_eq_true rfl, Nat.le_of_ble_eq_true rfl⟩ (⟨rfl, rfl⟩)
      · exact absurd c9 (by omega)
    · intro l5 l6
      have hc : spC (s.fr i) (s.to i) (nI v) 4 ≤ 4 := cnt_le _ 4
      have inner : ∀ k, k ≤ 4 → Vm G mX3_senseOf 2 0 0 (Qf (some (.int (orTo (gapP (s.fr i) (s.to i)) 10))) hp) 18 [some (.ref (G.2.2.2 + 31)), some (.int (nI i)), some (.int (nI 1)), some (.int (orTo (gapP (s.fr i) (s.to i)) v)), some (.int (nI v)), some (.int (nI (spC (s.fr i) (s.to i) (nI v) k))), some (.int (nI k))] [] hp 0 0 := by
        refine loop_up ?_ (fun k hk jh => ?_)
        · refine v_iload dX3_senseOf_18 rfl rfl ?_
          refine v_iconst (v := nI 4) dX3_senseOf_20 (by decide) rfl ?_
          refine v_icmp_geN (tgt := 52) dX3_senseOf_21 (by decide) rfl (by omega) (by omega) (fun c21 => ?_) (fun c21 => ?_)
          · refine v_iload_n dX3_senseOf_52 rfl rfl ?_
            refine v_iload_n dX3_senseOf_53 rfl rfl ?_
            refine v_if_eq (tgt := 62) dX3_senseOf_54 (by decide) rfl (fun q => absurd q (by decide)) (fun _ => ?_)
            refine v_iload dX3_senseOf_57 rfl rfl ?_
            refine v_if_eqN (tgt := 72) dX3_senseOf_59 (by decide) rfl (by omega) (fun c59 => ?_) (fun c59 => ?_)
            · refine v_iconst (v := nI 1) dX3_senseOf_72 (by decide) rfl ?_
              refine v_iload dX3_senseOf_73 rfl rfl ?_
              refine v_ishl dX3_senseOf_75 rfl ?_
              refine v_goto (tgt := 80) dX3_senseOf_76 (by decide) ?_
              refine v_ior dX3_senseOf_80 rfl ?_
              refine v_istore_n dX3_senseOf_81 (Nat.le_of_ble_eq_true rfl) rfl ?_
              refine v_iinc1 dX3_senseOf_82 rfl (Nat.le_of_ble_eq_true rfl) rfl ?_
              refine v_goto (tgt := 5) dX3_senseOf_85 (by decide) ?_
              first | (rw [orTo_t (p := gapP (s.fr i) (s.to i)) (n := v) ‹_›] at ih; exact ih _ _) | (rw [orTo_f (p := gapP (s.fr i) (s.to i)) (n := v) ‹_›] at ih; rw [or0]; exact ih _ _)
            · refine v_iload_n dX3_senseOf_62 rfl rfl ?_
              refine v_if_ne (tgt := 79) dX3_senseOf_63 (by decide) rfl (fun _ => ?_) (fun q => absurd q (by decide))
              refine v_iconst (v := nI 0) dX3_senseOf_79 (by decide) rfl ?_
              refine v_ior dX3_senseOf_80 rfl ?_
              refine v_istore_n dX3_senseOf_81 (Nat.le_of_ble_eq_true rfl) rfl ?_
              refine v_iinc1 dX3_senseOf_82 rfl (Nat.le_of_ble_eq_true rfl) rfl ?_
              refine v_goto (tgt := 5) dX3_senseOf_85 (by decide) ?_
              first | (rw [orTo_t (p := gapP (s.fr i) (s.to i)) (n := v) ‹_›] at ih; exact ih _ _) | (rw [orTo_f (p := gapP (s.fr i) (s.to i)) (n := v) ‹_›] at ih; rw [or0]; exact ih _ _)
          · exact absurd c21 (by omega)
        · refine v_iload dX3_senseOf_18 rfl rfl ?_
          refine v_iconst (v := nI 4) dX3_senseOf_20 (by decide) rfl ?_
          refine v_icmp_geN (tgt := 52) dX3_senseOf_21 (by decide) rfl (by omega) (by omega) (fun c21 => ?_) (fun c21 => ?_)
          · exact absurd c21 (by omega)
          · refine v_iload dX3_senseOf_24 rfl rfl ?_
            refine v_aload_n dX3_senseOf_26 rfl rfl ?_
            refine v_iload_n dX3_senseOf_27 rfl rfl ?_
            refine v_iload dX3_senseOf_28 rfl rfl ?_
            refine v_iload dX3_senseOf_30 rfl rfl ?_
            by_cases q32 : hasS (s.fr i) (s.to i) k (nI v)
            · refine v_cvf dX3_senseOf_32 cw_X3_48 ⟨tn_X3_has, tl_X3_has⟩ rfl (by assumption) ((m_has G hp hM hi hk (nI v)).yes ‹_›) (by rfl) (by rfl) (Nat.le_of_ble_eq_true rfl) (Nat.le_of_ble_eq_true rfl) (Nat.le_of_ble_eq_true rfl) (Nat.le_of_ble_eq_true rfl) (Nat.le_of_ble_eq_true rfl) rfl ?_
              refine v_if_eq (tgt := 42) dX3_senseOf_35 (by decide) rfl (fun q => absurd q (by decide)) (fun _ => ?_)
              refine v_iconst (v := nI 1) dX3_senseOf_38 (by decide) rfl ?_
              refine v_goto (tgt := 43) dX3_senseOf_39 (by decide) ?_
              refine v_iaddN dX3_senseOf_43 rfl ?_
              refine v_istore dX3_senseOf_44 (Nat.le_of_ble_eq_true rfl) rfl ?_
              refine v_iinc1 dX3_senseOf_46 rfl (Nat.le_of_ble_eq_true rfl) rfl ?_
              refine v_goto (tgt := 18) dX3_senseOf_49 (by decide) ?_
              first | (rw [show spC (s.fr i) (s.to i) (nI v) (k + 1) = spC (s.fr i) (s.to i) (nI v) k + 1 from cnt_t ‹_›] at jh; exact jh) | (rw [show spC (s.fr i) (s.to i) (nI v) (k + 1) = spC (s.fr i) (s.to i) (nI v) k from cnt_f ‹_›] at jh; exact jh)
            · refine v_cvf dX3_senseOf_32 cw_X3_48 ⟨tn_X3_has, tl_X3_has⟩ rfl (by assumption) ((m_has G hp hM hi hk (nI v)).no ‹_›) (by rfl) (by rfl) (Nat.le_of_ble_eq_true rfl) (Nat.le_of_ble_eq_true rfl) (Nat.le_of_ble_eq_true rfl) (Nat.le_of_ble_eq_true rfl) (Nat.le_of_ble_eq_true rfl) rfl ?_
              refine v_if_eq (tgt := 42) dX3_senseOf_35 (by decide) rfl (fun _ => ?_) (fun q => absurd (by decide) q)
              refine v_iconst (v := nI 0) dX3_senseOf_42 (by decide) rfl ?_
              refine v_iaddN dX3_senseOf_43 rfl ?_
              refine v_istore dX3_senseOf_44 (Nat.le_of_ble_eq_true rfl) rfl ?_
              refine v_iinc1 dX3_senseOf_46 rfl (Nat.le_of_ble_eq_true rfl) rfl ?_
              refine v_goto (tgt := 18) dX3_senseOf_49 (by decide) ?_
              first | (rw [show spC (s.fr i) (s.to i) (nI v) (k + 1) = spC (s.fr i) (s.to i) (nI v) k + 1 from cnt_t ‹_›] at jh; exact jh) | (rw [show spC (s.fr i) (s.to i) (nI v) (k + 1) = spC (s.fr i) (s.to i) (nI v) k from cnt_f ‹_›] at jh; exact jh)
      refine v_iload dX3_senseOf_5 rfl rfl ?_
      refine v_bipush (v := nI 10) dX3_senseOf_7 (by decide) rfl ?_
      refine v_icmp_geN (tgt := 88) dX3_senseOf_9 (by decide) rfl (by omega) (by omega) (fun c9 => ?_) (fun c9 => ?_)
      · exact absurd c9 (by omega)
      · refine v_iconst (v := nI 0) dX3_senseOf_12 (by decide) rfl ?_
        refine v_istore dX3_senseOf_13 (Nat.le_of_ble_eq_true rfl) rfl ?_
        refine v_iconst (v := nI 0) dX3_senseOf_15 (by decide) rfl ?_
        refine v_istore dX3_senseOf_16 (Nat.le_of_ble_eq_true rfl) rfl ?_
        exact inner 0 (by decide)
  refine Ct.start 4 (by decide) rfl (Nat.le_of_ble_eq_true rfl) ?_
  refine v_iconst (v := nI 0) dX3_senseOf_0 (by decide) rfl ?_
  refine v_istore_n dX3_senseOf_1 (Nat.le_of_ble_eq_true rfl) rfl ?_
  refine v_iconst (v := nI 0) dX3_senseOf_2 (by decide) rfl ?_
  refine v_istore dX3_senseOf_3 (Nat.le_of_ble_eq_true rfl) rfl ?_
  exact key 0 (by decide) _ _
theorem m_overs (hM : PM G s y hp) {i : Nat} (hi : i < 8) : Ct G mX3_senseOf 2 0 0 [.ref (G.2.2.2 + 31), .int (nI i), .int (nI 0)] hp (Qf (some (.int (orTo (ovrP (s.fr i) (s.to i)) 10))) hp) := by
  have m0 := hM.1
  have key : ∀ k, k ≤ 10 → ∀ l5 l6 : Option Value, Vm G mX3_senseOf 2 0 0 (Qf (some (.int (orTo (ovrP (s.fr i) (s.to i)) 10))) hp) 5 [some (.ref (G.2.2.2 + 31)), some (.int (nI i)), some (.int (nI 0)), some (.int (orTo (ovrP (s.fr i) (s.to i)) k)), some (.int (nI k)), l5, l6] [] hp 0 0 := by
    refine loop_up ?_ (fun v hv ih => ?_)
    · intro l5 l6
      refine v_iload dX3_senseOf_5 rfl rfl ?_
      refine v_bipush (v := nI 10) dX3_senseOf_7 (by decide) rfl ?_
      refine v_icmp_geN (tgt := 88) dX3_senseOf_9 (by decide) rfl (by omega) (by omega) (fun c9 => ?_) (fun c9 => ?_)
      · refine v_iload_n dX3_senseOf_88 rfl rfl ?_
        exact v_iret dX3_senseOf_89 rfl ⟨Nat.le_of_ble_eq_true rfl, Nat.le_of_ble_eq_true rfl⟩ (⟨rfl, rfl⟩)
      · exact absurd c9 (by omega)
    · intro l5 l6
      have hc : spC (s.fr i) (s.to i) (nI v) 4 ≤ 4 := cnt_le _ 4
      have inner : ∀ k, k ≤ 4 → Vm G mX3_senseOf 2 0 0 (Qf (some (.int (orTo (ovrP (s.fr i) (s.to i)) 10))) hp) 18 [some (.ref (G.2.2.2 + 31)), some (.int (nI i)), some (.int (nI 0)), some (.int (orTo (ovrP (s.fr i) (s.to i)) v)), some (.int (nI v)), some (.int (nI (spC (s.fr i) (s.to i) (nI v) k))), some (.int (nI k))] [] hp 0 0 := by
        refine loop_up ?_ (fun k hk jh => ?_)
        · refine v_iload dX3_senseOf_18 rfl rfl ?_
          refine v_iconst (v := nI 4) dX3_senseOf_20 (by decide) rfl ?_
          refine v_icmp_geN (tgt := 52) dX3_senseOf_21 (by decide) rfl (by omega) (by omega) (fun c21 => ?_) (fun c21 => ?_)
          · refine v_iload_n dX3_senseOf_52 rfl rfl ?_
            refine v_iload_n dX3_senseOf_53 rfl rfl ?_
            refine v_if_eq (tgt := 62) dX3_senseOf_54 (by decide) rfl (fun _ => ?_) (fun q => absurd (by decide) q)
            refine v_iload_n dX3_senseOf_62 rfl rfl ?_
            refine v_if_ne (tgt := 79) dX3_senseOf_63 (by decide) rfl (fun q => absurd (by decide) q) (fun _ => ?_)
            refine v_iload dX3_senseOf_66 rfl rfl ?_
            refine v_iconst (v := nI 1) dX3_senseOf_68 (by decide) rfl ?_
            refine v_icmp_leN (tgt := 79) dX3_senseOf_69 (by decide) rfl (by omega) (by omega) (fun c69 => ?_) (fun c69 => ?_)
            · refine v_iconst (v := nI 0) dX3_senseOf_79 (by decide) rfl ?_
              refine v_ior dX3_senseOf_80 rfl ?_
              refine v_istore_n dX3_senseOf_81 (Nat.le_of_ble_eq_true rfl) rfl ?_
              refine v_iinc1 dX3_senseOf_82 rfl (Nat.le_of_ble_eq_true rfl) rfl ?_
              refine v_goto (tgt := 5) dX3_senseOf_85 (by decide) ?_
              first | (rw [orTo_t (p := ovrP (s.fr i) (s.to i)) (n := v) (show 2 ≤ _ by omega)] at ih; exact ih _ _) | (rw [orTo_f (p := ovrP (s.fr i) (s.to i)) (n := v) (show ¬ 2 ≤ _ by omega)] at ih; rw [or0]; exact ih _ _)
            · refine v_iconst (v := nI 1) dX3_senseOf_72 (by decide) rfl ?_
              refine v_iload dX3_senseOf_73 rfl rfl ?_
              refine v_ishl dX3_senseOf_75 rfl ?_
              refine v_goto (tgt := 80) dX3_senseOf_76 (by decide) ?_
              refine v_ior dX3_senseOf_80 rfl ?_
              refine v_istore_n dX3_senseOf_81 (Nat.le_of_ble_eq_true rfl) rfl ?_
              refine v_iinc1 dX3_senseOf_82 rfl (Nat.le_of_ble_eq_true rfl) rfl ?_
              refine v_goto (tgt := 5) dX3_senseOf_85 (by decide) ?_
              first | (rw [orTo_t (p := ovrP (s.fr i) (s.to i)) (n := v) (show 2 ≤ _ by omega)] at ih; exact ih _ _) | (rw [orTo_f (p := ovrP (s.fr i) (s.to i)) (n := v) (show ¬ 2 ≤ _ by omega)] at ih; rw [or0]; exact ih _ _)
          · exact absurd c21 (by omega)
        · refine v_iload dX3_senseOf_18 rfl rfl ?_
          refine v_iconst (v := nI 4) dX3_senseOf_20 (by decide) rfl ?_
          refine v_icmp_geN (tgt := 52) dX3_senseOf_21 (by decide) rfl (by omega) (by omega) (fun c21 => ?_) (fun c21 => ?_)
          · exact absurd c21 (by omega)
          · refine v_iload dX3_senseOf_24 rfl rfl ?_
            refine v_aload_n dX3_senseOf_26 rfl rfl ?_
            refine v_iload_n dX3_senseOf_27 rfl rfl ?_
            refine v_iload dX3_senseOf_28 rfl rfl ?_
            refine v_iload dX3_senseOf_30 rfl rfl ?_
            by_cases q32 : hasS (s.fr i) (s.to i) k (nI v)
            · refine v_cvf dX3_senseOf_32 cw_X3_48 ⟨tn_X3_has, tl_X3_has⟩ rfl (by assumption) ((m_has G hp hM hi hk (nI v)).yes ‹_›) (by rfl) (by rfl) (Nat.le_of_ble_eq_true rfl) (Nat.le_of_ble_eq_true rfl) (Nat.le_of_ble_eq_true rfl) (Nat.le_of_ble_eq_true rfl) (Nat.le_of_ble_eq_true rfl) rfl ?_
              refine v_if_eq (tgt := 42) dX3_senseOf_35 (by decide) rfl (fun q => absurd q (by decide)) (fun _ => ?_)
              refine v_iconst (v := nI 1) dX3_senseOf_38 (by decide) rfl ?_
              refine v_goto (tgt := 43) dX3_senseOf_39 (by decide) ?_
              refine v_iaddN dX3_senseOf_43 rfl ?_
              refine v_istore dX3_senseOf_44 (Nat.le_of_ble_eq_true rfl) rfl ?_
              refine v_iinc1 dX3_senseOf_46 rfl (Nat.le_of_ble_eq_true rfl) rfl ?_
              refine v_goto (tgt := 18) dX3_senseOf_49 (by decide) ?_
              first | (rw [show spC (s.fr i) (s.to i) (nI v) (k + 1) = spC (s.fr i) (s.to i) (nI v) k + 1 from cnt_t ‹_›] at jh; exact jh) | (rw [show spC (s.fr i) (s.to i) (nI v) (k + 1) = spC (s.fr i) (s.to i) (nI v) k from cnt_f ‹_›] at jh; exact jh)
            · refine v_cvf dX3_senseOf_32 cw_X3_48 ⟨tn_X3_has, tl_X3_has⟩ rfl (by assumption) ((m_has G hp hM hi hk (nI v)).no ‹_›) (by rfl) (by rfl) (Nat.le_of_ble_eq_true rfl) (Nat.le_of_ble_eq_true rfl) (Nat.le_of_ble_eq_true rfl) (Nat.le_of_ble_eq_true rfl) (Nat.le_of_ble_eq_true rfl) rfl ?_
              refine v_if_eq (tgt := 42) dX3_senseOf_35 (by decide) rfl (fun _ => ?_) (fun q => absurd (by decide) q)
              refine v_iconst (v := nI 0) dX3_senseOf_42 (by decide) rfl ?_
              refine v_iaddN dX3_senseOf_43 rfl ?_
              refine v_istore dX3_senseOf_44 (Nat.le_of_ble_eq_true rfl) rfl ?_
              refine v_iinc1 dX3_senseOf_46 rfl (Nat.le_of_ble_eq_true rfl) rfl ?_
              refine v_goto (tgt := 18) dX3_senseOf_49 (by decide) ?_
              first | (rw [show spC (s.fr i) (s.to i) (nI v) (k + 1) = spC (s.fr i) (s.to i) (nI v) k + 1 from cnt_t ‹_›] at jh; exact jh) | (rw [show spC (s.fr i) (s.to i) (nI v) (k + 1) = spC (s.fr i) (s.to i) (nI v) k from cnt_f ‹_›] at jh; exact jh)
      refine v_iload dX3_senseOf_5 rfl rfl ?_
      refine v_bipush (v := nI 10) dX3_senseOf_7 (by decide) rfl ?_
      refine v_icmp_geN (tgt := 88) dX3_senseOf_9 (by decide) rfl (by omega) (by omega) (fun c9 => ?_) (fun c9 => ?_)
      · exact absurd c9 (by omega)
      · refine v_iconst (v := nI 0) dX3_senseOf_12 (by decide) rfl ?_
        refine v_istore dX3_senseOf_13 (Nat.le_of_ble_eq_true rfl) rfl ?_
        refine v_iconst (v := nI 0) dX3_senseOf_15 (by decide) rfl ?_
        refine v_istore dX3_senseOf_16 (Nat.le_of_ble_eq_true rfl) rfl ?_
        exact inner 0 (by decide)
  refine Ct.start 4 (by decide) rfl (Nat.le_of_ble_eq_true rfl) ?_
  refine v_iconst (v := nI 0) dX3_senseOf_0 (by decide) rfl ?_
  refine v_istore_n dX3_senseOf_1 (Nat.le_of_ble_eq_true rfl) rfl ?_
  refine v_iconst (v := nI 0) dX3_senseOf_2 (by decide) rfl ?_
  refine v_istore dX3_senseOf_3 (Nat.le_of_ble_eq_true rfl) rfl ?_
  exact key 0 (by decide) _ _
theorem m_isSensible (hM : PM G s y hp) (hI : Inv s) {i : Nat} (hi : i < 8) : Ct G mX3_isSensible 5 0 0 [.ref (G.2.2.2 + 31), .int (nI i)] hp (Qf (some (.int (bP (senP (s.kd i) (s.fr i) (s.to i))))) hp) := by
  have m0 := hM.1
  have zero : ¬ senP (s.kd i) (s.fr i) (s.to i) → ∀ v, v ≤ 10 → Vm G mX3_isSensible 5 0 0 (Qf (some (.int (bP (senP (s.kd i) (s.fr i) (s.to i))))) hp) 26 [some (.ref (G.2.2.2 + 31)), some (.int (nI i)), some (.int (nI 0)), some (.int (nI v))] [] hp 0 0 := by
    intro hs v hv
    refine v_iload_n dX3_isSensible_26 rfl rfl ?_
    refine v_bipush (v := nI 10) dX3_isSensible_27 (by decide) rfl ?_
    refine v_icmp_geN (tgt := 65) dX3_isSensible_29 (by decide) rfl (by omega) (by omega) (fun c29 => ?_) (fun c29 => ?_)
    · refine v_iload_n dX3_isSensible_65 rfl rfl ?_
      exact v_zret dX3_isSensible_66 rfl (by rfl) ⟨Nat.le_of_ble_eq_true rfl, Nat.le_of_ble_eq_true rfl⟩ (⟨by rw [bP_f hs], rfl⟩)
    · refine v_iload_n dX3_isSensible_32 rfl rfl ?_
      refine v_if_eq (tgt := 65) dX3_isSensible_33 (by decide) rfl (fun _ => ?_) (fun q => absurd (by decide) q)
      refine v_iload_n dX3_isSensible_65 rfl rfl ?_
      exact v_zret dX3_isSensible_66 rfl (by rfl) ⟨Nat.le_of_ble_eq_true rfl, Nat.le_of_ble_eq_true rfl⟩ (⟨by rw [bP_f hs], rfl⟩)
  have key : orTo (gapP (s.fr i) (s.to i)) 10 = 0 → orTo (ovrP (s.fr i) (s.to i)) 10 = 0 → ∀ k, k ≤ 9 → nfP (s.kd i) (s.fr i) (s.to i) (k + 1) → Vm G mX3_isSensible 5 0 0 (Qf (some (.int (bP (senP (s.kd i) (s.fr i) (s.to i))))) hp) 26 [some (.ref (G.2.2.2 + 31)), some (.int (nI i)), some (.int (nI 1)), some (.int (nI (k + 1)))] [] hp 0 0 := by
    intro hg ho
    refine loop_up ?_ (fun k hk ih => ?_)
    · intro hn
      refine v_iload_n dX3_isSensible_26 rfl rfl ?_
      refine v_bipush (v := nI 10) dX3_isSensible_27 (by decide) rfl ?_
      refine v_icmp_ge (tgt := 65) dX3_isSensible_29 (by decide) rfl (fun _ => ?_) (fun q => absurd (by decide) q)
      refine v_iload_n dX3_isSensible_65 rfl rfl ?_
      exact v_zret dX3_isSensible_66 rfl (by rfl) ⟨Nat.le_of_ble_eq_true rfl, Nat.le_of_ble_eq_true rfl⟩ (⟨by rw [bP_t ⟨hg, ho, hn⟩], rfl⟩)
    · intro hn
      refine v_iload_n dX3_isSensible_26 rfl rfl ?_
      refine v_bipush (v := nI 10) dX3_isSensible_27 (by decide) rfl ?_
      refine v_icmp_geN (tgt := 65) dX3_isSensible_29 (by decide) rfl (by omega) (by omega) (fun c29 => ?_) (fun c29 => ?_)
      · exact absurd c29 (by omega)
      · refine v_iload_n dX3_isSensible_32 rfl rfl ?_
        refine v_if_eq (tgt := 65) dX3_isSensible_33 (by decide) rfl (fun q => absurd q (by decide)) (fun _ => ?_)
        refine v_aload_n dX3_isSensible_36 rfl rfl ?_
        refine v_iload_n dX3_isSensible_37 rfl rfl ?_
        refine v_iload_n dX3_isSensible_38 rfl rfl ?_
        refine v_cvf dX3_isSensible_39 cw_X3_66 ⟨tn_X3_levelOf, tl_X3_levelOf⟩ rfl (by assumption) (m_levelOf G hp hM hI hi (nI (k + 1))) (by rfl) (by rfl) (Nat.le_of_ble_eq_true rfl) (Nat.le_of_ble_eq_true rfl) (Nat.le_of_ble_eq_true rfl) (Nat.le_of_ble_eq_true rfl) (Nat.le_of_ble_eq_true rfl) rfl ?_
        refine v_aload_n dX3_isSensible_42 rfl rfl ?_
        refine v_iload_n dX3_isSensible_43 rfl rfl ?_
        refine v_iload_n dX3_isSensible_44 rfl rfl ?_
        refine v_iconst (v := nI 1) dX3_isSensible_45 (by decide) rfl ?_
        refine v_isubN dX3_isSensible_46 (by omega) rfl ?_
        refine v_cvf dX3_isSensible_47 cw_X3_66 ⟨tn_X3_levelOf, tl_X3_levelOf⟩ rfl (by assumption) (m_levelOf G hp hM hI hi (nI (k + 1 - 1))) (by rfl) (by rfl) (Nat.le_of_ble_eq_true rfl) (Nat.le_of_ble_eq_true rfl) (Nat.le_of_ble_eq_true rfl) (Nat.le_of_ble_eq_true rfl) (Nat.le_of_ble_eq_true rfl) rfl ?_
        refine v_icmp_ltA (tgt := 57) dX3_isSensible_50 (by decide) rfl (fun c50 => ?_) (fun c50 => ?_)
        · refine v_iconst (v := nI 0) dX3_isSensible_57 (by decide) rfl ?_
          refine v_istore_n dX3_isSensible_58 (Nat.le_of_ble_eq_true rfl) rfl ?_
          refine v_iinc1 dX3_isSensible_59 rfl (Nat.le_of_ble_eq_true rfl) rfl ?_
          refine v_goto (tgt := 26) dX3_isSensible_62 (by decide) ?_
          first | exact ih (fun j hj => (Nat.lt_or_ge (j + 1) (k + 1)).elim (fun q => hn j q) (fun q => (show j = k by omega) ▸ c50)) | exact zero (fun h => c50 (h.2.2 k (by omega))) (k + 1 + 1) (by omega)
        · refine v_iconst (v := nI 1) dX3_isSensible_53 (by decide) rfl ?_
          refine v_goto (tgt := 58) dX3_isSensible_54 (by decide) ?_
          refine v_istore_n dX3_isSensible_58 (Nat.le_of_ble_eq_true rfl) rfl ?_
          refine v_iinc1 dX3_isSensible_59 rfl (Nat.le_of_ble_eq_true rfl) rfl ?_
          refine v_goto (tgt := 26) dX3_isSensible_62 (by decide) ?_
          first | exact ih (fun j hj => (Nat.lt_or_ge (j + 1) (k + 1)).elim (fun q => hn j q) (fun q => (show j = k by omega) ▸ c50)) | exact zero (fun h => c50 (h.2.2 k (by omega))) (k + 1 + 1) (by omega)
  refine Ct.start 2 (by decide) rfl (Nat.le_of_ble_eq_true rfl) ?_
  refine v_aload_n dX3_isSensible_0 rfl rfl ?_
  refine v_iload_n dX3_isSensible_1 rfl rfl ?_
  refine v_iconst (v := nI 1) dX3_isSensible_2 (by decide) rfl ?_
  refine v_cvf dX3_isSensible_3 cw_X3_69 ⟨tn_X3_senseOf, tl_X3_senseOf⟩ rfl (by assumption) (m_gaps G hp hM hi) (by rfl) (by rfl) (Nat.le_of_ble_eq_true rfl) (Nat.le_of_ble_eq_true rfl) (Nat.le_of_ble_eq_true rfl) (Nat.le_of_ble_eq_true rfl) (Nat.le_of_ble_eq_true rfl) rfl ?_
  refine v_if_ne (tgt := 22) dX3_isSensible_6 (by decide) rfl (fun c6 => ?_) (fun c6 => ?_)
  · refine v_iconst (v := nI 0) dX3_isSensible_22 (by decide) rfl ?_
    refine v_istore_n dX3_isSensible_23 (Nat.le_of_ble_eq_true rfl) rfl ?_
    refine v_iconst (v := nI 1) dX3_isSensible_24 (by decide) rfl ?_
    refine v_istore_n dX3_isSensible_25 (Nat.le_of_ble_eq_true rfl) rfl ?_
    first | exact key ‹_› ‹_› 0 (by decide) (fun j hj => absurd hj (by omega)) | exact zero (fun h => absurd h.1 ‹_›) 1 (by decide) | exact zero (fun h => absurd h.2.1 ‹_›) 1 (by decide)
  · refine v_aload_n dX3_isSensible_9 rfl rfl ?_
    refine v_iload_n dX3_isSensible_10 rfl rfl ?_
    refine v_iconst (v := nI 0) dX3_isSensible_11 (by decide) rfl ?_
    refine v_cvf dX3_isSensible_12 cw_X3_69 ⟨tn_X3_senseOf, tl_X3_senseOf⟩ rfl (by assumption) (m_overs G hp hM hi) (by rfl) (by rfl) (Nat.le_of_ble_eq_true rfl) (Nat.le_of_ble_eq_true rfl) (Nat.le_of_ble_eq_true rfl) (Nat.le_of_ble_eq_true rfl) (Nat.le_of_ble_eq_true rfl) rfl ?_
    refine v_if_ne (tgt := 22) dX3_isSensible_15 (by decide) rfl (fun c15 => ?_) (fun c15 => ?_)
    · refine v_iconst (v := nI 0) dX3_isSensible_22 (by decide) rfl ?_
      refine v_istore_n dX3_isSensible_23 (Nat.le_of_ble_eq_true rfl) rfl ?_
      refine v_iconst (v := nI 1) dX3_isSensible_24 (by decide) rfl ?_
      refine v_istore_n dX3_isSensible_25 (Nat.le_of_ble_eq_true rfl) rfl ?_
      first | exact key ‹_› ‹_› 0 (by decide) (fun j hj => absurd hj (by omega)) | exact zero (fun h => absurd h.1 ‹_›) 1 (by decide) | exact zero (fun h => absurd h.2.1 ‹_›) 1 (by decide)
    · refine v_iconst (v := nI 1) dX3_isSensible_18 (by decide) rfl ?_
      refine v_goto (tgt := 23) dX3_isSensible_19 (by decide) ?_
      refine v_istore_n dX3_isSensible_23 (Nat.le_of_ble_eq_true rfl) rfl ?_
      refine v_iconst (v := nI 1) dX3_isSensible_24 (by decide) rfl ?_
      refine v_istore_n dX3_isSensible_25 (Nat.le_of_ble_eq_true rfl) rfl ?_
      first | exact key ‹_› ‹_› 0 (by decide) (fun j hj => absurd hj (by omega)) | exact zero (fun h => absurd h.1 ‹_›) 1 (by decide) | exact zero (fun h => absurd h.2.1 ‹_›) 1 (by decide)
theorem m_isWork (hM : PM G s y hp) (z : Int32) : Ct G mX3_isWork 1 0 0 [.ref (G.2.2.2 + 31), .int z] hp (Qf (some (.int (bP (InR z s.n)))) hp) := by
  obtain ⟨m0, m1, m2, m3, m4, m5, m6, m7, m8, m9, m10, hK, hF, hWf, hMk, hTr, hn⟩ := hM
  have e : (nI 0 ≤ z ∧ z ≤ nI s.n - nI 1) ↔ InR z s.n := by
    rw [InR, Int32.not_le, Int32.lt_iff_toInt_lt, Int32.le_iff_toInt_le (x := z), pk_sub_toInt (by omega) (by omega), nI_toInt (by omega)]
    show (0 ≤ z ∧ _) ↔ _
    constructor
    · rintro ⟨q1, q2⟩; exact ⟨q1, by omega⟩
    · rintro ⟨q1, q2⟩; exact ⟨q1, by omega⟩
  refine Ct.start 0 (by decide) rfl (Nat.le_of_ble_eq_true rfl) ?_
  refine v_iload_n dX3_isWork_0 rfl rfl ?_
  refine v_iconst (v := nI 0) dX3_isWork_1 (by decide) rfl ?_
  refine v_aload_n dX3_isWork_2 rfl rfl ?_
  refine v_getf dX3_isWork_3 fl_X3_77 (by assumption) (by rfl) rfl ?_
  refine v_iconst (v := nI 1) dX3_isWork_6 (by decide) rfl ?_
  refine v_isub dX3_isWork_7 rfl ?_
  by_cases q8 : nI 0 ≤ z ∧ z ≤ nI s.n - nI 1
  · refine v_csf dX3_isWork_8 cw_X3_40 ts_X3_in ((c_in G hp z (nI 0) (nI s.n - nI 1)).yes ‹_›) (by rfl) (by rfl) (Nat.le_of_ble_eq_true rfl) (Nat.le_of_ble_eq_true rfl) (Nat.le_of_ble_eq_true rfl) (Nat.le_of_ble_eq_true rfl) (Nat.le_of_ble_eq_true rfl) rfl ?_
    exact v_zret dX3_isWork_11 rfl (by rfl) ⟨Nat.le_of_ble_eq_true rfl, Nat.le_of_ble_eq_true rfl⟩ (⟨by first | (rw [bP_t (e.mp q8)]; done) | (rw [bP_f (fun q => q8 (e.mpr q))]; done), rfl⟩)
  · refine v_csf dX3_isWork_8 cw_X3_40 ts_X3_in ((c_in G hp z (nI 0) (nI s.n - nI 1)).no ‹_›) (by rfl) (by rfl) (Nat.le_of_ble_eq_true rfl) (Nat.le_of_ble_eq_true rfl) (Nat.le_of_ble_eq_true rfl) (Nat.le_of_ble_eq_true rfl) (Nat.le_of_ble_eq_true rfl) rfl ?_
    exact v_zret dX3_isWork_11 rfl (by rfl) ⟨Nat.le_of_ble_eq_true rfl, Nat.le_of_ble_eq_true rfl⟩ (⟨by first | (rw [bP_t (e.mp q8)]; done) | (rw [bP_f (fun q => q8 (e.mpr q))]; done), rfl⟩)
theorem m_pointsOf (hM : PM G s y hp) (hI : Inv s) {sh w : Nat} (hs : sh < 2) (hw : w < s.n) : Ct G mX3_pointsOf 5 0 0 [.ref (G.2.2.2 + 31), .int (nI sh), .int (nI w)] hp (Qf (some (.int (ptsI s sh w 4))) hp) := by
  obtain ⟨m0, m1, m2, m3, m4, m5, m6, m7, m8, m9, m10, hK, hF, hWf, hMk, hTr, hn⟩ := id hM
  have key : ∀ k, k ≤ 4 → ∀ (l5 : Option Value), Vm G mX3_pointsOf 5 0 0 (Qf (some (.int (ptsI s sh w 4))) hp) 7 [some (.ref (G.2.2.2 + 31)), some (.int (nI sh)), some (.int (nI w)), some (.int (ptsI s sh w k)), some (.int (nI (sh * 4 + k))), l5] [] hp 0 0 := by
    refine loop_up ?_ (fun k hk ih => ?_)
    · intro l5
      refine v_iload dX3_pointsOf_7 rfl rfl ?_
      refine v_iconst (v := nI 4) dX3_pointsOf_9 (by decide) rfl ?_
      refine v_iload_n dX3_pointsOf_10 rfl rfl ?_
      refine v_imulN dX3_pointsOf_11 rfl ?_
      refine v_iconst (v := nI 4) dX3_pointsOf_12 (by decide) rfl ?_
      refine v_iaddN dX3_pointsOf_13 rfl ?_
      refine v_icmp_geN (tgt := 72) dX3_pointsOf_14 (by decide) rfl (by omega) (by omega) (fun c14 => ?_) (fun c14 => ?_)
      · refine v_iload_n dX3_pointsOf_72 rfl rfl ?_
        exact v_iret dX3_pointsOf_73 rfl ⟨Nat.le_of_ble_eq_true rfl, Nat.le_of_ble_eq_true rfl⟩ (⟨rfl, rfl⟩)
      · exact absurd c14 (by omega)
    · intro l5
      obtain ⟨fc, hfc, efc, ec⟩ := fc_of hI (j := sh * 4 + k) (by omega)
      have hj : sh * 4 + k < 8 := by omega
      have hlv : oI (levelO (s.kd (sh * 4 + k)) (s.fr (sh * 4 + k)) (s.to (sh * 4 + k)) (s.wf w fc)) = oI (lvW s (sh * 4 + k) w) := by rw [lvW, ec]
      refine v_iload dX3_pointsOf_7 rfl rfl ?_
      refine v_iconst (v := nI 4) dX3_pointsOf_9 (by decide) rfl ?_
      refine v_iload_n dX3_pointsOf_10 rfl rfl ?_
      refine v_imulN dX3_pointsOf_11 rfl ?_
      refine v_iconst (v := nI 4) dX3_pointsOf_12 (by decide) rfl ?_
      refine v_iaddN dX3_pointsOf_13 rfl ?_
      refine v_icmp_geN (tgt := 72) dX3_pointsOf_14 (by decide) rfl (by omega) (by omega) (fun c14 => ?_) (fun c14 => ?_)
      · exact absurd c14 (by omega)
      · refine v_aload_n dX3_pointsOf_17 rfl rfl ?_
        refine v_iload dX3_pointsOf_18 rfl rfl ?_
        refine v_aload_n dX3_pointsOf_20 rfl rfl ?_
        refine v_getf dX3_pointsOf_21 fl_X3_25 (by assumption) (by rfl) rfl ?_
        refine v_iconst (v := nI 4) dX3_pointsOf_24 (by decide) rfl ?_
        refine v_iload_n dX3_pointsOf_25 rfl rfl ?_
        refine v_imulN dX3_pointsOf_26 rfl ?_
        refine v_aload_n dX3_pointsOf_27 rfl rfl ?_
        refine v_getf dX3_pointsOf_28 fl_X3_13 (by assumption) (by rfl) rfl ?_
        refine v_iload dX3_pointsOf_31 rfl rfl ?_
        refine v_iald _ dX3_pointsOf_33 (by assumption) rfl (by omega) (by decide) rfl ?_
        refine v_top (y := nI fc) ((hK _ hj).2.1.trans efc) ?_
        refine v_iaddN dX3_pointsOf_34 rfl ?_
        refine v_iald _ dX3_pointsOf_35 (by assumption) rfl (by omega) (by decide) rfl ?_
        refine v_top (y := s.wf w fc) (hWf w hw fc hfc) ?_
        refine v_cvf dX3_pointsOf_36 cw_X3_66 ⟨tn_X3_levelOf, tl_X3_levelOf⟩ rfl (by assumption) ((m_levelOf G hp hM hI hj (s.wf w fc)).is hlv) (by rfl) (by rfl) (Nat.le_of_ble_eq_true rfl) (Nat.le_of_ble_eq_true rfl) (Nat.le_of_ble_eq_true rfl) (Nat.le_of_ble_eq_true rfl) (Nat.le_of_ble_eq_true rfl) rfl ?_
        refine v_istore dX3_pointsOf_39 (Nat.le_of_ble_eq_true rfl) rfl ?_
        refine v_iload_n dX3_pointsOf_41 rfl rfl ?_
        refine v_iload dX3_pointsOf_42 rfl rfl ?_
        refine v_sipush (v := (-900)) dX3_pointsOf_44 (by decide) rfl ?_
        refine v_icmp_ne (tgt := 54) dX3_pointsOf_47 (by decide) rfl (fun c47 => ?_) (fun c47 => ?_)
        · refine v_aload_n dX3_pointsOf_54 rfl rfl ?_
          refine v_getf dX3_pointsOf_55 fl_X3_16 (by assumption) (by rfl) rfl ?_
          refine v_iload dX3_pointsOf_58 rfl rfl ?_
          refine v_iald _ dX3_pointsOf_60 (by assumption) rfl (by omega) (by decide) rfl ?_
          refine v_top (y := s.wt (sh * 4 + k)) ((hK _ hj).2.2) ?_
          refine v_iload dX3_pointsOf_61 rfl rfl ?_
          refine v_imul dX3_pointsOf_63 rfl ?_
          refine v_iadd dX3_pointsOf_64 rfl ?_
          refine v_istore_n dX3_pointsOf_65 (Nat.le_of_ble_eq_true rfl) rfl ?_
          refine v_iinc1 dX3_pointsOf_66 rfl (Nat.le_of_ble_eq_true rfl) rfl ?_
          refine v_goto (tgt := 7) dX3_pointsOf_69 (by decide) ?_
          first | (rw [ptsI_t (k := k) ‹_›] at ih; rw [add0]; exact ih _) | (rw [ptsI_f (k := k) ‹_›] at ih; exact ih _)
        · refine v_iconst (v := nI 0) dX3_pointsOf_50 (by decide) rfl ?_
          refine v_goto (tgt := 64) dX3_pointsOf_51 (by decide) ?_
          refine v_iadd dX3_pointsOf_64 rfl ?_
          refine v_istore_n dX3_pointsOf_65 (Nat.le_of_ble_eq_true rfl) rfl ?_
          refine v_iinc1 dX3_pointsOf_66 rfl (Nat.le_of_ble_eq_true rfl) rfl ?_
          refine v_goto (tgt := 7) dX3_pointsOf_69 (by decide) ?_
          first | (rw [ptsI_t (k := k) ‹_›] at ih; rw [add0]; exact ih _) | (rw [ptsI_f (k := k) ‹_›] at ih; exact ih _)
  refine Ct.start 3 (by decide) rfl (Nat.le_of_ble_eq_true rfl) ?_
  refine v_iconst (v := nI 0) dX3_pointsOf_0 (by decide) rfl ?_
  refine v_istore_n dX3_pointsOf_1 (Nat.le_of_ble_eq_true rfl) rfl ?_
  refine v_iconst (v := nI 4) dX3_pointsOf_2 (by decide) rfl ?_
  refine v_iload_n dX3_pointsOf_3 rfl rfl ?_
  refine v_imulN dX3_pointsOf_4 rfl ?_
  refine v_top (y := nI (sh * 4 + 0)) (by rw [Nat.mul_comm]; rfl) ?_
  refine v_istore dX3_pointsOf_5 (Nat.le_of_ble_eq_true rfl) rfl ?_
  exact key 0 (by decide) _
end MODEL1

