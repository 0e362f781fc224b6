/-! LEAVES: what a number may be; Math -/
section LEAVES
variable (G : GG) (hp : List va_E)
theorem c_isBelow (x : Int32) (n : Nat) : Ct G mX2_isBelow 0 0 0 [.int x, .int (nI n)] hp (Qf (some (.int (bP (InR x n)))) hp) := by
  refine Ct.start 0 (by decide +kernel) rfl (Nat.le_of_ble_eq_true rfl) ?_
  refine v_iload_n dX2_isBelow_0 rfl rfl ?_
  refine v_if_ltA (tgt := 13) dX2_isBelow_1 (by decide) rfl (fun c1 => ?_) (fun c1 => ?_)
  · refine v_iconst (v := nI 0) dX2_isBelow_13 (by decide) rfl ?_
    exact v_zret dX2_isBelow_14 rfl (by rfl) ⟨Nat.le_of_ble_eq_true rfl, Nat.le_of_ble_eq_true rfl⟩ (⟨by first | (rw [bP_t (by grind)]; done) | (rw [bP_f (by grind)]; done), rfl⟩)
  · refine v_iload_n dX2_isBelow_4 rfl rfl ?_
    refine v_iload_n dX2_isBelow_5 rfl rfl ?_
    refine v_icmp_ge (tgt := 13) dX2_isBelow_6 (by decide) rfl (fun c6 => ?_) (fun c6 => ?_)
    · refine v_iconst (v := nI 0) dX2_isBelow_13 (by decide) rfl ?_
      exact v_zret dX2_isBelow_14 rfl (by rfl) ⟨Nat.le_of_ble_eq_true rfl, Nat.le_of_ble_eq_true rfl⟩ (⟨by first | (rw [bP_t (by grind)]; done) | (rw [bP_f (by grind)]; done), rfl⟩)
    · refine v_iconst (v := nI 1) dX2_isBelow_9 (by decide) rfl ?_
      refine v_goto (tgt := 14) dX2_isBelow_10 (by decide) ?_
      exact v_zret dX2_isBelow_14 rfl (by rfl) ⟨Nat.le_of_ble_eq_true rfl, Nat.le_of_ble_eq_true rfl⟩ (⟨by first | (rw [bP_t (by grind)]; done) | (rw [bP_f (by grind)]; done), rfl⟩)
theorem c_isUpTo (x : Int32) (n : Nat) (hn : n + 1 < 2 ^ 31) : Ct G mX2_isUpTo 0 0 0 [.int x, .int (nI n)] hp (Qf (some (.int (bP (InR x (n + 1))))) hp) := by
  refine Ct.start 0 (by decide +kernel) rfl (Nat.le_of_ble_eq_true rfl) ?_
  rw [show bP (InR x (n + 1)) = bP (0 ≤ x ∧ x ≤ nI n) from bP_c (by rw [i_le1 hn])]
  refine v_iload_n dX2_isUpTo_0 rfl rfl ?_
  refine v_if_ltA (tgt := 13) dX2_isUpTo_1 (by decide) rfl (fun c1 => ?_) (fun c1 => ?_)
  · refine v_iconst (v := nI 0) dX2_isUpTo_13 (by decide) rfl ?_
    exact v_zret dX2_isUpTo_14 rfl (by rfl) ⟨Nat.le_of_ble_eq_true rfl, Nat.le_of_ble_eq_true rfl⟩ (⟨by first | (rw [bP_t (by grind)]; done) | (rw [bP_f (by grind)]; done), rfl⟩)
  · refine v_iload_n dX2_isUpTo_4 rfl rfl ?_
    refine v_iload_n dX2_isUpTo_5 rfl rfl ?_
    refine v_icmp_gtA (tgt := 13) dX2_isUpTo_6 (by decide) rfl (fun c6 => ?_) (fun c6 => ?_)
    · refine v_iconst (v := nI 0) dX2_isUpTo_13 (by decide) rfl ?_
      exact v_zret dX2_isUpTo_14 rfl (by rfl) ⟨Nat.le_of_ble_eq_true rfl, Nat.le_of_ble_eq_true rfl⟩ (⟨by first | (rw [bP_t (by grind)]; done) | (rw [bP_f (by grind)]; done), rfl⟩)
    · refine v_iconst (v := nI 1) dX2_isUpTo_9 (by decide) rfl ?_
      refine v_goto (tgt := 14) dX2_isUpTo_10 (by decide) ?_
      exact v_zret dX2_isUpTo_14 rfl (by rfl) ⟨Nat.le_of_ble_eq_true rfl, Nat.le_of_ble_eq_true rfl⟩ (⟨by first | (rw [bP_t (by grind)]; done) | (rw [bP_f (by grind)]; done), rfl⟩)
theorem c_isMarkOrNone (x : Int32) : Ct G mX2_isMarkOrNone 1 0 0 [.int x] hp (Qf (some (.int (bP (x = -900 ∨ InR x 4)))) hp) := by
  refine Ct.start 0 (by decide +kernel) rfl (Nat.le_of_ble_eq_true rfl) ?_
  refine v_iload_n dX2_isMarkOrNone_0 rfl rfl ?_
  refine v_sipush (v := (-900)) dX2_isMarkOrNone_1 (by decide) rfl ?_
  refine v_icmp_eq (tgt := 15) dX2_isMarkOrNone_4 (by decide) rfl (fun c4 => ?_) (fun c4 => ?_)
  · refine v_iconst (v := nI 1) dX2_isMarkOrNone_15 (by decide) rfl ?_
    refine v_goto (tgt := 20) dX2_isMarkOrNone_16 (by decide) ?_
    exact v_zret dX2_isMarkOrNone_20 rfl (by rfl) ⟨Nat.le_of_ble_eq_true rfl, Nat.le_of_ble_eq_true rfl⟩ (⟨by first | (rw [bP_t (by grind)]; done) | (rw [bP_f (by grind)]; done), rfl⟩)
  · refine v_iload_n dX2_isMarkOrNone_7 rfl rfl ?_
    refine v_iconst (v := nI 4) dX2_isMarkOrNone_8 (by decide) rfl ?_
    by_cases q9 : InR x 4
    · refine v_csf dX2_isMarkOrNone_9 cw_X2_49 ts_X2_isBelow ((c_isBelow G hp x 4).yes ‹_›) (by rfl) (by rfl) (Nat.le_of_ble_eq_true rfl) (Nat.le_of_ble_eq_true rfl) (Nat.le_of_ble_eq_true rfl) (Nat.le_of_ble_eq_true rfl) (Nat.le_of_ble_eq_true rfl) rfl ?_
      refine v_if_eq (tgt := 19) dX2_isMarkOrNone_12 (by decide) rfl (fun q => absurd q (by decide)) (fun _ => ?_)
      refine v_iconst (v := nI 1) dX2_isMarkOrNone_15 (by decide) rfl ?_
      refine v_goto (tgt := 20) dX2_isMarkOrNone_16 (by decide) ?_
      exact v_zret dX2_isMarkOrNone_20 rfl (by rfl) ⟨Nat.le_of_ble_eq_true rfl, Nat.le_of_ble_eq_true rfl⟩ (⟨by first | (rw [bP_t (by grind)]; done) | (rw [bP_f (by grind)]; done), rfl⟩)
    · refine v_csf dX2_isMarkOrNone_9 cw_X2_49 ts_X2_isBelow ((c_isBelow G hp x 4).no ‹_›) (by rfl) (by rfl) (Nat.le_of_ble_eq_true rfl) (Nat.le_of_ble_eq_true rfl) (Nat.le_of_ble_eq_true rfl) (Nat.le_of_ble_eq_true rfl) (Nat.le_of_ble_eq_true rfl) rfl ?_
      refine v_if_eq (tgt := 19) dX2_isMarkOrNone_12 (by decide) rfl (fun _ => ?_) (fun q => absurd (by decide) q)
      refine v_iconst (v := nI 0) dX2_isMarkOrNone_19 (by decide) rfl ?_
      exact v_zret dX2_isMarkOrNone_20 rfl (by rfl) ⟨Nat.le_of_ble_eq_true rfl, Nat.le_of_ble_eq_true rfl⟩ (⟨by first | (rw [bP_t (by grind)]; done) | (rw [bP_f (by grind)]; done), rfl⟩)
theorem c_areTwoMarkers (x y : Int32) : Ct G mX2_areTwoMarkers 1 0 0 [.int x, .int y] hp (Qf (some (.int (bP (InR x 3 ∧ InR y 3 ∧ ¬ x = y)))) hp) := by
  refine Ct.start 0 (by decide +kernel) rfl (Nat.le_of_ble_eq_true rfl) ?_
  refine v_iload_n dX2_areTwoMarkers_0 rfl rfl ?_
  refine v_iconst (v := nI 3) dX2_areTwoMarkers_1 (by decide) rfl ?_
  by_cases q2 : InR x 3
  · refine v_csf dX2_areTwoMarkers_2 cw_X2_49 ts_X2_isBelow ((c_isBelow G hp x 3).yes ‹_›) (by rfl) (by rfl) (Nat.le_of_ble_eq_true rfl) (Nat.le_of_ble_eq_true rfl) (Nat.le_of_ble_eq_true rfl) (Nat.le_of_ble_eq_true rfl) (Nat.le_of_ble_eq_true rfl) rfl ?_
    refine v_if_eq (tgt := 25) dX2_areTwoMarkers_5 (by decide) rfl (fun q => absurd q (by decide)) (fun _ => ?_)
    refine v_iload_n dX2_areTwoMarkers_8 rfl rfl ?_
    refine v_iconst (v := nI 3) dX2_areTwoMarkers_9 (by decide) rfl ?_
    by_cases q10 : InR y 3
    · refine v_csf dX2_areTwoMarkers_10 cw_X2_49 ts_X2_isBelow ((c_isBelow G hp y 3).yes ‹_›) (by rfl) (by rfl) (Nat.le_of_ble_eq_true rfl) (Nat.le_of_ble_eq_true rfl) (Nat.le_of_ble_eq_true rfl) (Nat.le_of_ble_eq_true rfl) (Nat.le_of_ble_eq_true rfl) rfl ?_
      refine v_if_eq (tgt := 25) dX2_areTwoMarkers_13 (by decide) rfl (fun q => absurd q (by decide)) (fun _ => ?_)
      refine v_iload_n dX2_areTwoMarkers_16 rfl rfl ?_
      refine v_iload_n dX2_areTwoMarkers_17 rfl rfl ?_
      refine v_icmp_eq (tgt := 25) dX2_areTwoMarkers_18 (by decide) rfl (fun c18 => ?_) (fun c18 => ?_)
      · refine v_iconst (v := nI 0) dX2_areTwoMarkers_25 (by decide) rfl ?_
        exact v_zret dX2_areTwoMarkers_26 rfl (by rfl) ⟨Nat.le_of_ble_eq_true rfl, Nat.le_of_ble_eq_true rfl⟩ (⟨by first | (rw [bP_t (by grind)]; done) | (rw [bP_f (by grind)]; done), rfl⟩)
      · refine v_iconst (v := nI 1) dX2_areTwoMarkers_21 (by decide) rfl ?_
        refine v_goto (tgt := 26) dX2_areTwoMarkers_22 (by decide) ?_
        exact v_zret dX2_areTwoMarkers_26 rfl (by rfl) ⟨Nat.le_of_ble_eq_true rfl, Nat.le_of_ble_eq_true rfl⟩ (⟨by first | (rw [bP_t (by grind)]; done) | (rw [bP_f (by grind)]; done), rfl⟩)
    · refine v_csf dX2_areTwoMarkers_10 cw_X2_49 ts_X2_isBelow ((c_isBelow G hp y 3).no ‹_›) (by rfl) (by rfl) (Nat.le_of_ble_eq_true rfl) (Nat.le_of_ble_eq_true rfl) (Nat.le_of_ble_eq_true rfl) (Nat.le_of_ble_eq_true rfl) (Nat.le_of_ble_eq_true rfl) rfl ?_
      refine v_if_eq (tgt := 25) dX2_areTwoMarkers_13 (by decide) rfl (fun _ => ?_) (fun q => absurd (by decide) q)
      refine v_iconst (v := nI 0) dX2_areTwoMarkers_25 (by decide) rfl ?_
      exact v_zret dX2_areTwoMarkers_26 rfl (by rfl) ⟨Nat.le_of_ble_eq_true rfl, Nat.le_of_ble_eq_true rfl⟩ (⟨by first | (rw [bP_t (by grind)]; done) | (rw [bP_f (by grind)]; done), rfl⟩)
  · refine v_csf dX2_areTwoMarkers_2 cw_X2_49 ts_X2_isBelow ((c_isBelow G hp x 3).no ‹_›) (by rfl) (by rfl) (Nat.le_of_ble_eq_true rfl) (Nat.le_of_ble_eq_true rfl) (Nat.le_of_ble_eq_true rfl) (Nat.le_of_ble_eq_true rfl) (Nat.le_of_ble_eq_true rfl) rfl ?_
    refine v_if_eq (tgt := 25) dX2_areTwoMarkers_5 (by decide) rfl (fun _ => ?_) (fun q => absurd (by decide) q)
    refine v_iconst (v := nI 0) dX2_areTwoMarkers_25 (by decide) rfl ?_
    exact v_zret dX2_areTwoMarkers_26 rfl (by rfl) ⟨Nat.le_of_ble_eq_true rfl, Nat.le_of_ble_eq_true rfl⟩ (⟨by first | (rw [bP_t (by grind)]; done) | (rw [bP_f (by grind)]; done), rfl⟩)
theorem c_in (x a b : Int32) : Ct G mX3_in 0 0 0 [.int x, .int a, .int b] hp (Qf (some (.int (bP (a ≤ x ∧ x ≤ b)))) hp) := by
  refine Ct.start 0 (by decide +kernel) rfl (Nat.le_of_ble_eq_true rfl) ?_
  refine v_iload_n dX3_in_0 rfl rfl ?_
  refine v_iload_n dX3_in_1 rfl rfl ?_
  refine v_icmp_ltA (tgt := 14) dX3_in_2 (by decide) rfl (fun c2 => ?_) (fun c2 => ?_)
  · refine v_iconst (v := nI 0) dX3_in_14 (by decide) rfl ?_
    exact v_zret dX3_in_15 rfl (by rfl) ⟨Nat.le_of_ble_eq_true rfl, Nat.le_of_ble_eq_true rfl⟩ (⟨by first | (rw [bP_t (by grind)]; done) | (rw [bP_f (by grind)]; done), rfl⟩)
  · refine v_iload_n dX3_in_5 rfl rfl ?_
    refine v_iload_n dX3_in_6 rfl rfl ?_
    refine v_icmp_gtA (tgt := 14) dX3_in_7 (by decide) rfl (fun c7 => ?_) (fun c7 => ?_)
    · refine v_iconst (v := nI 0) dX3_in_14 (by decide) rfl ?_
      exact v_zret dX3_in_15 rfl (by rfl) ⟨Nat.le_of_ble_eq_true rfl, Nat.le_of_ble_eq_true rfl⟩ (⟨by first | (rw [bP_t (by grind)]; done) | (rw [bP_f (by grind)]; done), rfl⟩)
    · refine v_iconst (v := nI 1) dX3_in_10 (by decide) rfl ?_
      refine v_goto (tgt := 15) dX3_in_11 (by decide) ?_
      exact v_zret dX3_in_15 rfl (by rfl) ⟨Nat.le_of_ble_eq_true rfl, Nat.le_of_ble_eq_true rfl⟩ (⟨by first | (rw [bP_t (by grind)]; done) | (rw [bP_f (by grind)]; done), rfl⟩)
theorem c_in0 (x : Int32) (n : Nat) (hn : n + 1 < 2 ^ 31) : Ct G mX3_in 0 0 0 [.int x, .int (nI 0), .int (nI n)] hp (Qf (some (.int (bP (InR x (n + 1))))) hp) := by
  have h := c_in G hp x (nI 0) (nI n)
  rw [show bP (nI 0 ≤ x ∧ x ≤ nI n) = bP (InR x (n + 1)) from bP_c (by rw [i_le1 hn]; rfl)] at h
  exact h
theorem c_isLine (x y : Int32) : Ct G mX3_isLine 1 0 0 [.int x, .int y] hp (Qf (some (.int (bP (InR x 2 ∧ InR y 4)))) hp) := by
  refine Ct.start 0 (by decide +kernel) rfl (Nat.le_of_ble_eq_true rfl) ?_
  refine v_iload_n dX3_isLine_0 rfl rfl ?_
  refine v_iconst (v := nI 0) dX3_isLine_1 (by decide) rfl ?_
  refine v_iconst (v := nI 1) dX3_isLine_2 (by decide) rfl ?_
  by_cases q3 : InR x 2
  · refine v_csf dX3_isLine_3 cw_X3_40 ts_X3_in ((c_in0 G hp x 1 (by decide)).yes ‹_›) (by rfl) (by rfl) (Nat.le_of_ble_eq_true rfl) (Nat.le_of_ble_eq_true rfl) (Nat.le_of_ble_eq_true rfl) (Nat.le_of_ble_eq_true rfl) (Nat.le_of_ble_eq_true rfl) rfl ?_
    refine v_if_eq (tgt := 22) dX3_isLine_6 (by decide) rfl (fun q => absurd q (by decide)) (fun _ => ?_)
    refine v_iload_n dX3_isLine_9 rfl rfl ?_
    refine v_iconst (v := nI 0) dX3_isLine_10 (by decide) rfl ?_
    refine v_iconst (v := nI 3) dX3_isLine_11 (by decide) rfl ?_
    by_cases q12 : InR y 4
    · refine v_csf dX3_isLine_12 cw_X3_40 ts_X3_in ((c_in0 G hp y 3 (by decide)).yes ‹_›) (by rfl) (by rfl) (Nat.le_of_ble_eq_true rfl) (Nat.le_of_ble_eq_true rfl) (Nat.le_of_ble_eq_true rfl) (Nat.le_of_ble_eq_true rfl) (Nat.le_of_ble_eq_true rfl) rfl ?_
      refine v_if_eq (tgt := 22) dX3_isLine_15 (by decide) rfl (fun q => absurd q (by decide)) (fun _ => ?_)
      refine v_iconst (v := nI 1) dX3_isLine_18 (by decide) rfl ?_
      refine v_goto (tgt := 23) dX3_isLine_19 (by decide) ?_
      exact v_zret dX3_isLine_23 rfl (by rfl) ⟨Nat.le_of_ble_eq_true rfl, Nat.le_of_ble_eq_true rfl⟩ (⟨by first | (rw [bP_t (by grind)]; done) | (rw [bP_f (by grind)]; done), rfl⟩)
    · refine v_csf dX3_isLine_12 cw_X3_40 ts_X3_in ((c_in0 G hp y 3 (by decide)).no ‹_›) (by rfl) (by rfl) (Nat.le_of_ble_eq_true rfl) (Nat.le_of_ble_eq_true rfl) (Nat.le_of_ble_eq_true rfl) (Nat.le_of_ble_eq_true rfl) (Nat.le_of_ble_eq_true rfl) rfl ?_
      refine v_if_eq (tgt := 22) dX3_isLine_15 (by decide) rfl (fun _ => ?_) (fun q => absurd (by decide) q)
      refine v_iconst (v := nI 0) dX3_isLine_22 (by decide) rfl ?_
      exact v_zret dX3_isLine_23 rfl (by rfl) ⟨Nat.le_of_ble_eq_true rfl, Nat.le_of_ble_eq_true rfl⟩ (⟨by first | (rw [bP_t (by grind)]; done) | (rw [bP_f (by grind)]; done), rfl⟩)
  · refine v_csf dX3_isLine_3 cw_X3_40 ts_X3_in ((c_in0 G hp x 1 (by decide)).no ‹_›) (by rfl) (by rfl) (Nat.le_of_ble_eq_true rfl) (Nat.le_of_ble_eq_true rfl) (Nat.le_of_ble_eq_true rfl) (Nat.le_of_ble_eq_true rfl) (Nat.le_of_ble_eq_true rfl) rfl ?_
    refine v_if_eq (tgt := 22) dX3_isLine_6 (by decide) rfl (fun _ => ?_) (fun q => absurd (by decide) q)
    refine v_iconst (v := nI 0) dX3_isLine_22 (by decide) rfl ?_
    exact v_zret dX3_isLine_23 rfl (by rfl) ⟨Nat.le_of_ble_eq_true rfl, Nat.le_of_ble_eq_true rfl⟩ (⟨by first | (rw [bP_t (by grind)]; done) | (rw [bP_f (by grind)]; done), rfl⟩)
theorem c_isMarker (x : Int32) : Ct G mX3_isMarker 1 0 0 [.int x] hp (Qf (some (.int (bP (InR x 3)))) hp) := by
  refine Ct.start 0 (by decide +kernel) rfl (Nat.le_of_ble_eq_true rfl) ?_
  refine v_iload_n dX3_isMarker_0 rfl rfl ?_
  refine v_iconst (v := nI 0) dX3_isMarker_1 (by decide) rfl ?_
  refine v_iconst (v := nI 2) dX3_isMarker_2 (by decide) rfl ?_
  by_cases q3 : InR x 3
  · refine v_csf dX3_isMarker_3 cw_X3_40 ts_X3_in ((c_in0 G hp x 2 (by decide)).yes ‹_›) (by rfl) (by rfl) (Nat.le_of_ble_eq_true rfl) (Nat.le_of_ble_eq_true rfl) (Nat.le_of_ble_eq_true rfl) (Nat.le_of_ble_eq_true rfl) (Nat.le_of_ble_eq_true rfl) rfl ?_
    exact v_zret dX3_isMarker_6 rfl (by rfl) ⟨Nat.le_of_ble_eq_true rfl, Nat.le_of_ble_eq_true rfl⟩ (⟨by first | (rw [bP_t (by grind)]; done) | (rw [bP_f (by grind)]; done), rfl⟩)
  · refine v_csf dX3_isMarker_3 cw_X3_40 ts_X3_in ((c_in0 G hp x 2 (by decide)).no ‹_›) (by rfl) (by rfl) (Nat.le_of_ble_eq_true rfl) (Nat.le_of_ble_eq_true rfl) (Nat.le_of_ble_eq_true rfl) (Nat.le_of_ble_eq_true rfl) (Nat.le_of_ble_eq_true rfl) rfl ?_
    exact v_zret dX3_isMarker_6 rfl (by rfl) ⟨Nat.le_of_ble_eq_true rfl, Nat.le_of_ble_eq_true rfl⟩ (⟨by first | (rw [bP_t (by grind)]; done) | (rw [bP_f (by grind)]; done), rfl⟩)
theorem c_isMark (x : Int32) : Ct G mX3_isMark 1 0 0 [.int x] hp (Qf (some (.int (bP (x = -900 ∨ InR x 4)))) hp) := by
  refine Ct.start 0 (by decide +kernel) rfl (Nat.le_of_ble_eq_true rfl) ?_
  refine v_iload_n dX3_isMark_0 rfl rfl ?_
  refine v_sipush (v := (-900)) dX3_isMark_1 (by decide) rfl ?_
  refine v_icmp_eq (tgt := 16) dX3_isMark_4 (by decide) rfl (fun c4 => ?_) (fun c4 => ?_)
  · refine v_iconst (v := nI 1) dX3_isMark_16 (by decide) rfl ?_
    refine v_goto (tgt := 21) dX3_isMark_17 (by decide) ?_
    exact v_zret dX3_isMark_21 rfl (by rfl) ⟨Nat.le_of_ble_eq_true rfl, Nat.le_of_ble_eq_true rfl⟩ (⟨by first | (rw [bP_t (by grind)]; done) | (rw [bP_f (by grind)]; done), rfl⟩)
  · refine v_iload_n dX3_isMark_7 rfl rfl ?_
    refine v_iconst (v := nI 0) dX3_isMark_8 (by decide) rfl ?_
    refine v_iconst (v := nI 3) dX3_isMark_9 (by decide) rfl ?_
    by_cases q10 : InR x 4
    · refine v_csf dX3_isMark_10 cw_X3_40 ts_X3_in ((c_in0 G hp x 3 (by decide)).yes ‹_›) (by rfl) (by rfl) (Nat.le_of_ble_eq_true rfl) (Nat.le_of_ble_eq_true rfl) (Nat.le_of_ble_eq_true rfl) (Nat.le_of_ble_eq_true rfl) (Nat.le_of_ble_eq_true rfl) rfl ?_
      refine v_if_eq (tgt := 20) dX3_isMark_13 (by decide) rfl (fun q => absurd q (by decide)) (fun _ => ?_)
      refine v_iconst (v := nI 1) dX3_isMark_16 (by decide) rfl ?_
      refine v_goto (tgt := 21) dX3_isMark_17 (by decide) ?_
      exact v_zret dX3_isMark_21 rfl (by rfl) ⟨Nat.le_of_ble_eq_true rfl, Nat.le_of_ble_eq_true rfl⟩ (⟨by first | (rw [bP_t (by grind)]; done) | (rw [bP_f (by grind)]; done), rfl⟩)
    · refine v_csf dX3_isMark_10 cw_X3_40 ts_X3_in ((c_in0 G hp x 3 (by decide)).no ‹_›) (by rfl) (by rfl) (Nat.le_of_ble_eq_true rfl) (Nat.le_of_ble_eq_true rfl) (Nat.le_of_ble_eq_true rfl) (Nat.le_of_ble_eq_true rfl) (Nat.le_of_ble_eq_true rfl) rfl ?_
      refine v_if_eq (tgt := 20) dX3_isMark_13 (by decide) rfl (fun _ => ?_) (fun q => absurd (by decide) q)
      refine v_iconst (v := nI 0) dX3_isMark_20 (by decide) rfl ?_
      exact v_zret dX3_isMark_21 rfl (by rfl) ⟨Nat.le_of_ble_eq_true rfl, Nat.le_of_ble_eq_true rfl⟩ (⟨by first | (rw [bP_t (by grind)]; done) | (rw [bP_f (by grind)]; done), rfl⟩)
def absI (x : Int32) : Int32 := if 0 ≤ x then x else -x
def cmpI (a b : Int32) : Int32 := if b ≤ a then (if a = b then nI 0 else nI 1) else -1
def fdI (a b : Int32) : Int32 := if 0 ≤ a ^^^ b then a / b else if a / b * b = a then a / b else a / b - nI 1
theorem c_size (x : Int32) : Ct G mX3_size 0 0 0 [.int x] hp (Qf (some (.int (absI x))) hp) := by
  refine Ct.start 0 (by decide +kernel) rfl (Nat.le_of_ble_eq_true rfl) ?_
  refine v_iload_n dX3_size_0 rfl rfl ?_
  refine v_if_ge (tgt := 9) dX3_size_1 (by decide) rfl (fun c1 => ?_) (fun c1 => ?_)
  · refine v_iload_n dX3_size_9 rfl rfl ?_
    exact v_iret dX3_size_10 rfl ⟨Nat.le_of_ble_eq_true rfl, Nat.le_of_ble_eq_true rfl⟩ (⟨by grind [absI], rfl⟩)
  · refine v_iload_n dX3_size_4 rfl rfl ?_
    refine v_ineg dX3_size_5 rfl ?_
    refine v_goto (tgt := 10) dX3_size_6 (by decide) ?_
    exact v_iret dX3_size_10 rfl ⟨Nat.le_of_ble_eq_true rfl, Nat.le_of_ble_eq_true rfl⟩ (⟨by grind [absI], rfl⟩)
theorem c_abs (x : Int32) : Ct G mJ9_abs_0f7a4 0 0 0 [.int x] hp (Qf (some (.int (absI x))) hp) := by
  refine Ct.start 0 (by decide +kernel) rfl (Nat.le_of_ble_eq_true rfl) ?_
  refine v_iload_n dJ9_abs_0f7a4_0 rfl rfl ?_
  refine v_if_ge (tgt := 9) dJ9_abs_0f7a4_1 (by decide) rfl (fun c1 => ?_) (fun c1 => ?_)
  · refine v_iload_n dJ9_abs_0f7a4_9 rfl rfl ?_
    exact v_iret dJ9_abs_0f7a4_10 rfl ⟨Nat.le_of_ble_eq_true rfl, Nat.le_of_ble_eq_true rfl⟩ (⟨by grind [absI], rfl⟩)
  · refine v_iload_n dJ9_abs_0f7a4_4 rfl rfl ?_
    refine v_ineg dJ9_abs_0f7a4_5 rfl ?_
    refine v_goto (tgt := 10) dJ9_abs_0f7a4_6 (by decide) ?_
    exact v_iret dJ9_abs_0f7a4_10 rfl ⟨Nat.le_of_ble_eq_true rfl, Nat.le_of_ble_eq_true rfl⟩ (⟨by grind [absI], rfl⟩)
theorem c_compare (x y : Int32) : Ct G mJ6_compare_7cf53 0 0 0 [.int x, .int y] hp (Qf (some (.int (cmpI x y))) hp) := by
  refine Ct.start 0 (by decide +kernel) rfl (Nat.le_of_ble_eq_true rfl) ?_
  refine v_iload_n dJ6_compare_7cf53_0 rfl rfl ?_
  refine v_iload_n dJ6_compare_7cf53_1 rfl rfl ?_
  refine v_icmp_ge (tgt := 9) dJ6_compare_7cf53_2 (by decide) rfl (fun c2 => ?_) (fun c2 => ?_)
  · refine v_iload_n dJ6_compare_7cf53_9 rfl rfl ?_
    refine v_iload_n dJ6_compare_7cf53_10 rfl rfl ?_
    refine v_icmp_ne (tgt := 18) dJ6_compare_7cf53_11 (by decide) rfl (fun c11 => ?_) (fun c11 => ?_)
    · refine v_iconst (v := nI 1) dJ6_compare_7cf53_18 (by decide) rfl ?_
      exact v_iret dJ6_compare_7cf53_19 rfl ⟨Nat.le_of_ble_eq_true rfl, Nat.le_of_ble_eq_true rfl⟩ (⟨by grind [cmpI], rfl⟩)
    · refine v_iconst (v := nI 0) dJ6_compare_7cf53_14 (by decide) rfl ?_
      refine v_goto (tgt := 19) dJ6_compare_7cf53_15 (by decide) ?_
      exact v_iret dJ6_compare_7cf53_19 rfl ⟨Nat.le_of_ble_eq_true rfl, Nat.le_of_ble_eq_true rfl⟩ (⟨by grind [cmpI], rfl⟩)
  · refine v_iconst (v := (-1)) dJ6_compare_7cf53_5 (by decide) rfl ?_
    refine v_goto (tgt := 19) dJ6_compare_7cf53_6 (by decide) ?_
    exact v_iret dJ6_compare_7cf53_19 rfl ⟨Nat.le_of_ble_eq_true rfl, Nat.le_of_ble_eq_true rfl⟩ (⟨by grind [cmpI], rfl⟩)
theorem c_max (x y : Int32) : Ct G mJ9_max_7cf53 0 0 0 [.int x, .int y] hp (Qf (some (.int (if y ≤ x then x else y))) hp) := by
  refine Ct.start 0 (by decide +kernel) rfl (Nat.le_of_ble_eq_true rfl) ?_
  refine v_iload_n dJ9_max_7cf53_0 rfl rfl ?_
  refine v_iload_n dJ9_max_7cf53_1 rfl rfl ?_
  refine v_icmp_ltA (tgt := 9) dJ9_max_7cf53_2 (by decide) rfl (fun c2 => ?_) (fun c2 => ?_)
  · refine v_iload_n dJ9_max_7cf53_9 rfl rfl ?_
    exact v_iret dJ9_max_7cf53_10 rfl ⟨Nat.le_of_ble_eq_true rfl, Nat.le_of_ble_eq_true rfl⟩ (⟨by grind, rfl⟩)
  · refine v_iload_n dJ9_max_7cf53_5 rfl rfl ?_
    refine v_goto (tgt := 10) dJ9_max_7cf53_6 (by decide) ?_
    exact v_iret dJ9_max_7cf53_10 rfl ⟨Nat.le_of_ble_eq_true rfl, Nat.le_of_ble_eq_true rfl⟩ (⟨by grind, rfl⟩)
theorem c_min (x y : Int32) : Ct G mJ9_min_7cf53 0 0 0 [.int x, .int y] hp (Qf (some (.int (if x ≤ y then x else y))) hp) := by
  refine Ct.start 0 (by decide +kernel) rfl (Nat.le_of_ble_eq_true rfl) ?_
  refine v_iload_n dJ9_min_7cf53_0 rfl rfl ?_
  refine v_iload_n dJ9_min_7cf53_1 rfl rfl ?_
  refine v_icmp_gtA (tgt := 9) dJ9_min_7cf53_2 (by decide) rfl (fun c2 => ?_) (fun c2 => ?_)
  · refine v_iload_n dJ9_min_7cf53_9 rfl rfl ?_
    exact v_iret dJ9_min_7cf53_10 rfl ⟨Nat.le_of_ble_eq_true rfl, Nat.le_of_ble_eq_true rfl⟩ (⟨by grind, rfl⟩)
  · refine v_iload_n dJ9_min_7cf53_5 rfl rfl ?_
    refine v_goto (tgt := 10) dJ9_min_7cf53_6 (by decide) ?_
    exact v_iret dJ9_min_7cf53_10 rfl ⟨Nat.le_of_ble_eq_true rfl, Nat.le_of_ble_eq_true rfl⟩ (⟨by grind, rfl⟩)
theorem c_floorDiv (x y : Int32) (hy : ¬ y = 0) : Ct G mJ9_floorDiv_7cf53 0 0 0 [.int x, .int y] hp (Qf (some (.int (fdI x y))) hp) := by
  refine Ct.start 1 (by decide +kernel) rfl (Nat.le_of_ble_eq_true rfl) ?_
  refine v_iload_n dJ9_floorDiv_7cf53_0 rfl rfl ?_
  refine v_iload_n dJ9_floorDiv_7cf53_1 rfl rfl ?_
  refine v_idiv dJ9_floorDiv_7cf53_2 (by assumption) rfl ?_
  refine v_istore_n dJ9_floorDiv_7cf53_3 (Nat.le_of_ble_eq_true rfl) rfl ?_
  refine v_iload_n dJ9_floorDiv_7cf53_4 rfl rfl ?_
  refine v_iload_n dJ9_floorDiv_7cf53_5 rfl rfl ?_
  refine v_ixor dJ9_floorDiv_7cf53_6 rfl ?_
  refine v_if_ge (tgt := 21) dJ9_floorDiv_7cf53_7 (by decide) rfl (fun c7 => ?_) (fun c7 => ?_)
  · refine v_iload_n dJ9_floorDiv_7cf53_21 rfl rfl ?_
    exact v_iret dJ9_floorDiv_7cf53_22 rfl ⟨Nat.le_of_ble_eq_true rfl, Nat.le_of_ble_eq_true rfl⟩ (⟨by grind [fdI], rfl⟩)
  · refine v_iload_n dJ9_floorDiv_7cf53_10 rfl rfl ?_
    refine v_iload_n dJ9_floorDiv_7cf53_11 rfl rfl ?_
    refine v_imul dJ9_floorDiv_7cf53_12 rfl ?_
    refine v_iload_n dJ9_floorDiv_7cf53_13 rfl rfl ?_
    refine v_icmp_eq (tgt := 21) dJ9_floorDiv_7cf53_14 (by decide) rfl (fun c14 => ?_) (fun c14 => ?_)
    · refine v_iload_n dJ9_floorDiv_7cf53_21 rfl rfl ?_
      exact v_iret dJ9_floorDiv_7cf53_22 rfl ⟨Nat.le_of_ble_eq_true rfl, Nat.le_of_ble_eq_true rfl⟩ (⟨by grind [fdI], rfl⟩)
    · refine v_iload_n dJ9_floorDiv_7cf53_17 rfl rfl ?_
      refine v_iconst (v := nI 1) dJ9_floorDiv_7cf53_18 (by decide) rfl ?_
      refine v_isub dJ9_floorDiv_7cf53_19 rfl ?_
      exact v_iret dJ9_floorDiv_7cf53_20 rfl ⟨Nat.le_of_ble_eq_true rfl, Nat.le_of_ble_eq_true rfl⟩ (⟨by grind [fdI], rfl⟩)
end LEAVES

