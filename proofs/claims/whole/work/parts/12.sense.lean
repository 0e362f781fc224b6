/-! A LINE: GAPS, OVERLAPS, SENSIBLE; a WORK's yes and no -/
noncomputable def orTo (p : Nat → Prop) : Nat → Int32
  | 0 => nI 0
  | n + 1 => @ite _ (p n) (Classical.propDecidable (p n)) (orTo p n ||| (nI 1 <<< (nI n &&& 31))) (orTo p n)
theorem orTo_t {p : Nat → Prop} {n : Nat} (h : p n) : orTo p (n + 1) = orTo p n ||| (nI 1 <<< (nI n &&& 31)) := if_pos h
theorem orTo_f {p : Nat → Prop} {n : Nat} (h : ¬ p n) : orTo p (n + 1) = orTo p n := if_neg h
def gapP (f t : Nat → Int32) (v : Nat) : Prop := spC f t (nI v) 4 = 0
def ovrP (f t : Nat → Int32) (v : Nat) : Prop := 2 ≤ spC f t (nI v) 4
def lvI (kd : Int32) (f t : Nat → Int32) (v : Nat) : Int32 := oI (levelO kd f t (nI v))
def nfP (kd : Int32) (f t : Nat → Int32) (n : Nat) : Prop := ∀ j, j + 1 < n → lvI kd f t j ≤ lvI kd f t (j + 1)
def senP (kd : Int32) (f t : Nat → Int32) : Prop := orTo (gapP f t) 10 = 0 ∧ orTo (ovrP f t) 10 = 0 ∧ nfP kd f t 10
section SENSE
variable (G : GG) (hp : List va_E) {a : Nat} {kd fc wt : Int32} {f t : Nat → Int32}
theorem c_gaps (hL : LN G hp a kd fc wt f t) : Ct G mX0_gaps 2 0 0 [.ref (G.2.2.2 + a)] hp (Qf (some (.int (orTo (gapP f t) 10))) hp) := by
  have h1 := hL.1
  have key : ∀ k, k ≤ 10 → Vm G mX0_gaps 2 0 0 (Qf (some (.int (orTo (gapP f t) 10))) hp) 4 [some (.ref (G.2.2.2 + a)), some (.int (orTo (gapP f t) k)), some (.int (nI k))] [] hp 0 0 := by
    refine loop_up ?_ (fun k hk ih => ?_)
    · refine v_iload_n dX0_gaps_4 rfl rfl ?_
      refine v_bipush (v := nI 9) dX0_gaps_5 (by decide) rfl ?_
      refine v_icmp_gt (tgt := 30) dX0_gaps_7 (by decide) rfl (fun _ => ?_) (fun q => absurd (by decide) q)
      refine v_iload_n dX0_gaps_30 rfl rfl ?_
      exact v_iret dX0_gaps_31 rfl ⟨Nat.le_of_ble_eq_true rfl, Nat.le_of_ble_eq_true rfl⟩ (⟨rfl, rfl⟩)
    · have hc : spC f t (nI k) 4 ≤ 4 := cnt_le _ 4
      refine v_iload_n dX0_gaps_4 rfl rfl ?_
      refine v_bipush (v := nI 9) dX0_gaps_5 (by decide) rfl ?_
      refine v_icmp_gtN (tgt := 30) dX0_gaps_7 (by decide) rfl (by omega) (by omega) (fun c7 => ?_) (fun c7 => ?_)
      · exact absurd c7 (by omega)
      · refine v_aload_n dX0_gaps_10 rfl rfl ?_
        refine v_iload_n dX0_gaps_11 rfl rfl ?_
        refine v_cvf dX0_gaps_12 cw_X0_48 ⟨tn_X0_countSpansWith, tl_X0_countSpansWith⟩ rfl (by assumption) (c_countSpansWith G hp hL (nI k)) (by rfl) (by rfl) (Nat.le_of_ble_eq_true rfl) (Nat.le_of_ble_eq_true rfl) (Nat.le_of_ble_eq_true rfl) (Nat.le_of_ble_eq_true rfl) (Nat.le_of_ble_eq_true rfl) rfl ?_
        refine v_if_neN (tgt := 24) dX0_gaps_15 (by decide) rfl (by omega) (fun c15 => ?_) (fun c15 => ?_)
        · refine v_iinc1 dX0_gaps_24 rfl (Nat.le_of_ble_eq_true rfl) rfl ?_
          refine v_goto (tgt := 4) dX0_gaps_27 (by decide) ?_
          first | (rw [orTo_t (p := gapP f t) (n := k) ‹_›] at ih; exact ih) | (rw [orTo_f (p := gapP f t) (n := k) ‹_›] at ih; exact ih)
        · refine v_iload_n dX0_gaps_18 rfl rfl ?_
          refine v_iconst (v := nI 1) dX0_gaps_19 (by decide) rfl ?_
          refine v_iload_n dX0_gaps_20 rfl rfl ?_
          refine v_ishl dX0_gaps_21 rfl ?_
          refine v_ior dX0_gaps_22 rfl ?_
          refine v_istore_n dX0_gaps_23 (Nat.le_of_ble_eq_true rfl) rfl ?_
          refine v_iinc1 dX0_gaps_24 rfl (Nat.le_of_ble_eq_true rfl) rfl ?_
          refine v_goto (tgt := 4) dX0_gaps_27 (by decide) ?_
          first | (rw [orTo_t (p := gapP f t) (n := k) ‹_›] at ih; exact ih) | (rw [orTo_f (p := gapP f t) (n := k) ‹_›] at ih; exact ih)
  refine Ct.start 2 (by decide) rfl (Nat.le_of_ble_eq_true rfl) ?_
  refine v_iconst (v := nI 0) dX0_gaps_0 (by decide) rfl ?_
  refine v_istore_n dX0_gaps_1 (Nat.le_of_ble_eq_true rfl) rfl ?_
  refine v_iconst (v := nI 0) dX0_gaps_2 (by decide) rfl ?_
  refine v_istore_n dX0_gaps_3 (Nat.le_of_ble_eq_true rfl) rfl ?_
  exact key 0 (by decide)
theorem c_overlaps (hL : LN G hp a kd fc wt f t) : Ct G mX0_overlaps 2 0 0 [.ref (G.2.2.2 + a)] hp (Qf (some (.int (orTo (ovrP f t) 10))) hp) := by
  have h1 := hL.1
  have key : ∀ k, k ≤ 10 → Vm G mX0_overlaps 2 0 0 (Qf (some (.int (orTo (ovrP f t) 10))) hp) 4 [some (.ref (G.2.2.2 + a)), some (.int (orTo (ovrP f t) k)), some (.int (nI k))] [] hp 0 0 := by
    refine loop_up ?_ (fun k hk ih => ?_)
    · refine v_iload_n dX0_overlaps_4 rfl rfl ?_
      refine v_bipush (v := nI 9) dX0_overlaps_5 (by decide) rfl ?_
      refine v_icmp_gt (tgt := 31) dX0_overlaps_7 (by decide) rfl (fun _ => ?_) (fun q => absurd (by decide) q)
      refine v_iload_n dX0_overlaps_31 rfl rfl ?_
      exact v_iret dX0_overlaps_32 rfl ⟨Nat.le_of_ble_eq_true rfl, Nat.le_of_ble_eq_true rfl⟩ (⟨rfl, rfl⟩)
    · have hc : spC f t (nI k) 4 ≤ 4 := cnt_le _ 4
      refine v_iload_n dX0_overlaps_4 rfl rfl ?_
      refine v_bipush (v := nI 9) dX0_overlaps_5 (by decide) rfl ?_
      refine v_icmp_gtN (tgt := 31) dX0_overlaps_7 (by decide) rfl (by omega) (by omega) (fun c7 => ?_) (fun c7 => ?_)
      · exact absurd c7 (by omega)
      · refine v_aload_n dX0_overlaps_10 rfl rfl ?_
        refine v_iload_n dX0_overlaps_11 rfl rfl ?_
        refine v_cvf dX0_overlaps_12 cw_X0_48 ⟨tn_X0_countSpansWith, tl_X0_countSpansWith⟩ rfl (by assumption) (c_countSpansWith G hp hL (nI k)) (by rfl) (by rfl) (Nat.le_of_ble_eq_true rfl) (Nat.le_of_ble_eq_true rfl) (Nat.le_of_ble_eq_true rfl) (Nat.le_of_ble_eq_true rfl) (Nat.le_of_ble_eq_true rfl) rfl ?_
        refine v_iconst (v := nI 2) dX0_overlaps_15 (by decide) rfl ?_
        refine v_icmp_ltN (tgt := 25) dX0_overlaps_16 (by decide) rfl (by omega) (by omega) (fun c16 => ?_) (fun c16 => ?_)
        · refine v_iinc1 dX0_overlaps_25 rfl (Nat.le_of_ble_eq_true rfl) rfl ?_
          refine v_goto (tgt := 4) dX0_overlaps_28 (by decide) ?_
          first | (rw [orTo_t (p := ovrP f t) (n := k) ‹_›] at ih; exact ih) | (rw [orTo_f (p := ovrP f t) (n := k) (Nat.not_le.mpr ‹_›)] at ih; exact ih)
        · refine v_iload_n dX0_overlaps_19 rfl rfl ?_
          refine v_iconst (v := nI 1) dX0_overlaps_20 (by decide) rfl ?_
          refine v_iload_n dX0_overlaps_21 rfl rfl ?_
          refine v_ishl dX0_overlaps_22 rfl ?_
          refine v_ior dX0_overlaps_23 rfl ?_
          refine v_istore_n dX0_overlaps_24 (Nat.le_of_ble_eq_true rfl) rfl ?_
          refine v_iinc1 dX0_overlaps_25 rfl (Nat.le_of_ble_eq_true rfl) rfl ?_
          refine v_goto (tgt := 4) dX0_overlaps_28 (by decide) ?_
          first | (rw [orTo_t (p := ovrP f t) (n := k) ‹_›] at ih; exact ih) | (rw [orTo_f (p := ovrP f t) (n := k) (Nat.not_le.mpr ‹_›)] at ih; exact ih)
  refine Ct.start 2 (by decide) rfl (Nat.le_of_ble_eq_true rfl) ?_
  refine v_iconst (v := nI 0) dX0_overlaps_0 (by decide) rfl ?_
  refine v_istore_n dX0_overlaps_1 (Nat.le_of_ble_eq_true rfl) rfl ?_
  refine v_iconst (v := nI 0) dX0_overlaps_2 (by decide) rfl ?_
  refine v_istore_n dX0_overlaps_3 (Nat.le_of_ble_eq_true rfl) rfl ?_
  exact key 0 (by decide)
theorem c_neverFalls (hL : LN G hp a kd fc wt f t) : Ct G mX0_neverFalls 5 0 0 [.ref (G.2.2.2 + a)] hp (Qf (some (.int (bP (nfP kd f t 10)))) hp) := by
  have h1 := hL.1
  have key : ∀ k, k ≤ 9 → nfP kd f t (k + 1) → Vm G mX0_neverFalls 5 0 0 (Qf (some (.int (bP (nfP kd f t 10)))) hp) 2 [some (.ref (G.2.2.2 + a)), some (.int (nI (k + 1)))] [] hp 0 0 := by
    refine loop_up ?_ (fun k hk ih => ?_)
    · intro hn
      refine v_iload_n dX0_neverFalls_2 rfl rfl ?_
      refine v_bipush (v := nI 9) dX0_neverFalls_3 (by decide) rfl ?_
      refine v_icmp_gt (tgt := 31) dX0_neverFalls_5 (by decide) rfl (fun _ => ?_) (fun q => absurd (by decide) q)
      refine v_iconst (v := nI 1) dX0_neverFalls_31 (by decide) rfl ?_
      exact v_zret dX0_neverFalls_32 rfl (by rfl) ⟨Nat.le_of_ble_eq_true rfl, Nat.le_of_ble_eq_true rfl⟩ (⟨by rw [bP_t hn], rfl⟩)
    · intro hn
      refine v_iload_n dX0_neverFalls_2 rfl rfl ?_
      refine v_bipush (v := nI 9) dX0_neverFalls_3 (by decide) rfl ?_
      refine v_icmp_gtN (tgt := 31) dX0_neverFalls_5 (by decide) rfl (by omega) (by omega) (fun c5 => ?_) (fun c5 => ?_)
      · exact absurd c5 (by omega)
      · refine v_aload_n dX0_neverFalls_8 rfl rfl ?_
        refine v_iload_n dX0_neverFalls_9 rfl rfl ?_
        refine v_cvf dX0_neverFalls_10 cw_X0_62 ⟨tn_X0_levelFor, tl_X0_levelFor⟩ rfl (by assumption) (c_levelFor G hp hL (nI (k + 1))) (by rfl) (by rfl) (Nat.le_of_ble_eq_true rfl) (Nat.le_of_ble_eq_true rfl) (Nat.le_of_ble_eq_true rfl) (Nat.le_of_ble_eq_true rfl) (Nat.le_of_ble_eq_true rfl) rfl ?_
        refine v_aload_n dX0_neverFalls_13 rfl rfl ?_
        refine v_iload_n dX0_neverFalls_14 rfl rfl ?_
        refine v_iconst (v := nI 1) dX0_neverFalls_15 (by decide) rfl ?_
        refine v_isubN dX0_neverFalls_16 (by omega) rfl ?_
        refine v_cvf dX0_neverFalls_17 cw_X0_62 ⟨tn_X0_levelFor, tl_X0_levelFor⟩ rfl (by assumption) (c_levelFor G hp hL (nI (k + 1 - 1))) (by rfl) (by rfl) (Nat.le_of_ble_eq_true rfl) (Nat.le_of_ble_eq_true rfl) (Nat.le_of_ble_eq_true rfl) (Nat.le_of_ble_eq_true rfl) (Nat.le_of_ble_eq_true rfl) rfl ?_
        refine v_icmp_ge (tgt := 25) dX0_neverFalls_20 (by decide) rfl (fun c20 => ?_) (fun c20 => ?_)
        · refine v_iinc1 dX0_neverFalls_25 rfl (Nat.le_of_ble_eq_true rfl) rfl ?_
          refine v_goto (tgt := 2) dX0_neverFalls_28 (by decide) ?_
          exact ih (fun j hj => by
                    rcases Nat.lt_or_ge (j + 1) (k + 1) with q | q
                    · exact hn j q
                    · rw [show j = k by omega]; exact c20)
        · refine v_iconst (v := nI 0) dX0_neverFalls_23 (by decide) rfl ?_
          exact v_zret dX0_neverFalls_24 rfl (by rfl) ⟨Nat.le_of_ble_eq_true rfl, Nat.le_of_ble_eq_true rfl⟩ (⟨by rw [bP_f (fun h => c20 (h k (by omega)))], rfl⟩)
  refine Ct.start 1 (by decide) rfl (Nat.le_of_ble_eq_true rfl) ?_
  refine v_iconst (v := nI 1) dX0_neverFalls_0 (by decide) rfl ?_
  refine v_istore_n dX0_neverFalls_1 (Nat.le_of_ble_eq_true rfl) rfl ?_
  exact key 0 (by decide) (fun j hj => absurd hj (by omega))
theorem c_lineSensible (hL : LN G hp a kd fc wt f t) : Ct G mX0_isSensible 6 0 0 [.ref (G.2.2.2 + a)] hp (Qf (some (.int (bP (senP kd f t)))) hp) := by
  have h1 := hL.1
  refine Ct.start 0 (by decide) rfl (Nat.le_of_ble_eq_true rfl) ?_
  refine v_aload_n dX0_isSensible_0 rfl rfl ?_
  refine v_cvf dX0_isSensible_1 cw_X0_51 ⟨tn_X0_gaps, tl_X0_gaps⟩ rfl (by assumption) (c_gaps G hp hL) (by rfl) (by rfl) (Nat.le_of_ble_eq_true rfl) (Nat.le_of_ble_eq_true rfl) (Nat.le_of_ble_eq_true rfl) (Nat.le_of_ble_eq_true rfl) (Nat.le_of_ble_eq_true rfl) rfl ?_
  refine v_if_ne (tgt := 25) dX0_isSensible_4 (by decide) rfl (fun c4 => ?_) (fun c4 => ?_)
  · refine v_iconst (v := nI 0) dX0_isSensible_25 (by decide) rfl ?_
    exact v_zret dX0_isSensible_26 rfl (by rfl) ⟨Nat.le_of_ble_eq_true rfl, Nat.le_of_ble_eq_true rfl⟩ (⟨by first | (rw [bP_t (show senP kd f t from ⟨‹_›, ‹_›, ‹_›⟩)]; done) | (rw [bP_f (show ¬ senP kd f t from fun h => absurd h.1 ‹_›)]; done) | (rw [bP_f (show ¬ senP kd f t from fun h => absurd h.2.1 ‹_›)]; done) | (rw [bP_f (show ¬ senP kd f t from fun h => absurd h.2.2 ‹_›)]; done), rfl⟩)
  · refine v_aload_n dX0_isSensible_7 rfl rfl ?_
    refine v_cvf dX0_isSensible_8 cw_X0_55 ⟨tn_X0_overlaps, tl_X0_overlaps⟩ rfl (by assumption) (c_overlaps G hp hL) (by rfl) (by rfl) (Nat.le_of_ble_eq_true rfl) (Nat.le_of_ble_eq_true rfl) (Nat.le_of_ble_eq_true rfl) (Nat.le_of_ble_eq_true rfl) (Nat.le_of_ble_eq_true rfl) rfl ?_
    refine v_if_ne (tgt := 25) dX0_isSensible_11 (by decide) rfl (fun c11 => ?_) (fun c11 => ?_)
    · refine v_iconst (v := nI 0) dX0_isSensible_25 (by decide) rfl ?_
      exact v_zret dX0_isSensible_26 rfl (by rfl) ⟨Nat.le_of_ble_eq_true rfl, Nat.le_of_ble_eq_true rfl⟩ (⟨by first | (rw [bP_t (show senP kd f t from ⟨‹_›, ‹_›, ‹_›⟩)]; done) | (rw [bP_f (show ¬ senP kd f t from fun h => absurd h.1 ‹_›)]; done) | (rw [bP_f (show ¬ senP kd f t from fun h => absurd h.2.1 ‹_›)]; done) | (rw [bP_f (show ¬ senP kd f t from fun h => absurd h.2.2 ‹_›)]; done), rfl⟩)
    · refine v_aload_n dX0_isSensible_14 rfl rfl ?_
      by_cases q15 : nfP kd f t 10
      · refine v_cvf dX0_isSensible_15 cw_X0_58 ⟨tn_X0_neverFalls, tl_X0_neverFalls⟩ rfl (by assumption) ((c_neverFalls G hp hL).yes ‹_›) (by rfl) (by rfl) (Nat.le_of_ble_eq_true rfl) (Nat.le_of_ble_eq_true rfl) (Nat.le_of_ble_eq_true rfl) (Nat.le_of_ble_eq_true rfl) (Nat.le_of_ble_eq_true rfl) rfl ?_
        refine v_if_eq (tgt := 25) dX0_isSensible_18 (by decide) rfl (fun q => absurd q (by decide)) (fun _ => ?_)
        refine v_iconst (v := nI 1) dX0_isSensible_21 (by decide) rfl ?_
        refine v_goto (tgt := 26) dX0_isSensible_22 (by decide) ?_
        exact v_zret dX0_isSensible_26 rfl (by rfl) ⟨Nat.le_of_ble_eq_true rfl, Nat.le_of_ble_eq_true rfl⟩ (⟨by first | (rw [bP_t (show senP kd f t from ⟨‹_›, ‹_›, ‹_›⟩)]; done) | (rw [bP_f (show ¬ senP kd f t from fun h => absurd h.1 ‹_›)]; done) | (rw [bP_f (show ¬ senP kd f t from fun h => absurd h.2.1 ‹_›)]; done) | (rw [bP_f (show ¬ senP kd f t from fun h => absurd h.2.2 ‹_›)]; done), rfl⟩)
      · refine v_cvf dX0_isSensible_15 cw_X0_58 ⟨tn_X0_neverFalls, tl_X0_neverFalls⟩ rfl (by assumption) ((c_neverFalls G hp hL).no ‹_›) (by rfl) (by rfl) (Nat.le_of_ble_eq_true rfl) (Nat.le_of_ble_eq_true rfl) (Nat.le_of_ble_eq_true rfl) (Nat.le_of_ble_eq_true rfl) (Nat.le_of_ble_eq_true rfl) rfl ?_
        refine v_if_eq (tgt := 25) dX0_isSensible_18 (by decide) rfl (fun _ => ?_) (fun q => absurd (by decide) q)
        refine v_iconst (v := nI 0) dX0_isSensible_25 (by decide) rfl ?_
        exact v_zret dX0_isSensible_26 rfl (by rfl) ⟨Nat.le_of_ble_eq_true rfl, Nat.le_of_ble_eq_true rfl⟩ (⟨by first | (rw [bP_t (show senP kd f t from ⟨‹_›, ‹_›, ‹_›⟩)]; done) | (rw [bP_f (show ¬ senP kd f t from fun h => absurd h.1 ‹_›)]; done) | (rw [bP_f (show ¬ senP kd f t from fun h => absurd h.2.1 ‹_›)]; done) | (rw [bP_f (show ¬ senP kd f t from fun h => absurd h.2.2 ‹_›)]; done), rfl⟩)
end SENSE
def WK (G : GG) (hp : List va_E) (a : Nat) (f m : Nat → Int32) (tr : Int32) : Prop := hp[a]? = some (ob 1 [.ref (G.2.2.2 + (a + 1)), .ref (G.2.2.2 + (a + 2)), .int tr]) ∧ hp[a + 1]? = some (aI G 4 f) ∧ hp[a + 2]? = some (aI G 3 m)
section WORK
variable (G : GG) (hp : List va_E) {a : Nat} {f m : Nat → Int32} {tr : Int32}
theorem c_isAnchor (hW : WK G hp a f m tr) : Ct G mX1_isAnchor 0 0 0 [.ref (G.2.2.2 + a)] hp (Qf (some (.int (bP (¬ tr = -900)))) hp) := by
  have h1 := hW.1
  refine Ct.start 0 (by decide) rfl (Nat.le_of_ble_eq_true rfl) ?_
  refine v_aload_n dX1_isAnchor_0 rfl rfl ?_
  refine v_getf dX1_isAnchor_1 fl_X1_18 (by assumption) (by rfl) rfl ?_
  refine v_sipush (v := (-900)) dX1_isAnchor_4 (by decide) rfl ?_
  refine v_icmp_eq (tgt := 14) dX1_isAnchor_7 (by decide) rfl (fun c7 => ?_) (fun c7 => ?_)
  · refine v_iconst (v := nI 0) dX1_isAnchor_14 (by decide) rfl ?_
    exact v_zret dX1_isAnchor_15 rfl (by rfl) ⟨Nat.le_of_ble_eq_true rfl, Nat.le_of_ble_eq_true rfl⟩ (⟨by first | (rw [bP_t ‹_›]; done) | (rw [bP_f (fun h => h ‹_›)]; done), rfl⟩)
  · refine v_iconst (v := nI 1) dX1_isAnchor_10 (by decide) rfl ?_
    refine v_goto (tgt := 15) dX1_isAnchor_11 (by decide) ?_
    exact v_zret dX1_isAnchor_15 rfl (by rfl) ⟨Nat.le_of_ble_eq_true rfl, Nat.le_of_ble_eq_true rfl⟩ (⟨by first | (rw [bP_t ‹_›]; done) | (rw [bP_f (fun h => h ‹_›)]; done), rfl⟩)
theorem c_isMarkedBy (hW : WK G hp a f m tr) {k : Nat} (hk : k < 3) : Ct G mX1_isMarkedBy 0 0 0 [.ref (G.2.2.2 + a), .int (nI k)] hp (Qf (some (.int (bP (¬ m k = -900)))) hp) := by
  obtain ⟨h1, h2, h3⟩ := hW
  refine Ct.start 0 (by decide) rfl (Nat.le_of_ble_eq_true rfl) ?_
  refine v_aload_n dX1_isMarkedBy_0 rfl rfl ?_
  refine v_getf dX1_isMarkedBy_1 fl_X1_15 (by assumption) (by rfl) rfl ?_
  refine v_iload_n dX1_isMarkedBy_4 rfl rfl ?_
  refine v_iald _ dX1_isMarkedBy_5 (by assumption) rfl (by omega) (by decide) rfl ?_
  refine v_sipush (v := (-900)) dX1_isMarkedBy_6 (by decide) rfl ?_
  refine v_icmp_eq (tgt := 16) dX1_isMarkedBy_9 (by decide) rfl (fun c9 => ?_) (fun c9 => ?_)
  · refine v_iconst (v := nI 0) dX1_isMarkedBy_16 (by decide) rfl ?_
    exact v_zret dX1_isMarkedBy_17 rfl (by rfl) ⟨Nat.le_of_ble_eq_true rfl, Nat.le_of_ble_eq_true rfl⟩ (⟨by first | (rw [bP_t ‹_›]; done) | (rw [bP_f (fun h => h ‹_›)]; done), rfl⟩)
  · refine v_iconst (v := nI 1) dX1_isMarkedBy_12 (by decide) rfl ?_
    refine v_goto (tgt := 17) dX1_isMarkedBy_13 (by decide) ?_
    exact v_zret dX1_isMarkedBy_17 rfl (by rfl) ⟨Nat.le_of_ble_eq_true rfl, Nat.le_of_ble_eq_true rfl⟩ (⟨by first | (rw [bP_t ‹_›]; done) | (rw [bP_f (fun h => h ‹_›)]; done), rfl⟩)
theorem c_isMarkedByBoth (hW : WK G hp a f m tr) {k l : Nat} (hk : k < 3) (hl : l < 3) : Ct G mX1_isMarkedByBoth 1 0 0 [.ref (G.2.2.2 + a), .int (nI k), .int (nI l)] hp (Qf (some (.int (bP (¬ m k = -900 ∧ ¬ m l = -900)))) hp) := by
  have h1 := hW.1
  refine Ct.start 0 (by decide) rfl (Nat.le_of_ble_eq_true rfl) ?_
  refine v_aload_n dX1_isMarkedByBoth_0 rfl rfl ?_
  refine v_iload_n dX1_isMarkedByBoth_1 rfl rfl ?_
  by_cases q2 : ¬ m k = -900
  · refine v_cvf dX1_isMarkedByBoth_2 cw_X1_22 ⟨tn_X1_isMarkedBy, tl_X1_isMarkedBy⟩ rfl (by assumption) ((c_isMarkedBy G hp hW hk).yes ‹_›) (by rfl) (by rfl) (Nat.le_of_ble_eq_true rfl) (Nat.le_of_ble_eq_true rfl) (Nat.le_of_ble_eq_true rfl) (Nat.le_of_ble_eq_true rfl) (Nat.le_of_ble_eq_true rfl) rfl ?_
    refine v_if_eq (tgt := 20) dX1_isMarkedByBoth_5 (by decide) rfl (fun q => absurd q (by decide)) (fun _ => ?_)
    refine v_aload_n dX1_isMarkedByBoth_8 rfl rfl ?_
    refine v_iload_n dX1_isMarkedByBoth_9 rfl rfl ?_
    by_cases q10 : ¬ m l = -900
    · refine v_cvf dX1_isMarkedByBoth_10 cw_X1_22 ⟨tn_X1_isMarkedBy, tl_X1_isMarkedBy⟩ rfl (by assumption) ((c_isMarkedBy G hp hW hl).yes ‹_›) (by rfl) (by rfl) (Nat.le_of_ble_eq_true rfl) (Nat.le_of_ble_eq_true rfl) (Nat.le_of_ble_eq_true rfl) (Nat.le_of_ble_eq_true rfl) (Nat.le_of_ble_eq_true rfl) rfl ?_
      refine v_if_eq (tgt := 20) dX1_isMarkedByBoth_13 (by decide) rfl (fun q => absurd q (by decide)) (fun _ => ?_)
      refine v_iconst (v := nI 1) dX1_isMarkedByBoth_16 (by decide) rfl ?_
      refine v_goto (tgt := 21) dX1_isMarkedByBoth_17 (by decide) ?_
      exact v_zret dX1_isMarkedByBoth_21 rfl (by rfl) ⟨Nat.le_of_ble_eq_true rfl, Nat.le_of_ble_eq_true rfl⟩ (⟨by first | (rw [bP_t ⟨‹_›, ‹_›⟩]; done) | (rw [bP_f (fun h => absurd h.1 ‹_›)]; done) | (rw [bP_f (fun h => absurd h.2 ‹_›)]; done), rfl⟩)
    · refine v_cvf dX1_isMarkedByBoth_10 cw_X1_22 ⟨tn_X1_isMarkedBy, tl_X1_isMarkedBy⟩ rfl (by assumption) ((c_isMarkedBy G hp hW hl).no ‹_›) (by rfl) (by rfl) (Nat.le_of_ble_eq_true rfl) (Nat.le_of_ble_eq_true rfl) (Nat.le_of_ble_eq_true rfl) (Nat.le_of_ble_eq_true rfl) (Nat.le_of_ble_eq_true rfl) rfl ?_
      refine v_if_eq (tgt := 20) dX1_isMarkedByBoth_13 (by decide) rfl (fun _ => ?_) (fun q => absurd (by decide) q)
      refine v_iconst (v := nI 0) dX1_isMarkedByBoth_20 (by decide) rfl ?_
      exact v_zret dX1_isMarkedByBoth_21 rfl (by rfl) ⟨Nat.le_of_ble_eq_true rfl, Nat.le_of_ble_eq_true rfl⟩ (⟨by first | (rw [bP_t ⟨‹_›, ‹_›⟩]; done) | (rw [bP_f (fun h => absurd h.1 ‹_›)]; done) | (rw [bP_f (fun h => absurd h.2 ‹_›)]; done), rfl⟩)
  · refine v_cvf dX1_isMarkedByBoth_2 cw_X1_22 ⟨tn_X1_isMarkedBy, tl_X1_isMarkedBy⟩ rfl (by assumption) ((c_isMarkedBy G hp hW hk).no ‹_›) (by rfl) (by rfl) (Nat.le_of_ble_eq_true rfl) (Nat.le_of_ble_eq_true rfl) (Nat.le_of_ble_eq_true rfl) (Nat.le_of_ble_eq_true rfl) (Nat.le_of_ble_eq_true rfl) rfl ?_
    refine v_if_eq (tgt := 20) dX1_isMarkedByBoth_5 (by decide) rfl (fun _ => ?_) (fun q => absurd (by decide) q)
    refine v_iconst (v := nI 0) dX1_isMarkedByBoth_20 (by decide) rfl ?_
    exact v_zret dX1_isMarkedByBoth_21 rfl (by rfl) ⟨Nat.le_of_ble_eq_true rfl, Nat.le_of_ble_eq_true rfl⟩ (⟨by first | (rw [bP_t ⟨‹_›, ‹_›⟩]; done) | (rw [bP_f (fun h => absurd h.1 ‹_›)]; done) | (rw [bP_f (fun h => absurd h.2 ‹_›)]; done), rfl⟩)
end WORK

