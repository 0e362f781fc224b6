-- LOOK: by first | assumption | exact set_get (by assumption) | exact set_get (set_get (by assumption))
/-! THE CLASS'S FACE: two sheets -/
noncomputable def mvI (s : ST) (w : Nat) : Int32 := if w = 0 then nI (cnt (fun w => ¬ ptsI s 0 w 4 = ptsI s 1 w 4) s.n) else nI (trnN (fun w => ptsI s 0 w 4) (fun w => ptsI s 1 w 4) s.n s.n)
theorem trnN_congr {p q p' q' : Nat → Int32} {n : Nat} (h : ∀ j, j < n → p j = p' j ∧ q j = q' j) : ∀ i, i ≤ n → trnN p q n i = trnN p' q' n i
  | 0, _ => rfl
  | i + 1, hi => by
    rw [trnN, trnN, trnN_congr h i (by omega), cnt_congr n (fun j hj => by rw [(h i (by omega)).1, (h i (by omega)).2, (h j hj).1, (h j hj).2])]
def cpyT (f g : Nat → Int32) : Nat → (Nat → Int32)
  | 0 => f
  | k + 1 => upd (cpyT f g k) k (g k)
theorem cpyT_at (f g : Nat → Int32) : ∀ k j, j < k → cpyT f g k j = g j
  | 0, j, h => absurd h (by omega)
  | k + 1, j, h => by
    by_cases e : j = k
    · subst e; exact upd_s _ _ _
    · exact (upd_n e).trans (cpyT_at f g k j (by omega))
def beS (s : ST) (a b : Nat) : ST := (upd s.1 b (s.1 a), upd s.2.1 b (s.2.1 a), upd s.2.2.1 b (s.2.2.1 a), updF s.2.2.2.1 b (cpyT (s.2.2.2.1 b) (s.2.2.2.1 a) 4), updF s.2.2.2.2.1 b (cpyT (s.2.2.2.2.1 b) (s.2.2.2.2.1 a) 4), s.2.2.2.2.2)
def cp0 (s : ST) : Nat → ST
  | 0 => s
  | k + 1 => beS (cp0 s k) k (4 + k)
def cp1 (s : ST) : Nat → ST
  | 0 => s
  | k + 1 => beS (cp1 s k) (4 + k) k
def sj (j : Nat) : Nat := if j < 4 then j + 4 else j - 4
def swS (s : ST) : ST := (fun j => s.1 (sj j), fun j => s.2.1 (sj j), fun j => s.2.2.1 (sj j), fun j => s.2.2.2.1 (sj j), fun j => s.2.2.2.2.1 (sj j), s.2.2.2.2.2)
theorem la_not (sw : Bool) {j : Nat} (hj : j < 8) : la (!sw) j = la sw (sj j) := by
  cases sw
  · show (if j < 4 then 19 + 3 * j else 3 * j - 5) = 7 + 3 * sj j
    unfold sj
    split <;> omega
  · show 7 + 3 * j = if sj j < 4 then 19 + 3 * sj j else 3 * sj j - 5
    unfold sj
    split
    · rw [if_neg (by omega)]; omega
    · rw [if_pos (by omega)]; omega
def cpS (s : ST) (w : Nat) : ST := if w = 0 then cp0 s 4 else if w = 1 then cp1 s 4 else swS s
section PXC
variable {G : GG} {hp h : List va_E} {s : ST} {x : XT}
theorem PX.beS (hX : PX G s x hp) {a b : Nat} (ha : a < 8) (hb : b < 8) (hL : LN G h (la x.1 b) (s.kd a) (s.fc a) (s.wt a) (cpyT (s.fr b) (s.fr a) 4) (cpyT (s.to b) (s.to a) 4)) (hf : ∀ i, (i < la x.1 b ∨ la x.1 b + 2 < i) → h[i]? = hp[i]?) (hlen2 : h.length = hp.length) : PX G (beS s a b) x h := by
  obtain ⟨h0, h1, hgl, h2, hgw, h3, h4, h5, h6, hln, hwk, hn, hlen⟩ := hX
  have hla := la_in x.1 hb
  refine ⟨(hf _ (by omega)).trans h0, (hf _ (by omega)).trans h1, hgl, (hf _ (by omega)).trans h2, hgw, (hf _ (by omega)).trans h3, (hf _ (by omega)).trans h4, (hf _ (by omega)).trans h5, (hf _ (by omega)).trans h6, fun i hi => ?_, fun w hw => (hwk w hw).frame (fun i q1 q2 => hf i (by omega)), hn, hlen2.trans hlen⟩
  by_cases e : i = b
  · subst e
    show LN G _ _ (upd s.kd i (s.kd a) i) (upd s.fc i (s.fc a) i) (upd s.wt i (s.wt a) i) (updF s.fr i (cpyT (s.fr i) (s.fr a) 4) i) (updF s.to i (cpyT (s.to i) (s.to a) 4) i)
    rw [upd_s, upd_s, upd_s, updF_s, updF_s]
    exact hL
  · show LN G _ _ (upd s.kd b (s.kd a) i) (upd s.fc b (s.fc a) i) (upd s.wt b (s.wt a) i) (updF s.fr b (cpyT (s.fr b) (s.fr a) 4) i) (updF s.to b (cpyT (s.to b) (s.to a) 4) i)
    rw [upd_n e, upd_n e, upd_n e, updF_n e, updF_n e]
    exact (hln i hi).frame (fun q q1 q2 => hf q (by have := la_apart x.1 hi hb e; omega))
end PXC
section FACE3
variable (G : GG) (hp : List va_E) {s : ST} {x : XT}
theorem x_moves_y (hX : PX G s x hp) (hI : Inv s) {w : Nat} (hw : w < 2) : Ct G mX2_moves 6 0 0 [.ref (G.2.2.2 + 0), .int (nI w)] hp (QX G hp (mvI s w) s) := by
  have hn := hX.2.2.2.2.2.2.2.2.2.2.2.1
  have key : ∀ k, k ≤ s.n → ∀ x h, PX G s x h → FrX hp h → (∀ j, j < k → x.2.2.2.2.2.1 j = ptsI s 0 j 4 ∧ x.2.2.2.2.2.2 j = ptsI s 1 j 4) → Vm G mX2_moves 6 0 0 (QX G hp (mvI s w) s) 13 [some (.ref (G.2.2.2 + 0)), some (.int (nI w)), some (.int (nI k))] [] h 0 0 := by
    refine loop_up ?_ (fun k hk ih => ?_)
    · intro x h hX hF hq
      have h0 := hX.1
      refine v_iload_n dX2_moves_13 rfl rfl ?_
      refine v_aload_n dX2_moves_14 rfl rfl ?_
      refine v_getf dX2_moves_15 fl_X2_21 (by first | assumption | exact set_get (by assumption) | exact set_get (set_get (by assumption))) (by rfl) rfl ?_
      refine v_icmp_geN (tgt := 61) dX2_moves_18 (by decide) rfl (by omega) (by omega) (fun c18 => ?_) (fun c18 => ?_)
      · refine v_iload_n dX2_moves_61 rfl rfl ?_
        refine v_if_neN (tgt := 72) dX2_moves_62 (by decide) rfl (by omega) (fun c62 => ?_) (fun c62 => ?_)
        · refine v_aload_n dX2_moves_72 rfl rfl ?_
          refine v_cvf dX2_moves_73 cw_X2_168 ⟨tn_X2_countTurned, tl_X2_countTurned⟩ rfl (by first | assumption | exact set_get (by assumption) | exact set_get (set_get (by assumption))) (c_countTurned G h hX) (by rfl) (by rfl) (Nat.le_of_ble_eq_true rfl) (Nat.le_of_ble_eq_true rfl) (Nat.le_of_ble_eq_true rfl) (Nat.le_of_ble_eq_true rfl) (Nat.le_of_ble_eq_true rfl) rfl ?_
          exact v_iret dX2_moves_76 rfl ⟨Nat.le_of_ble_eq_true rfl, Nat.le_of_ble_eq_true rfl⟩ (⟨by first | (rw [mvI, if_pos ‹_›, cnt_congr s.n (fun j hj => by rw [(hq j hj).1, (hq j hj).2])]; done) | (rw [mvI, if_neg ‹_›, trnN_congr hq s.n (Nat.le_refl _)]; done), ⟨x, hX⟩, hF⟩)
        · refine v_aload_n dX2_moves_65 rfl rfl ?_
          refine v_cvf dX2_moves_66 cw_X2_165 ⟨tn_X2_countMoved, tl_X2_countMoved⟩ rfl (by first | assumption | exact set_get (by assumption) | exact set_get (set_get (by assumption))) (c_countMoved G h hX) (by rfl) (by rfl) (Nat.le_of_ble_eq_true rfl) (Nat.le_of_ble_eq_true rfl) (Nat.le_of_ble_eq_true rfl) (Nat.le_of_ble_eq_true rfl) (Nat.le_of_ble_eq_true rfl) rfl ?_
          refine v_goto (tgt := 76) dX2_moves_69 (by decide) ?_
          exact v_iret dX2_moves_76 rfl ⟨Nat.le_of_ble_eq_true rfl, Nat.le_of_ble_eq_true rfl⟩ (⟨by first | (rw [mvI, if_pos ‹_›, cnt_congr s.n (fun j hj => by rw [(hq j hj).1, (hq j hj).2])]; done) | (rw [mvI, if_neg ‹_›, trnN_congr hq s.n (Nat.le_refl _)]; done), ⟨x, hX⟩, hF⟩)
      · exact absurd c18 (by omega)
    · intro x h hX hF hq
      obtain ⟨h0, h1, hgl, h2, hgw, h3, h4, h5, h6, hln, hwk, hn', hlen⟩ := id hX
      have hX2 := hX.setOp (upd x.2.2.2.2.2.1 k (ptsI s 0 k 4))
      obtain ⟨g0, g1, ggl, g2, ggw, g3, g4, g5, g6, gln, gwk, gn, glen⟩ := id hX2
      refine v_iload_n dX2_moves_13 rfl rfl ?_
      refine v_aload_n dX2_moves_14 rfl rfl ?_
      refine v_getf dX2_moves_15 fl_X2_21 (by first | assumption | exact set_get (by assumption) | exact set_get (set_get (by assumption))) (by rfl) rfl ?_
      refine v_icmp_geN (tgt := 61) dX2_moves_18 (by decide) rfl (by omega) (by omega) (fun c18 => ?_) (fun c18 => ?_)
      · exact absurd c18 (by omega)
      · refine v_aload_n dX2_moves_21 rfl rfl ?_
        refine v_getf dX2_moves_22 fl_X2_36 (by first | assumption | exact set_get (by assumption) | exact set_get (set_get (by assumption))) (by rfl) rfl ?_
        refine v_iload_n dX2_moves_25 rfl rfl ?_
        refine v_aload_n dX2_moves_26 rfl rfl ?_
        refine v_iconst (v := nI 0) dX2_moves_27 (by decide) rfl ?_
        refine v_aload_n dX2_moves_28 rfl rfl ?_
        refine v_getf dX2_moves_29 fl_X2_17 (by first | assumption | exact set_get (by assumption) | exact set_get (set_get (by assumption))) (by rfl) rfl ?_
        refine v_iload_n dX2_moves_32 rfl rfl ?_
        refine v_aaldW _ dX2_moves_33 (by first | assumption | exact set_get (by assumption) | exact set_get (set_get (by assumption))) rfl (by omega) (by decide) (by rw [hgw _ (by omega)]) rfl ?_
        refine v_cvf dX2_moves_34 cw_X2_99 ⟨tn_X2_pointsBy, tl_X2_pointsBy⟩ rfl (by first | assumption | exact set_get (by assumption) | exact set_get (set_get (by assumption))) (c_pointsBy G h hX hI (sh := 0) (by decide) hk) (by rfl) (by rfl) (Nat.le_of_ble_eq_true rfl) (Nat.le_of_ble_eq_true rfl) (Nat.le_of_ble_eq_true rfl) (Nat.le_of_ble_eq_true rfl) (Nat.le_of_ble_eq_true rfl) rfl ?_
        refine v_iast _ dX2_moves_37 (by first | assumption | exact set_get (by assumption) | exact set_get (set_get (by assumption))) rfl (by omega) (by decide) rfl ?_
        refine v_aload_n dX2_moves_38 rfl rfl ?_
        refine v_getf dX2_moves_39 fl_X2_39 (by first | assumption | exact set_get (by assumption) | exact set_get (set_get (by assumption))) (by rfl) rfl ?_
        refine v_iload_n dX2_moves_42 rfl rfl ?_
        refine v_aload_n dX2_moves_43 rfl rfl ?_
        refine v_iconst (v := nI 1) dX2_moves_44 (by decide) rfl ?_
        refine v_aload_n dX2_moves_45 rfl rfl ?_
        refine v_getf dX2_moves_46 fl_X2_17 (by first | assumption | exact set_get (by assumption) | exact set_get (set_get (by assumption))) (by rfl) rfl ?_
        refine v_iload_n dX2_moves_49 rfl rfl ?_
        refine v_aaldW _ dX2_moves_50 (by first | assumption | exact set_get (by assumption) | exact set_get (set_get (by assumption))) rfl (by omega) (by decide) (by rw [hgw _ (by omega)]) rfl ?_
        refine v_cvf dX2_moves_51 cw_X2_99 ⟨tn_X2_pointsBy, tl_X2_pointsBy⟩ rfl (by first | assumption | exact set_get (by assumption) | exact set_get (set_get (by assumption))) (c_pointsBy G _ hX2 hI (sh := 1) (by decide) hk) (by rfl) (by rfl) (Nat.le_of_ble_eq_true rfl) (Nat.le_of_ble_eq_true rfl) (Nat.le_of_ble_eq_true rfl) (Nat.le_of_ble_eq_true rfl) (Nat.le_of_ble_eq_true rfl) rfl ?_
        refine v_iast _ dX2_moves_54 (by first | assumption | exact set_get (by assumption) | exact set_get (set_get (by assumption))) rfl (by omega) (by decide) rfl ?_
        refine v_iinc1 dX2_moves_55 rfl (Nat.le_of_ble_eq_true rfl) rfl ?_
        refine v_goto (tgt := 13) dX2_moves_58 (by decide) ?_
        exact ih _ _ (hX2.setNp _) ((hF.set (by omega)).set (by omega)) (fun j hj => by
                  by_cases e : j = k
                  · subst e; exact ⟨upd_s _ _ _, upd_s _ _ _⟩
                  · exact ⟨(upd_n e).trans (hq j (by omega)).1, (upd_n e).trans (hq j (by omega)).2⟩)
  have h0 := hX.1
  refine Ct.start 1 (by decide) rfl (Nat.le_of_ble_eq_true rfl) ?_
  refine v_iload_n dX2_moves_0 rfl rfl ?_
  refine v_iconst (v := nI 2) dX2_moves_1 (by decide) rfl ?_
  refine v_csf dX2_moves_2 cw_X2_49 ts_X2_isBelow ((c_isBelow G hp (nI w) 2).yes (inR_nI hw (by decide))) (by rfl) (by rfl) (Nat.le_of_ble_eq_true rfl) (Nat.le_of_ble_eq_true rfl) (Nat.le_of_ble_eq_true rfl) (Nat.le_of_ble_eq_true rfl) (Nat.le_of_ble_eq_true rfl) rfl ?_
  refine v_if_ne (tgt := 11) dX2_moves_5 (by decide) rfl (fun _ => ?_) (fun q => absurd q (by decide))
  refine v_iconst (v := nI 0) dX2_moves_11 (by decide) rfl ?_
  refine v_istore_n dX2_moves_12 (Nat.le_of_ble_eq_true rfl) rfl ?_
  exact key 0 (Nat.zero_le _) x hp hX FrX.rf (fun j hj => absurd hj (by omega))
theorem x_moves_n {y : Int32} (h : ¬ InR y 2) : Ct G mX2_moves 6 0 0 [.ref (G.2.2.2 + 0), .int y] hp (Qf (some (.int (-100))) hp) := by
  refine Ct.start 1 (by decide) rfl (Nat.le_of_ble_eq_true rfl) ?_
  refine v_iload_n dX2_moves_0 rfl rfl ?_
  refine v_iconst (v := nI 2) dX2_moves_1 (by decide) rfl ?_
  refine v_csf dX2_moves_2 cw_X2_49 ts_X2_isBelow ((c_isBelow G hp y 2).no h) (by rfl) (by rfl) (Nat.le_of_ble_eq_true rfl) (Nat.le_of_ble_eq_true rfl) (Nat.le_of_ble_eq_true rfl) (Nat.le_of_ble_eq_true rfl) (Nat.le_of_ble_eq_true rfl) rfl ?_
  refine v_if_ne (tgt := 11) dX2_moves_5 (by decide) rfl (fun q => absurd (by decide) q) (fun _ => ?_)
  refine v_bipush (v := (-100)) dX2_moves_8 (by decide) rfl ?_
  exact v_iret dX2_moves_10 rfl ⟨Nat.le_of_ble_eq_true rfl, Nat.le_of_ble_eq_true rfl⟩ (⟨rfl, rfl⟩)
theorem c_becomeAs {a b : Nat} {kd fc wt kd2 fc2 wt2 : Int32} {f t f2 t2 : Nat → Int32} (hA : LN G hp a kd fc wt f t) (hB : LN G hp b kd2 fc2 wt2 f2 t2) (hab : a + 3 ≤ b ∨ b + 3 ≤ a) : Ct G mX0_becomeAs 0 0 0 [.ref (G.2.2.2 + a), .ref (G.2.2.2 + b)] hp (fun r h => r = none ∧ LN G h a kd2 fc2 wt2 (cpyT f f2 4) (cpyT t t2 4) ∧ (∀ i, (i < a ∨ a + 2 < i) → h[i]? = hp[i]?) ∧ h.length = hp.length) := by
  have key : ∀ k, k ≤ 4 → ∀ h, LN G h a kd2 fc2 wt2 (cpyT f f2 k) (cpyT t t2 k) → (∀ i, (i < a ∨ a + 2 < i) → h[i]? = hp[i]?) → h.length = hp.length → Vm G mX0_becomeAs 0 0 0 (fun r h => r = none ∧ LN G h a kd2 fc2 wt2 (cpyT f f2 4) (cpyT t t2 4) ∧ (∀ i, (i < a ∨ a + 2 < i) → h[i]? = hp[i]?) ∧ h.length = hp.length) 26 [some (.ref (G.2.2.2 + a)), some (.ref (G.2.2.2 + b)), some (.int (nI k))] [] h 0 0 := by
    refine loop_up ?_ (fun k hk ih => ?_)
    · intro h hL hf hlen
      refine v_iload_n dX0_becomeAs_26 rfl rfl ?_
      refine v_iconst (v := nI 4) dX0_becomeAs_27 (by decide) rfl ?_
      refine v_icmp_geN (tgt := 61) dX0_becomeAs_28 (by decide) rfl (by omega) (by omega) (fun c28 => ?_) (fun c28 => ?_)
      · exact v_vret dX0_becomeAs_61 rfl ⟨Nat.le_of_ble_eq_true rfl, Nat.le_of_ble_eq_true rfl⟩ (⟨rfl, hL, hf, hlen⟩)
      · exact absurd c28 (by omega)
    · intro h hL hf hlen
      have hB' := hB.frame (h := h) (fun i q1 q2 => hf i (by omega))
      obtain ⟨l1, l2, l3⟩ := hL
      obtain ⟨k1, k2, k3⟩ := hB'
      refine v_iload_n dX0_becomeAs_26 rfl rfl ?_
      refine v_iconst (v := nI 4) dX0_becomeAs_27 (by decide) rfl ?_
      refine v_icmp_geN (tgt := 61) dX0_becomeAs_28 (by decide) rfl (by omega) (by omega) (fun c28 => ?_) (fun c28 => ?_)
      · exact absurd c28 (by omega)
      · refine v_aload_n dX0_becomeAs_31 rfl rfl ?_
        refine v_getf dX0_becomeAs_32 fl_X0_18 (by first | assumption | exact set_get (by assumption) | exact set_get (set_get (by assumption))) (by rfl) rfl ?_
        refine v_iload_n dX0_becomeAs_35 rfl rfl ?_
        refine v_aload_n dX0_becomeAs_36 rfl rfl ?_
        refine v_getf dX0_becomeAs_37 fl_X0_18 (by first | assumption | exact set_get (by assumption) | exact set_get (set_get (by assumption))) (by rfl) rfl ?_
        refine v_iload_n dX0_becomeAs_40 rfl rfl ?_
        refine v_iald _ dX0_becomeAs_41 (by first | assumption | exact set_get (by assumption) | exact set_get (set_get (by assumption))) rfl (by omega) (by decide) rfl ?_
        refine v_iast _ dX0_becomeAs_42 (by first | assumption | exact set_get (by assumption) | exact set_get (set_get (by assumption))) rfl (by omega) (by decide) rfl ?_
        have l1' := (set_ne (e := aI G 4 (upd (cpyT f f2 k) k (f2 k))) (show a ≠ a + 1 by omega)).trans l1
        have l3' := (set_ne (e := aI G 4 (upd (cpyT f f2 k) k (f2 k))) (show a + 2 ≠ a + 1 by omega)).trans l3
        have k1' := (set_ne (e := aI G 4 (upd (cpyT f f2 k) k (f2 k))) (show b ≠ a + 1 by omega)).trans k1
        have k3' := (set_ne (e := aI G 4 (upd (cpyT f f2 k) k (f2 k))) (show b + 2 ≠ a + 1 by omega)).trans k3
        refine v_aload_n dX0_becomeAs_43 rfl rfl ?_
        refine v_getf dX0_becomeAs_44 fl_X0_22 (by first | assumption | exact set_get (by assumption) | exact set_get (set_get (by assumption))) (by rfl) rfl ?_
        refine v_iload_n dX0_becomeAs_47 rfl rfl ?_
        refine v_aload_n dX0_becomeAs_48 rfl rfl ?_
        refine v_getf dX0_becomeAs_49 fl_X0_22 (by first | assumption | exact set_get (by assumption) | exact set_get (set_get (by assumption))) (by rfl) rfl ?_
        refine v_iload_n dX0_becomeAs_52 rfl rfl ?_
        refine v_iald _ dX0_becomeAs_53 (by first | assumption | exact set_get (by assumption) | exact set_get (set_get (by assumption))) rfl (by omega) (by decide) rfl ?_
        refine v_iast _ dX0_becomeAs_54 (by first | assumption | exact set_get (by assumption) | exact set_get (set_get (by assumption))) rfl (by omega) (by decide) rfl ?_
        refine v_iinc1 dX0_becomeAs_55 rfl (Nat.le_of_ble_eq_true rfl) rfl ?_
        refine v_goto (tgt := 26) dX0_becomeAs_58 (by decide) ?_
        exact ih _ ⟨(set_ne (by omega)).trans l1', (set_ne (by omega)).trans (set_get l2), set_get l3'⟩ (fun i hi => (set_ne (by omega)).trans ((set_ne (by omega)).trans (hf i hi))) (by rw [List.length_set, List.length_set]; exact hlen)
  obtain ⟨l1, l2, l3⟩ := hA
  obtain ⟨k1, k2, k3⟩ := id hB
  refine Ct.start 1 (by decide) rfl (Nat.le_of_ble_eq_true rfl) ?_
  refine v_aload_n dX0_becomeAs_0 rfl rfl ?_
  refine v_aload_n dX0_becomeAs_1 rfl rfl ?_
  refine v_getf dX0_becomeAs_2 fl_X0_9 (by first | assumption | exact set_get (by assumption) | exact set_get (set_get (by assumption))) (by rfl) rfl ?_
  refine v_putf dX0_becomeAs_5 fl_X0_9 (by first | assumption | exact set_get (by assumption) | exact set_get (set_get (by assumption))) (by rfl) (by rfl) (by exact Nat.le_of_ble_eq_true rfl) rfl ?_
  refine v_aload_n dX0_becomeAs_8 rfl rfl ?_
  refine v_aload_n dX0_becomeAs_9 rfl rfl ?_
  refine v_getf dX0_becomeAs_10 fl_X0_25 ((set_ne (by omega)).trans k1) (by rfl) rfl ?_
  refine v_putf dX0_becomeAs_13 fl_X0_25 (by first | assumption | exact set_get (by assumption) | exact set_get (set_get (by assumption))) (by rfl) (by rfl) (by exact Nat.le_of_ble_eq_true rfl) rfl ?_
  refine v_aload_n dX0_becomeAs_16 rfl rfl ?_
  refine v_aload_n dX0_becomeAs_17 rfl rfl ?_
  refine v_getf dX0_becomeAs_18 fl_X0_15 ((set_ne (by omega)).trans ((set_ne (by omega)).trans k1)) (by rfl) rfl ?_
  refine v_putf dX0_becomeAs_21 fl_X0_15 (by first | assumption | exact set_get (by assumption) | exact set_get (set_get (by assumption))) (by rfl) (by rfl) (by exact Nat.le_of_ble_eq_true rfl) rfl ?_
  refine v_iconst (v := nI 0) dX0_becomeAs_24 (by decide) rfl ?_
  refine v_istore_n dX0_becomeAs_25 (Nat.le_of_ble_eq_true rfl) rfl ?_
  exact key 0 (Nat.zero_le _) _ ⟨set_get (set_get (set_get l1)), (set_ne (by omega)).trans ((set_ne (by omega)).trans ((set_ne (by omega)).trans l2)), (set_ne (by omega)).trans ((set_ne (by omega)).trans ((set_ne (by omega)).trans l3))⟩ (fun i hi => (set_ne (by omega)).trans ((set_ne (by omega)).trans (set_ne (by omega)))) (by rw [List.length_set, List.length_set, List.length_set])
theorem x_copy_y (hX : PX G s x hp) {w : Nat} (hw : w < 3) : Ct G mX2_copy 1 0 0 [.ref (G.2.2.2 + 0), .int (nI w)] hp (QX G hp (nI 1) (cpS s w)) := by
  have h0 := hX.1
  refine Ct.start 3 (by decide) rfl (Nat.le_of_ble_eq_true rfl) ?_
  have h3 : w = 0 ∨ w = 1 ∨ w = 2 := by omega
  rcases h3 with h3 | h3 | h3 <;> subst h3
  · have key : ∀ k, k ≤ 4 → ∀ x h, PX G (cp0 s k) x h → FrX hp h → ∀ l3 l4 : Option Value, Vm G mX2_copy 1 0 0 (QX G hp (nI 1) (cpS s 0)) 13 [some (.ref (G.2.2.2 + 0)), some (.int (nI 0)), some (.int (nI k)), l3, l4] [] h 0 0 := by
      refine loop_up ?_ (fun k hk ih => ?_)
      · intro x h hX hF l3 l4
        refine v_iload_n dX2_copy_13 rfl rfl ?_
        refine v_iconst (v := nI 4) dX2_copy_14 (by decide) rfl ?_
        refine v_icmp_geN (tgt := 85) dX2_copy_15 (by decide) rfl (by omega) (by omega) (fun c15 => ?_) (fun c15 => ?_)
        · refine v_iconst (v := nI 1) dX2_copy_85 (by decide) rfl ?_
          exact v_iret dX2_copy_86 rfl ⟨Nat.le_of_ble_eq_true rfl, Nat.le_of_ble_eq_true rfl⟩ (⟨rfl, ⟨x, hX⟩, hF⟩)
        · exact absurd c15 (by omega)
      · intro x h hX hF l3 l4
        obtain ⟨h0, h1, hgl, h2, hgw, h3, h4, h5, h6, hln, hwk, hn', hlen⟩ := id hX
        have hA := hln k (by omega)
        have hB := hln (4 + k) (by omega)
        have lb := hB.1
        have hla := la_in x.1 (j := 4 + k) (by omega)
        refine v_iload_n dX2_copy_13 rfl rfl ?_
        refine v_iconst (v := nI 4) dX2_copy_14 (by decide) rfl ?_
        refine v_icmp_geN (tgt := 85) dX2_copy_15 (by decide) rfl (by omega) (by omega) (fun c15 => ?_) (fun c15 => ?_)
        · exact absurd c15 (by omega)
        · refine v_aload_n dX2_copy_18 rfl rfl ?_
          refine v_getf dX2_copy_19 fl_X2_11 (by first | assumption | exact set_get (by assumption) | exact set_get (set_get (by assumption))) (by rfl) rfl ?_
          refine v_iload_n dX2_copy_22 rfl rfl ?_
          refine v_aaldL _ dX2_copy_23 (by first | assumption | exact set_get (by assumption) | exact set_get (set_get (by assumption))) rfl (by omega) (by decide) (by rw [hgl _ (by omega)]) rfl ?_
          refine v_astore_n dX2_copy_24 (Nat.le_of_ble_eq_true rfl) rfl ?_
          refine v_aload_n dX2_copy_25 rfl rfl ?_
          refine v_getf dX2_copy_26 fl_X2_11 (by first | assumption | exact set_get (by assumption) | exact set_get (set_get (by assumption))) (by rfl) rfl ?_
          refine v_iconst (v := nI 4) dX2_copy_29 (by decide) rfl ?_
          refine v_iload_n dX2_copy_30 rfl rfl ?_
          refine v_iaddN dX2_copy_31 rfl ?_
          refine v_aaldL _ dX2_copy_32 (by first | assumption | exact set_get (by assumption) | exact set_get (set_get (by assumption))) rfl (by omega) (by decide) (by rw [hgl _ (by omega)]) rfl ?_
          refine v_astore dX2_copy_33 (Nat.le_of_ble_eq_true rfl) rfl ?_
          refine v_iload_n dX2_copy_35 rfl rfl ?_
          refine v_if_ne (tgt := 48) dX2_copy_36 (by decide) rfl (fun q => absurd (by decide) q) (fun _ => ?_)
          refine v_aload dX2_copy_39 rfl rfl ?_
          refine v_aload_n dX2_copy_41 rfl rfl ?_
          refine v_cv dX2_copy_42 cw_X2_171 ⟨tn_X0_becomeAs, tl_X0_becomeAs⟩ rfl (by first | assumption | exact set_get (by assumption) | exact set_get (set_get (by assumption))) (c_becomeAs G h hB hA (la_apart x.1 (by omega) (by omega) (by omega))) (by rfl) (by rfl) (Nat.le_of_ble_eq_true rfl) (Nat.le_of_ble_eq_true rfl) (Nat.le_of_ble_eq_true rfl) (Nat.le_of_ble_eq_true rfl) (Nat.le_of_ble_eq_true rfl) rfl ?_
          rintro r h' ⟨rfl, hL', hf', hl'⟩
          refine v_goto (tgt := 79) dX2_copy_45 (by decide) ?_
          refine v_iinc1 dX2_copy_79 rfl (Nat.le_of_ble_eq_true rfl) rfl ?_
          refine v_goto (tgt := 13) dX2_copy_82 (by decide) ?_
          exact ih x h' (hX.beS (by omega) (by omega) hL' hf' hl') (hF.trans (fun i q1 q2 => hf' i (by omega))) _ _
    refine v_iload_n dX2_copy_0 rfl rfl ?_
    refine v_iconst (v := nI 3) dX2_copy_1 (by decide) rfl ?_
    refine v_csf dX2_copy_2 cw_X2_49 ts_X2_isBelow ((c_isBelow G hp (nI 0) 3).yes (by decide)) (by rfl) (by rfl) (Nat.le_of_ble_eq_true rfl) (Nat.le_of_ble_eq_true rfl) (Nat.le_of_ble_eq_true rfl) (Nat.le_of_ble_eq_true rfl) (Nat.le_of_ble_eq_true rfl) rfl ?_
    refine v_if_ne (tgt := 11) dX2_copy_5 (by decide) rfl (fun _ => ?_) (fun q => absurd q (by decide))
    refine v_iconst (v := nI 0) dX2_copy_11 (by decide) rfl ?_
    refine v_istore_n dX2_copy_12 (Nat.le_of_ble_eq_true rfl) rfl ?_
    exact key 0 (Nat.zero_le _) x hp hX FrX.rf _ _
  · have key : ∀ k, k ≤ 4 → ∀ x h, PX G (cp1 s k) x h → FrX hp h → ∀ l3 l4 : Option Value, Vm G mX2_copy 1 0 0 (QX G hp (nI 1) (cpS s 1)) 13 [some (.ref (G.2.2.2 + 0)), some (.int (nI 1)), some (.int (nI k)), l3, l4] [] h 0 0 := by
      refine loop_up ?_ (fun k hk ih => ?_)
      · intro x h hX hF l3 l4
        refine v_iload_n dX2_copy_13 rfl rfl ?_
        refine v_iconst (v := nI 4) dX2_copy_14 (by decide) rfl ?_
        refine v_icmp_geN (tgt := 85) dX2_copy_15 (by decide) rfl (by omega) (by omega) (fun c15 => ?_) (fun c15 => ?_)
        · refine v_iconst (v := nI 1) dX2_copy_85 (by decide) rfl ?_
          exact v_iret dX2_copy_86 rfl ⟨Nat.le_of_ble_eq_true rfl, Nat.le_of_ble_eq_true rfl⟩ (⟨rfl, ⟨x, hX⟩, hF⟩)
        · exact absurd c15 (by omega)
      · intro x h hX hF l3 l4
        obtain ⟨h0, h1, hgl, h2, hgw, h3, h4, h5, h6, hln, hwk, hn', hlen⟩ := id hX
        have hA := hln k (by omega)
        have hB := hln (4 + k) (by omega)
        have lb := hA.1
        have hla := la_in x.1 (j := k) (by omega)
        refine v_iload_n dX2_copy_13 rfl rfl ?_
        refine v_iconst (v := nI 4) dX2_copy_14 (by decide) rfl ?_
        refine v_icmp_geN (tgt := 85) dX2_copy_15 (by decide) rfl (by omega) (by omega) (fun c15 => ?_) (fun c15 => ?_)
        · exact absurd c15 (by omega)
        · refine v_aload_n dX2_copy_18 rfl rfl ?_
          refine v_getf dX2_copy_19 fl_X2_11 (by first | assumption | exact set_get (by assumption) | exact set_get (set_get (by assumption))) (by rfl) rfl ?_
          refine v_iload_n dX2_copy_22 rfl rfl ?_
          refine v_aaldL _ dX2_copy_23 (by first | assumption | exact set_get (by assumption) | exact set_get (set_get (by assumption))) rfl (by omega) (by decide) (by rw [hgl _ (by omega)]) rfl ?_
          refine v_astore_n dX2_copy_24 (Nat.le_of_ble_eq_true rfl) rfl ?_
          refine v_aload_n dX2_copy_25 rfl rfl ?_
          refine v_getf dX2_copy_26 fl_X2_11 (by first | assumption | exact set_get (by assumption) | exact set_get (set_get (by assumption))) (by rfl) rfl ?_
          refine v_iconst (v := nI 4) dX2_copy_29 (by decide) rfl ?_
          refine v_iload_n dX2_copy_30 rfl rfl ?_
          refine v_iaddN dX2_copy_31 rfl ?_
          refine v_aaldL _ dX2_copy_32 (by first | assumption | exact set_get (by assumption) | exact set_get (set_get (by assumption))) rfl (by omega) (by decide) (by rw [hgl _ (by omega)]) rfl ?_
          refine v_astore dX2_copy_33 (Nat.le_of_ble_eq_true rfl) rfl ?_
          refine v_iload_n dX2_copy_35 rfl rfl ?_
          refine v_if_ne (tgt := 48) dX2_copy_36 (by decide) rfl (fun _ => ?_) (fun q => absurd q (by decide))
          refine v_iload_n dX2_copy_48 rfl rfl ?_
          refine v_iconst (v := nI 1) dX2_copy_49 (by decide) rfl ?_
          refine v_icmp_ne (tgt := 62) dX2_copy_50 (by decide) rfl (fun q => absurd (by decide) q) (fun _ => ?_)
          refine v_aload_n dX2_copy_53 rfl rfl ?_
          refine v_aload dX2_copy_54 rfl rfl ?_
          refine v_cv dX2_copy_56 cw_X2_171 ⟨tn_X0_becomeAs, tl_X0_becomeAs⟩ rfl (by first | assumption | exact set_get (by assumption) | exact set_get (set_get (by assumption))) (c_becomeAs G h hA hB (la_apart x.1 (by omega) (by omega) (by omega))) (by rfl) (by rfl) (Nat.le_of_ble_eq_true rfl) (Nat.le_of_ble_eq_true rfl) (Nat.le_of_ble_eq_true rfl) (Nat.le_of_ble_eq_true rfl) (Nat.le_of_ble_eq_true rfl) rfl ?_
          rintro r h' ⟨rfl, hL', hf', hl'⟩
          refine v_goto (tgt := 79) dX2_copy_59 (by decide) ?_
          refine v_iinc1 dX2_copy_79 rfl (Nat.le_of_ble_eq_true rfl) rfl ?_
          refine v_goto (tgt := 13) dX2_copy_82 (by decide) ?_
          exact ih x h' (hX.beS (by omega) (by omega) hL' hf' hl') (hF.trans (fun i q1 q2 => hf' i (by omega))) _ _
    refine v_iload_n dX2_copy_0 rfl rfl ?_
    refine v_iconst (v := nI 3) dX2_copy_1 (by decide) rfl ?_
    refine v_csf dX2_copy_2 cw_X2_49 ts_X2_isBelow ((c_isBelow G hp (nI 1) 3).yes (by decide)) (by rfl) (by rfl) (Nat.le_of_ble_eq_true rfl) (Nat.le_of_ble_eq_true rfl) (Nat.le_of_ble_eq_true rfl) (Nat.le_of_ble_eq_true rfl) (Nat.le_of_ble_eq_true rfl) rfl ?_
    refine v_if_ne (tgt := 11) dX2_copy_5 (by decide) rfl (fun _ => ?_) (fun q => absurd q (by decide))
    refine v_iconst (v := nI 0) dX2_copy_11 (by decide) rfl ?_
    refine v_istore_n dX2_copy_12 (Nat.le_of_ble_eq_true rfl) rfl ?_
    exact key 0 (Nat.zero_le _) x hp hX FrX.rf _ _
  · obtain ⟨h0, h1, hgl, h2, hgw, h3, h4, h5, h6, hln, hwk, hn, hlen⟩ := hX
    have key : ∀ k, k ≤ 4 → ∀ gl : Nat → Option Nat, (∀ j, j < 8 → gl j = some (G.2.2.2 + la (if j % 4 < k then !x.1 else x.1) j)) → ∀ l3 l4 : Option Value, Vm G mX2_copy 1 0 0 (QX G hp (nI 1) (cpS s 2)) 13 [some (.ref (G.2.2.2 + 0)), some (.int (nI 2)), some (.int (nI k)), l3, l4] [] (hp.set 1 (aL G 8 gl)) 0 0 := by
      refine loop_up ?_ (fun k hk ih => ?_)
      · intro gl hq l3 l4
        have g1 := set_get (e' := aL G 8 gl) h1
        refine v_iload_n dX2_copy_13 rfl rfl ?_
        refine v_iconst (v := nI 4) dX2_copy_14 (by decide) rfl ?_
        refine v_icmp_geN (tgt := 85) dX2_copy_15 (by decide) rfl (by omega) (by omega) (fun c15 => ?_) (fun c15 => ?_)
        · refine v_iconst (v := nI 1) dX2_copy_85 (by decide) rfl ?_
          exact v_iret dX2_copy_86 rfl ⟨Nat.le_of_ble_eq_true rfl, Nat.le_of_ble_eq_true rfl⟩ (⟨rfl, ⟨(!x.1, gl, x.2.2), (set_ne (by decide)).trans h0, g1, fun j hj => by have := hq j hj; rwa [if_pos (by omega)] at this, (set_ne (by decide)).trans h2, hgw, (set_ne (by decide)).trans h3, (set_ne (by decide)).trans h4, (set_ne (by decide)).trans h5, (set_ne (by decide)).trans h6, fun j hj => by
                      show LN G _ (la (!x.1) j) (s.kd (sj j)) (s.fc (sj j)) (s.wt (sj j)) (s.fr (sj j)) (s.to (sj j))
                      rw [la_not x.1 hj]
                      have hs : sj j < 8 := by unfold sj; split <;> omega
                      exact (hln (sj j) hs).frame (fun i q1 q2 => set_ne (by have := la_in x.1 hs; omega)), fun w hw => (hwk w hw).frame (fun i q1 q2 => set_ne (by omega)), hn, by rw [List.length_set]; exact hlen⟩, FrX.rf.set (by omega)⟩)
        · exact absurd c15 (by omega)
      · intro gl hq l3 l4
        have g0 : (hp.set 1 (aL G 8 gl))[0]? = _ := (set_ne (by decide)).trans h0
        have g1 := set_get (e' := aL G 8 gl) h1
        have la1 := la_in x.1 (j := k) (by omega)
        have la2 := la_in x.1 (j := 4 + k) (by omega)
        have e1 : gl k = some (G.2.2.2 + la x.1 k) := by have := hq k (by omega); rwa [if_neg (by omega)] at this
        have e2 : gl (4 + k) = some (G.2.2.2 + la x.1 (4 + k)) := by have := hq (4 + k) (by omega); rwa [if_neg (by omega)] at this
        have v1 := (set_ne (e := aL G 8 gl) (show la x.1 k ≠ 1 by omega)).trans (hln k (by omega)).1
        have v2 := (set_ne (e := aL G 8 gl) (show la x.1 (4 + k) ≠ 1 by omega)).trans (hln (4 + k) (by omega)).1
        have n1 : la (!x.1) k = la x.1 (4 + k) := by rw [la_not x.1 (by omega), sj, if_pos (by omega), Nat.add_comm]
        have n2 : la (!x.1) (4 + k) = la x.1 k := by rw [la_not x.1 (by omega), sj, if_neg (by omega)]; congr 1; omega
        refine v_iload_n dX2_copy_13 rfl rfl ?_
        refine v_iconst (v := nI 4) dX2_copy_14 (by decide) rfl ?_
        refine v_icmp_geN (tgt := 85) dX2_copy_15 (by decide) rfl (by omega) (by omega) (fun c15 => ?_) (fun c15 => ?_)
        · exact absurd c15 (by omega)
        · refine v_aload_n dX2_copy_18 rfl rfl ?_
          refine v_getf dX2_copy_19 fl_X2_11 (by first | assumption | exact set_get (by assumption) | exact set_get (set_get (by assumption))) (by rfl) rfl ?_
          refine v_iload_n dX2_copy_22 rfl rfl ?_
          refine v_aaldL _ dX2_copy_23 (by first | assumption | exact set_get (by assumption) | exact set_get (set_get (by assumption))) rfl (by omega) (by decide) (by rw [e1]) rfl ?_
          refine v_astore_n dX2_copy_24 (Nat.le_of_ble_eq_true rfl) rfl ?_
          refine v_aload_n dX2_copy_25 rfl rfl ?_
          refine v_getf dX2_copy_26 fl_X2_11 (by first | assumption | exact set_get (by assumption) | exact set_get (set_get (by assumption))) (by rfl) rfl ?_
          refine v_iconst (v := nI 4) dX2_copy_29 (by decide) rfl ?_
          refine v_iload_n dX2_copy_30 rfl rfl ?_
          refine v_iaddN dX2_copy_31 rfl ?_
          refine v_aaldL _ dX2_copy_32 (by first | assumption | exact set_get (by assumption) | exact set_get (set_get (by assumption))) rfl (by omega) (by decide) (by rw [e2]) rfl ?_
          refine v_astore dX2_copy_33 (Nat.le_of_ble_eq_true rfl) rfl ?_
          refine v_iload_n dX2_copy_35 rfl rfl ?_
          refine v_if_ne (tgt := 48) dX2_copy_36 (by decide) rfl (fun _ => ?_) (fun q => absurd q (by decide))
          refine v_iload_n dX2_copy_48 rfl rfl ?_
          refine v_iconst (v := nI 1) dX2_copy_49 (by decide) rfl ?_
          refine v_icmp_ne (tgt := 62) dX2_copy_50 (by decide) rfl (fun _ => ?_) (fun q => absurd q (by decide))
          refine v_aload_n dX2_copy_62 rfl rfl ?_
          refine v_getf dX2_copy_63 fl_X2_11 (by first | assumption | exact set_get (by assumption) | exact set_get (set_get (by assumption))) (by rfl) rfl ?_
          refine v_iload_n dX2_copy_66 rfl rfl ?_
          refine v_aload dX2_copy_67 rfl rfl ?_
          refine v_aastL _ dX2_copy_69 (by first | assumption | exact set_get (by assumption) | exact set_get (set_get (by assumption))) (by assumption) rfl (by omega) (by decide) rfl ?_
          refine v_aload_n dX2_copy_70 rfl rfl ?_
          refine v_getf dX2_copy_71 fl_X2_11 ((set_ne (by decide)).trans g0) (by rfl) rfl ?_
          refine v_iconst (v := nI 4) dX2_copy_74 (by decide) rfl ?_
          refine v_iload_n dX2_copy_75 rfl rfl ?_
          refine v_iaddN dX2_copy_76 rfl ?_
          refine v_aload_n dX2_copy_77 rfl rfl ?_
          refine v_aastL _ dX2_copy_78 (by first | assumption | exact set_get (by assumption) | exact set_get (set_get (by assumption))) ((set_ne (by omega)).trans v1) rfl (by omega) (by decide) rfl ?_
          refine v_iinc1 dX2_copy_79 rfl (Nat.le_of_ble_eq_true rfl) rfl ?_
          refine v_goto (tgt := 13) dX2_copy_82 (by decide) ?_
          refine v_hp (List.set_set ..) (v_hp (List.set_set ..) ?_)
          exact ih _ (fun j hj => by
                      by_cases j1 : j = 4 + k
                      · subst j1
                        rw [if_pos (by omega), n2]
                        exact if_pos rfl
                      · rw [show va_up (va_up gl k (some (G.2.2.2 + la x.1 (4 + k)))) (4 + k) (some (G.2.2.2 + la x.1 k)) j = va_up gl k (some (G.2.2.2 + la x.1 (4 + k))) j from if_neg j1]
                        by_cases j2 : j = k
                        · subst j2
                          rw [if_pos (by omega), n1]
                          exact if_pos rfl
                        · rw [show va_up gl k (some (G.2.2.2 + la x.1 (4 + k))) j = gl j from if_neg j2, hq j hj]
                          by_cases j3 : j % 4 < k
                          · rw [if_pos j3, if_pos (by omega)]
                          · rw [if_neg j3, if_neg (by omega)]) _ _
    refine v_iload_n dX2_copy_0 rfl rfl ?_
    refine v_iconst (v := nI 3) dX2_copy_1 (by decide) rfl ?_
    refine v_csf dX2_copy_2 cw_X2_49 ts_X2_isBelow ((c_isBelow G hp (nI 2) 3).yes (by decide)) (by rfl) (by rfl) (Nat.le_of_ble_eq_true rfl) (Nat.le_of_ble_eq_true rfl) (Nat.le_of_ble_eq_true rfl) (Nat.le_of_ble_eq_true rfl) (Nat.le_of_ble_eq_true rfl) rfl ?_
    refine v_if_ne (tgt := 11) dX2_copy_5 (by decide) rfl (fun _ => ?_) (fun q => absurd q (by decide))
    refine v_iconst (v := nI 0) dX2_copy_11 (by decide) rfl ?_
    refine v_istore_n dX2_copy_12 (Nat.le_of_ble_eq_true rfl) rfl ?_
    exact v_hp (set_same h1).symm (key 0 (Nat.zero_le _) _ (fun j hj => by rw [if_neg (by omega)]; exact hgl j hj) _ _)
theorem x_copy_n {y : Int32} (h : ¬ InR y 3) : Ct G mX2_copy 1 0 0 [.ref (G.2.2.2 + 0), .int y] hp (Qf (some (.int (-100))) hp) := by
  refine Ct.start 3 (by decide) rfl (Nat.le_of_ble_eq_true rfl) ?_
  refine v_iload_n dX2_copy_0 rfl rfl ?_
  refine v_iconst (v := nI 3) dX2_copy_1 (by decide) rfl ?_
  refine v_csf dX2_copy_2 cw_X2_49 ts_X2_isBelow ((c_isBelow G hp y 3).no h) (by rfl) (by rfl) (Nat.le_of_ble_eq_true rfl) (Nat.le_of_ble_eq_true rfl) (Nat.le_of_ble_eq_true rfl) (Nat.le_of_ble_eq_true rfl) (Nat.le_of_ble_eq_true rfl) rfl ?_
  refine v_if_ne (tgt := 11) dX2_copy_5 (by decide) rfl (fun q => absurd (by decide) q) (fun _ => ?_)
  refine v_bipush (v := (-100)) dX2_copy_8 (by decide) rfl ?_
  exact v_iret dX2_copy_10 rfl ⟨Nat.le_of_ble_eq_true rfl, Nat.le_of_ble_eq_true rfl⟩ (⟨rfl, rfl⟩)
end FACE3

