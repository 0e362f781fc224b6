/-! THE STATE, AND WHAT THE HEAP HOLDS OF IT: the class (places 0 .. 30, and from 42 on a WORK's three cells), the reference (places 31 .. 41) -/
abbrev ST : Type := (Nat → Int32) × (Nat → Int32) × (Nat → Int32) × (Nat → Nat → Int32) × (Nat → Nat → Int32) × Nat × (Nat → Nat → Int32) × (Nat → Nat → Int32) × (Nat → Int32) × Int64
def ST.kd (s : ST) : Nat → Int32 := s.1
def ST.fc (s : ST) : Nat → Int32 := s.2.1
def ST.wt (s : ST) : Nat → Int32 := s.2.2.1
def ST.fr (s : ST) : Nat → Nat → Int32 := s.2.2.2.1
def ST.to (s : ST) : Nat → Nat → Int32 := s.2.2.2.2.1
def ST.n (s : ST) : Nat := s.2.2.2.2.2.1
def ST.wf (s : ST) : Nat → Nat → Int32 := s.2.2.2.2.2.2.1
def ST.mr (s : ST) : Nat → Nat → Int32 := s.2.2.2.2.2.2.2.1
def ST.tr (s : ST) : Nat → Int32 := s.2.2.2.2.2.2.2.2.1
def ST.tc (s : ST) : Int64 := s.2.2.2.2.2.2.2.2.2
abbrev XT : Type := Bool × (Nat → Option Nat) × (Nat → Option Nat) × (Nat → Int32) × (Nat → Int32) × (Nat → Int32) × (Nat → Int32)
def la (sw : Bool) (j : Nat) : Nat := if sw then (if j < 4 then 19 + 3 * j else 3 * j - 5) else 7 + 3 * j
def PX (G : GG) (s : ST) (x : XT) (hp : List va_E) : Prop :=
  hp[0]? = some (ob 2 [.ref (G.2.2.2 + 1), .ref (G.2.2.2 + 2), .int (nI s.n), .long s.tc, .ref (G.2.2.2 + 3), .ref (G.2.2.2 + 4), .ref (G.2.2.2 + 5), .ref (G.2.2.2 + 6)]) ∧
  hp[1]? = some (aL G 8 x.2.1) ∧ (∀ j, j < 8 → x.2.1 j = some (G.2.2.2 + la x.1 j)) ∧
  hp[2]? = some (aW G 12 x.2.2.1) ∧ (∀ w, w < s.n → x.2.2.1 w = some (G.2.2.2 + (42 + 3 * w))) ∧
  hp[3]? = some (aI G 6 x.2.2.2.1) ∧ hp[4]? = some (aI G 4 x.2.2.2.2.1) ∧ hp[5]? = some (aI G 12 x.2.2.2.2.2.1) ∧ hp[6]? = some (aI G 12 x.2.2.2.2.2.2) ∧
  (∀ j, j < 8 → LN G hp (la x.1 j) (s.kd j) (s.fc j) (s.wt j) (s.fr j) (s.to j)) ∧
  (∀ w, w < s.n → WK G hp (42 + 3 * w) (s.wf w) (s.mr w) (s.tr w)) ∧
  s.n ≤ 12 ∧ hp.length = 42 + 3 * s.n
section CLASS1
variable (G : GG) (hp : List va_E) {s : ST} {x : XT}
theorem c_lineAt (hX : PX G s x hp) {a b : Nat} (ha : a < 2) (hb : b < 4) : Ct G mX2_lineAt 1 0 0 [.ref (G.2.2.2 + 0), .int (nI a), .int (nI b)] hp (Qf (some (.ref (G.2.2.2 + la x.1 (a * 4 + b)))) hp) := by
  obtain ⟨h0, h1, hgl, h2, hgw, h3, h4, h5, h6, hln, hwk, hn, hlen⟩ := hX
  refine Ct.start 0 (by decide) rfl (Nat.le_of_ble_eq_true rfl) ?_
  refine v_iload_n dX2_lineAt_0 rfl rfl ?_
  refine v_iconst (v := nI 2) dX2_lineAt_1 (by decide) rfl ?_
  refine v_csf dX2_lineAt_2 cw_X2_49 ts_X2_isBelow ((c_isBelow G hp (nI a) 2).yes (inR_nI ha (by decide))) (by rfl) (by rfl) (Nat.le_of_ble_eq_true rfl) (Nat.le_of_ble_eq_true rfl) (Nat.le_of_ble_eq_true rfl) (Nat.le_of_ble_eq_true rfl) (Nat.le_of_ble_eq_true rfl) rfl ?_
  refine v_if_eq (tgt := 29) dX2_lineAt_5 (by decide) rfl (fun q => absurd q (by decide)) (fun _ => ?_)
  refine v_iload_n dX2_lineAt_8 rfl rfl ?_
  refine v_iconst (v := nI 4) dX2_lineAt_9 (by decide) rfl ?_
  refine v_csf dX2_lineAt_10 cw_X2_49 ts_X2_isBelow ((c_isBelow G hp (nI b) 4).yes (inR_nI hb (by decide))) (by rfl) (by rfl) (Nat.le_of_ble_eq_true rfl) (Nat.le_of_ble_eq_true rfl) (Nat.le_of_ble_eq_true rfl) (Nat.le_of_ble_eq_true rfl) (Nat.le_of_ble_eq_true rfl) rfl ?_
  refine v_if_eq (tgt := 29) dX2_lineAt_13 (by decide) rfl (fun q => absurd q (by decide)) (fun _ => ?_)
  refine v_aload_n dX2_lineAt_16 rfl rfl ?_
  refine v_getf dX2_lineAt_17 fl_X2_11 (by assumption) (by rfl) rfl ?_
  refine v_iload_n dX2_lineAt_20 rfl rfl ?_
  refine v_iconst (v := nI 4) dX2_lineAt_21 (by decide) rfl ?_
  refine v_imulN dX2_lineAt_22 rfl ?_
  refine v_iload_n dX2_lineAt_23 rfl rfl ?_
  refine v_iaddN dX2_lineAt_24 rfl ?_
  refine v_aaldL _ dX2_lineAt_25 (by assumption) rfl (by omega) (by decide) (by rw [hgl _ (by omega)]) rfl ?_
  refine v_goto (tgt := 30) dX2_lineAt_26 (by decide) ?_
  exact v_aret dX2_lineAt_30 rfl (Or.inr ⟨_, rfl⟩) ⟨Nat.le_of_ble_eq_true rfl, Nat.le_of_ble_eq_true rfl⟩ (⟨rfl, rfl⟩)
theorem c_lineAt_no {y z : Int32} (h : ¬ (InR y 2 ∧ InR z 4)) : Ct G mX2_lineAt 1 0 0 [.ref (G.2.2.2 + 0), .int y, .int z] hp (Qf (some .null) hp) := by
  refine Ct.start 0 (by decide) rfl (Nat.le_of_ble_eq_true rfl) ?_
  refine v_iload_n dX2_lineAt_0 rfl rfl ?_
  refine v_iconst (v := nI 2) dX2_lineAt_1 (by decide) rfl ?_
  by_cases q2 : InR y 2
  · refine v_csf dX2_lineAt_2 cw_X2_49 ts_X2_isBelow ((c_isBelow G hp y 2).yes ‹_›) (by rfl) (by rfl) (Nat.le_of_ble_eq_true rfl) (Nat.le_of_ble_eq_true rfl) (Nat.le_of_ble_eq_true rfl) (Nat.le_of_ble_eq_true rfl) (Nat.le_of_ble_eq_true rfl) rfl ?_
    refine v_if_eq (tgt := 29) dX2_lineAt_5 (by decide) rfl (fun q => absurd q (by decide)) (fun _ => ?_)
    refine v_iload_n dX2_lineAt_8 rfl rfl ?_
    refine v_iconst (v := nI 4) dX2_lineAt_9 (by decide) rfl ?_
    refine v_csf dX2_lineAt_10 cw_X2_49 ts_X2_isBelow ((c_isBelow G hp z 4).no (fun q => h ⟨‹_›, q⟩)) (by rfl) (by rfl) (Nat.le_of_ble_eq_true rfl) (Nat.le_of_ble_eq_true rfl) (Nat.le_of_ble_eq_true rfl) (Nat.le_of_ble_eq_true rfl) (Nat.le_of_ble_eq_true rfl) rfl ?_
    refine v_if_eq (tgt := 29) dX2_lineAt_13 (by decide) rfl (fun _ => ?_) (fun q => absurd (by decide) q)
    refine v_null dX2_lineAt_29 rfl ?_
    exact v_aret dX2_lineAt_30 rfl (Or.inl rfl) ⟨Nat.le_of_ble_eq_true rfl, Nat.le_of_ble_eq_true rfl⟩ (⟨rfl, rfl⟩)
  · refine v_csf dX2_lineAt_2 cw_X2_49 ts_X2_isBelow ((c_isBelow G hp y 2).no ‹_›) (by rfl) (by rfl) (Nat.le_of_ble_eq_true rfl) (Nat.le_of_ble_eq_true rfl) (Nat.le_of_ble_eq_true rfl) (Nat.le_of_ble_eq_true rfl) (Nat.le_of_ble_eq_true rfl) rfl ?_
    refine v_if_eq (tgt := 29) dX2_lineAt_5 (by decide) rfl (fun _ => ?_) (fun q => absurd (by decide) q)
    refine v_null dX2_lineAt_29 rfl ?_
    exact v_aret dX2_lineAt_30 rfl (Or.inl rfl) ⟨Nat.le_of_ble_eq_true rfl, Nat.le_of_ble_eq_true rfl⟩ (⟨rfl, rfl⟩)
theorem c_workAt (hX : PX G s x hp) {w : Nat} (hw : w < s.n) : Ct G mX2_workAt 1 0 0 [.ref (G.2.2.2 + 0), .int (nI w)] hp (Qf (some (.ref (G.2.2.2 + (42 + 3 * w)))) hp) := by
  obtain ⟨h0, h1, hgl, h2, hgw, h3, h4, h5, h6, hln, hwk, hn, hlen⟩ := hX
  refine Ct.start 0 (by decide) rfl (Nat.le_of_ble_eq_true rfl) ?_
  refine v_iload_n dX2_workAt_0 rfl rfl ?_
  refine v_aload_n dX2_workAt_1 rfl rfl ?_
  refine v_getf dX2_workAt_2 fl_X2_21 (by assumption) (by rfl) rfl ?_
  refine v_csf dX2_workAt_5 cw_X2_49 ts_X2_isBelow ((c_isBelow G hp (nI w) s.n).yes (inR_nI hw (by omega))) (by rfl) (by rfl) (Nat.le_of_ble_eq_true rfl) (Nat.le_of_ble_eq_true rfl) (Nat.le_of_ble_eq_true rfl) (Nat.le_of_ble_eq_true rfl) (Nat.le_of_ble_eq_true rfl) rfl ?_
  refine v_if_eq (tgt := 20) dX2_workAt_8 (by decide) rfl (fun q => absurd q (by decide)) (fun _ => ?_)
  refine v_aload_n dX2_workAt_11 rfl rfl ?_
  refine v_getf dX2_workAt_12 fl_X2_17 (by assumption) (by rfl) rfl ?_
  refine v_iload_n dX2_workAt_15 rfl rfl ?_
  refine v_aaldW _ dX2_workAt_16 (by assumption) rfl (by omega) (by decide) (by rw [hgw _ (by omega)]) rfl ?_
  refine v_goto (tgt := 21) dX2_workAt_17 (by decide) ?_
  exact v_aret dX2_workAt_21 rfl (Or.inr ⟨_, rfl⟩) ⟨Nat.le_of_ble_eq_true rfl, Nat.le_of_ble_eq_true rfl⟩ (⟨rfl, rfl⟩)
theorem c_workAt_no (hX : PX G s x hp) {y : Int32} (h : ¬ InR y s.n) : Ct G mX2_workAt 1 0 0 [.ref (G.2.2.2 + 0), .int y] hp (Qf (some .null) hp) := by
  obtain ⟨h0, h1, hgl, h2, hgw, h3, h4, h5, h6, hln, hwk, hn, hlen⟩ := hX
  refine Ct.start 0 (by decide) rfl (Nat.le_of_ble_eq_true rfl) ?_
  refine v_iload_n dX2_workAt_0 rfl rfl ?_
  refine v_aload_n dX2_workAt_1 rfl rfl ?_
  refine v_getf dX2_workAt_2 fl_X2_21 (by assumption) (by rfl) rfl ?_
  refine v_csf dX2_workAt_5 cw_X2_49 ts_X2_isBelow ((c_isBelow G hp y s.n).no h) (by rfl) (by rfl) (Nat.le_of_ble_eq_true rfl) (Nat.le_of_ble_eq_true rfl) (Nat.le_of_ble_eq_true rfl) (Nat.le_of_ble_eq_true rfl) (Nat.le_of_ble_eq_true rfl) rfl ?_
  refine v_if_eq (tgt := 20) dX2_workAt_8 (by decide) rfl (fun _ => ?_) (fun q => absurd (by decide) q)
  refine v_null dX2_workAt_20 rfl ?_
  exact v_aret dX2_workAt_21 rfl (Or.inl rfl) ⟨Nat.le_of_ble_eq_true rfl, Nat.le_of_ble_eq_true rfl⟩ (⟨rfl, rfl⟩)
/-- a state's bounds -/
def Inv (s : ST) : Prop := (∀ j, j < 8 → InR (s.kd j) 3 ∧ InR (s.fc j) 4 ∧ InR (s.wt j) 10) ∧ (∀ w, w < s.n → ∀ m, m < 3 → (s.mr w m = -900 ∨ InR (s.mr w m) 4)) ∧ (∀ w, w < s.n → (s.tr w = -900 ∨ InR (s.tr w) 4)) ∧ s.n ≤ 12
theorem fc_of {s : ST} (hI : Inv s) {j : Nat} (hj : j < 8) : ∃ c, c < 4 ∧ s.fc j = nI c ∧ (s.fc j).toNatClampNeg = c := by
  obtain ⟨c, hc, e⟩ := inR_of (by decide) (hI.1 j hj).2.1
  exact ⟨c, hc, e, by rw [e]; exact nI_clamp (by omega)⟩
/-- the LEVEL of a LINE for a WORK -/
def lvW (s : ST) (j w : Nat) : Option Nat := levelO (s.kd j) (s.fr j) (s.to j) (s.wf w (s.fc j).toNatClampNeg)
/-- POINTS of the first k LINES of a SHEET -/
def ptsI (s : ST) (sh w : Nat) : Nat → Int32
  | 0 => nI 0
  | k + 1 => if oI (lvW s (sh * 4 + k) w) = -900 then ptsI s sh w k else ptsI s sh w k + s.wt (sh * 4 + k) * oI (lvW s (sh * 4 + k) w)
theorem ptsI_t {s : ST} {sh w k : Nat} (h : oI (lvW s (sh * 4 + k) w) = -900) : ptsI s sh w (k + 1) = ptsI s sh w k := if_pos h
theorem ptsI_f {s : ST} {sh w k : Nat} (h : ¬ oI (lvW s (sh * 4 + k) w) = -900) : ptsI s sh w (k + 1) = ptsI s sh w k + s.wt (sh * 4 + k) * oI (lvW s (sh * 4 + k) w) := if_neg h
theorem c_pointsBy (hX : PX G s x hp) (hI : Inv s) {sh w : Nat} (hs : sh < 2) (hw : w < s.n) : Ct G mX2_pointsBy 5 0 0 [.ref (G.2.2.2 + 0), .int (nI sh), .ref (G.2.2.2 + (42 + 3 * w))] hp (Qf (some (.int (ptsI s sh w 4))) hp) := by
  obtain ⟨h0, h1, hgl, h2, hgw, h3, h4, h5, h6, hln, hwk, hn, hlen⟩ := hX
  obtain ⟨k1, k2, k3⟩ := hwk w hw
  have key : ∀ k, k ≤ 4 → ∀ (l5 l6 : Option Value), Vm G mX2_pointsBy 5 0 0 (Qf (some (.int (ptsI s sh w 4))) hp) 5 [some (.ref (G.2.2.2 + 0)), some (.int (nI sh)), some (.ref (G.2.2.2 + (42 + 3 * w))), some (.int (ptsI s sh w k)), some (.int (nI k)), l5, l6] [] hp 0 0 := by
    refine loop_up ?_ (fun k hk ih => ?_)
    · intro l5 l6
      refine v_iload dX2_pointsBy_5 rfl rfl ?_
      refine v_iconst (v := nI 4) dX2_pointsBy_7 (by decide) rfl ?_
      refine v_icmp_geN (tgt := 66) dX2_pointsBy_8 (by decide) rfl (by omega) (by omega) (fun c8 => ?_) (fun c8 => ?_)
      · refine v_iload_n dX2_pointsBy_66 rfl rfl ?_
        exact v_iret dX2_pointsBy_67 rfl ⟨Nat.le_of_ble_eq_true rfl, Nat.le_of_ble_eq_true rfl⟩ (⟨rfl, rfl⟩)
      · exact absurd c8 (by omega)
    · intro l5 l6
      have hL := hln (sh * 4 + k) (by omega)
      obtain ⟨l1, l2, l3⟩ := hln (sh * 4 + k) (by omega)
      obtain ⟨fc, hfc, efc, ec⟩ := fc_of hI (j := sh * 4 + k) (by omega)
      have hlv : oI (levelO (s.kd (sh * 4 + k)) (s.fr (sh * 4 + k)) (s.to (sh * 4 + k)) (s.wf w fc)) = oI (lvW s (sh * 4 + k) w) := by rw [lvW, ec]
      refine v_iload dX2_pointsBy_5 rfl rfl ?_
      refine v_iconst (v := nI 4) dX2_pointsBy_7 (by decide) rfl ?_
      refine v_icmp_geN (tgt := 66) dX2_pointsBy_8 (by decide) rfl (by omega) (by omega) (fun c8 => ?_) (fun c8 => ?_)
      · exact absurd c8 (by omega)
      · refine v_aload_n dX2_pointsBy_11 rfl rfl ?_
        refine v_getf dX2_pointsBy_12 fl_X2_11 (by assumption) (by rfl) rfl ?_
        refine v_iload_n dX2_pointsBy_15 rfl rfl ?_
        refine v_iconst (v := nI 4) dX2_pointsBy_16 (by decide) rfl ?_
        refine v_imulN dX2_pointsBy_17 rfl ?_
        refine v_iload dX2_pointsBy_18 rfl rfl ?_
        refine v_iaddN dX2_pointsBy_20 rfl ?_
        refine v_aaldL _ dX2_pointsBy_21 (by assumption) rfl (by omega) (by decide) (by rw [hgl _ (by omega)]) rfl ?_
        refine v_astore dX2_pointsBy_22 (Nat.le_of_ble_eq_true rfl) rfl ?_
        refine v_aload dX2_pointsBy_24 rfl rfl ?_
        refine v_aload_n dX2_pointsBy_26 rfl rfl ?_
        refine v_getf dX2_pointsBy_27 fl_X2_96 (by assumption) (by rfl) rfl ?_
        refine v_aload dX2_pointsBy_30 rfl rfl ?_
        refine v_getf dX2_pointsBy_32 fl_X2_59 (by assumption) (by rfl) rfl ?_
        refine v_iald fc dX2_pointsBy_35 (by assumption) efc hfc (by decide) rfl ?_
        refine v_cvf dX2_pointsBy_36 cw_X2_75 ⟨tn_X0_levelFor, tl_X0_levelFor⟩ rfl (by assumption) ((c_levelFor G hp hL (s.wf w fc)).is hlv) (by rfl) (by rfl) (Nat.le_of_ble_eq_true rfl) (Nat.le_of_ble_eq_true rfl) (Nat.le_of_ble_eq_true rfl) (Nat.le_of_ble_eq_true rfl) (Nat.le_of_ble_eq_true rfl) rfl ?_
        refine v_istore dX2_pointsBy_39 (Nat.le_of_ble_eq_true rfl) rfl ?_
        refine v_iload dX2_pointsBy_41 rfl rfl ?_
        refine v_sipush (v := (-900)) dX2_pointsBy_43 (by decide) rfl ?_
        refine v_icmp_eq (tgt := 60) dX2_pointsBy_46 (by decide) rfl (fun c46 => ?_) (fun c46 => ?_)
        · refine v_iinc1 dX2_pointsBy_60 rfl (Nat.le_of_ble_eq_true rfl) rfl ?_
          refine v_goto (tgt := 5) dX2_pointsBy_63 (by decide) ?_
          first | (rw [ptsI_t (k := k) ‹_›] at ih; exact ih _ _) | (rw [ptsI_f (k := k) ‹_›] at ih; exact ih _ _)
        · refine v_iload_n dX2_pointsBy_49 rfl rfl ?_
          refine v_aload dX2_pointsBy_50 rfl rfl ?_
          refine v_getf dX2_pointsBy_52 fl_X2_62 (by assumption) (by rfl) rfl ?_
          refine v_iload dX2_pointsBy_55 rfl rfl ?_
          refine v_imul dX2_pointsBy_57 rfl ?_
          refine v_iadd dX2_pointsBy_58 rfl ?_
          refine v_istore_n dX2_pointsBy_59 (Nat.le_of_ble_eq_true rfl) rfl ?_
          refine v_iinc1 dX2_pointsBy_60 rfl (Nat.le_of_ble_eq_true rfl) rfl ?_
          refine v_goto (tgt := 5) dX2_pointsBy_63 (by decide) ?_
          first | (rw [ptsI_t (k := k) ‹_›] at ih; exact ih _ _) | (rw [ptsI_f (k := k) ‹_›] at ih; exact ih _ _)
  refine Ct.start 4 (by decide) rfl (Nat.le_of_ble_eq_true rfl) ?_
  refine v_iconst (v := nI 0) dX2_pointsBy_0 (by decide) rfl ?_
  refine v_istore_n dX2_pointsBy_1 (Nat.le_of_ble_eq_true rfl) rfl ?_
  refine v_iconst (v := nI 0) dX2_pointsBy_2 (by decide) rfl ?_
  refine v_istore dX2_pointsBy_3 (Nat.le_of_ble_eq_true rfl) rfl ?_
  exact key 0 (by decide) _ _
end CLASS1

