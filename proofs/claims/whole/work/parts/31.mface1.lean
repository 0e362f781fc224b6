-- LOOK: by first | assumption | exact set_get (by assumption) | exact (set_ne (by decide)).trans (by assumption)
/-! THE REFERENCE'S FACE: what a write leaves; lines, works, marks, anchors -/
abbrev obj3 (G : GG) (n : Nat) (tc : Int64) (os om mn : Int32) : va_E := ob 3 [.ref (G.2.2.2 + 32), .ref (G.2.2.2 + 33), .ref (G.2.2.2 + 34), .ref (G.2.2.2 + 35), .ref (G.2.2.2 + 36), .int (nI n), .ref (G.2.2.2 + 37), .ref (G.2.2.2 + 38), .ref (G.2.2.2 + 39), .long tc, .int os, .int om, .int mn, .ref (G.2.2.2 + 40), .ref (G.2.2.2 + 41)]
/-- the reference's cells, without what they mean -/
def PR (G : GG) (n : Nat) (tc : Int64) (y : YT) (hp : List va_E) : Prop :=
  hp[31]? = some (obj3 G n tc y.2.2.2.1 y.2.2.2.2.1 y.2.2.2.2.2) ∧ hp[32]? = some (aI G 8 y.1.1) ∧ hp[33]? = some (aI G 8 y.1.2.1) ∧ hp[34]? = some (aI G 8 y.1.2.2.1) ∧ hp[35]? = some (aI G 32 y.1.2.2.2.1) ∧ hp[36]? = some (aI G 32 y.1.2.2.2.2) ∧ hp[37]? = some (aI G 48 y.2.1.1) ∧ hp[38]? = some (aI G 36 y.2.1.2.1) ∧ hp[39]? = some (aI G 12 y.2.1.2.2) ∧ hp[40]? = some (aI G 6 y.2.2.1.1) ∧ hp[41]? = some (aI G 6 y.2.2.1.2)
/-- what the reference's rows mean -/
def PP (s : ST) (y : YT) : Prop := (∀ j, j < 8 → y.1.1 j = s.kd j ∧ y.1.2.1 j = s.fc j ∧ y.1.2.2.1 j = s.wt j) ∧ (∀ j, j < 8 → ∀ k, k < 4 → y.1.2.2.2.1 (4 * j + k) = s.fr j k ∧ y.1.2.2.2.2 (4 * j + k) = s.to j k) ∧ (∀ w, w < s.n → ∀ i, i < 4 → y.2.1.1 (4 * w + i) = s.wf w i) ∧ (∀ m, m < 3 → ∀ w, w < 12 → y.2.1.2.1 (12 * m + w) = if w < s.n then s.mr w m else -900) ∧ (∀ w, w < 12 → y.2.1.2.2 w = if w < s.n then s.tr w else -900) ∧ s.n ≤ 12
def FrM (hp h : List va_E) : Prop := (∀ i, (i < 31 ∨ 42 ≤ i) → h[i]? = hp[i]?) ∧ h.length = hp.length
theorem FrM.rf {hp : List va_E} : FrM hp hp := ⟨fun _ _ => rfl, rfl⟩
theorem FrM.set {hp h : List va_E} (hF : FrM hp h) {i : Nat} {e : va_E} (hi : 31 ≤ i ∧ i < 42) : FrM hp (h.set i e) := ⟨fun j hj => (set_ne (by omega)).trans (hF.1 j hj), by rw [List.length_set]; exact hF.2⟩
theorem FrM.trans {a b c : List va_E} (h1 : FrM a b) (h2 : FrM b c) : FrM a c := ⟨fun i q => (h2.1 i q).trans (h1.1 i q), h2.2.trans h1.2⟩
abbrev QM (G : GG) (hp : List va_E) (r0 : Int32) (s : ST) : QQ := fun r h => r = some (.int r0) ∧ (∃ y, PM G s y h) ∧ FrM hp h
section PRS
variable {G : GG} {hp : List va_E} {s : ST} {y : YT} {n : Nat} {tc : Int64}
theorem PM.pr (hM : PM G s y hp) : PR G s.n s.tc y hp := ⟨hM.1, hM.2.1, hM.2.2.1, hM.2.2.2.1, hM.2.2.2.2.1, hM.2.2.2.2.2.1, hM.2.2.2.2.2.2.1, hM.2.2.2.2.2.2.2.1, hM.2.2.2.2.2.2.2.2.1, hM.2.2.2.2.2.2.2.2.2.1, hM.2.2.2.2.2.2.2.2.2.2.1⟩
theorem PM.pp (hM : PM G s y hp) : PP s y := hM.2.2.2.2.2.2.2.2.2.2.2
theorem PM.of (hR : PR G s.n s.tc y hp) (hP : PP s y) : PM G s y hp := ⟨hR.1, hR.2.1, hR.2.2.1, hR.2.2.2.1, hR.2.2.2.2.1, hR.2.2.2.2.2.1, hR.2.2.2.2.2.2.1, hR.2.2.2.2.2.2.2.1, hR.2.2.2.2.2.2.2.2.1, hR.2.2.2.2.2.2.2.2.2.1, hR.2.2.2.2.2.2.2.2.2.2, hP⟩
theorem PR.setK (hR : PR G n tc y hp) (f : Nat → Int32) : PR G n tc ((f, y.1.2), y.2) (hp.set 32 (aI G 8 f)) := by
  obtain ⟨m0, m1, m2, m3, m4, m5, m6, m7, m8, m9, m10⟩ := hR
  exact ⟨(set_ne (by decide)).trans m0, set_get m1, (set_ne (by decide)).trans m2, (set_ne (by decide)).trans m3, (set_ne (by decide)).trans m4, (set_ne (by decide)).trans m5, (set_ne (by decide)).trans m6, (set_ne (by decide)).trans m7, (set_ne (by decide)).trans m8, (set_ne (by decide)).trans m9, (set_ne (by decide)).trans m10⟩
theorem PR.setFc (hR : PR G n tc y hp) (f : Nat → Int32) : PR G n tc ((y.1.1, f, y.1.2.2), y.2) (hp.set 33 (aI G 8 f)) := by
  obtain ⟨m0, m1, m2, m3, m4, m5, m6, m7, m8, m9, m10⟩ := hR
  exact ⟨(set_ne (by decide)).trans m0, (set_ne (by decide)).trans m1, set_get m2, (set_ne (by decide)).trans m3, (set_ne (by decide)).trans m4, (set_ne (by decide)).trans m5, (set_ne (by decide)).trans m6, (set_ne (by decide)).trans m7, (set_ne (by decide)).trans m8, (set_ne (by decide)).trans m9, (set_ne (by decide)).trans m10⟩
theorem PR.setWt (hR : PR G n tc y hp) (f : Nat → Int32) : PR G n tc ((y.1.1, y.1.2.1, f, y.1.2.2.2), y.2) (hp.set 34 (aI G 8 f)) := by
  obtain ⟨m0, m1, m2, m3, m4, m5, m6, m7, m8, m9, m10⟩ := hR
  exact ⟨(set_ne (by decide)).trans m0, (set_ne (by decide)).trans m1, (set_ne (by decide)).trans m2, set_get m3, (set_ne (by decide)).trans m4, (set_ne (by decide)).trans m5, (set_ne (by decide)).trans m6, (set_ne (by decide)).trans m7, (set_ne (by decide)).trans m8, (set_ne (by decide)).trans m9, (set_ne (by decide)).trans m10⟩
theorem PR.setF (hR : PR G n tc y hp) (f : Nat → Int32) : PR G n tc ((y.1.1, y.1.2.1, y.1.2.2.1, f, y.1.2.2.2.2), y.2) (hp.set 35 (aI G 32 f)) := by
  obtain ⟨m0, m1, m2, m3, m4, m5, m6, m7, m8, m9, m10⟩ := hR
  exact ⟨(set_ne (by decide)).trans m0, (set_ne (by decide)).trans m1, (set_ne (by decide)).trans m2, (set_ne (by decide)).trans m3, set_get m4, (set_ne (by decide)).trans m5, (set_ne (by decide)).trans m6, (set_ne (by decide)).trans m7, (set_ne (by decide)).trans m8, (set_ne (by decide)).trans m9, (set_ne (by decide)).trans m10⟩
theorem PR.setT (hR : PR G n tc y hp) (f : Nat → Int32) : PR G n tc ((y.1.1, y.1.2.1, y.1.2.2.1, y.1.2.2.2.1, f), y.2) (hp.set 36 (aI G 32 f)) := by
  obtain ⟨m0, m1, m2, m3, m4, m5, m6, m7, m8, m9, m10⟩ := hR
  exact ⟨(set_ne (by decide)).trans m0, (set_ne (by decide)).trans m1, (set_ne (by decide)).trans m2, (set_ne (by decide)).trans m3, (set_ne (by decide)).trans m4, set_get m5, (set_ne (by decide)).trans m6, (set_ne (by decide)).trans m7, (set_ne (by decide)).trans m8, (set_ne (by decide)).trans m9, (set_ne (by decide)).trans m10⟩
theorem PR.setWf (hR : PR G n tc y hp) (f : Nat → Int32) : PR G n tc (y.1, (f, y.2.1.2), y.2.2) (hp.set 37 (aI G 48 f)) := by
  obtain ⟨m0, m1, m2, m3, m4, m5, m6, m7, m8, m9, m10⟩ := hR
  exact ⟨(set_ne (by decide)).trans m0, (set_ne (by decide)).trans m1, (set_ne (by decide)).trans m2, (set_ne (by decide)).trans m3, (set_ne (by decide)).trans m4, (set_ne (by decide)).trans m5, set_get m6, (set_ne (by decide)).trans m7, (set_ne (by decide)).trans m8, (set_ne (by decide)).trans m9, (set_ne (by decide)).trans m10⟩
theorem PR.setMk (hR : PR G n tc y hp) (f : Nat → Int32) : PR G n tc (y.1, (y.2.1.1, f, y.2.1.2.2), y.2.2) (hp.set 38 (aI G 36 f)) := by
  obtain ⟨m0, m1, m2, m3, m4, m5, m6, m7, m8, m9, m10⟩ := hR
  exact ⟨(set_ne (by decide)).trans m0, (set_ne (by decide)).trans m1, (set_ne (by decide)).trans m2, (set_ne (by decide)).trans m3, (set_ne (by decide)).trans m4, (set_ne (by decide)).trans m5, (set_ne (by decide)).trans m6, set_get m7, (set_ne (by decide)).trans m8, (set_ne (by decide)).trans m9, (set_ne (by decide)).trans m10⟩
theorem PR.setTr (hR : PR G n tc y hp) (f : Nat → Int32) : PR G n tc (y.1, (y.2.1.1, y.2.1.2.1, f), y.2.2) (hp.set 39 (aI G 12 f)) := by
  obtain ⟨m0, m1, m2, m3, m4, m5, m6, m7, m8, m9, m10⟩ := hR
  exact ⟨(set_ne (by decide)).trans m0, (set_ne (by decide)).trans m1, (set_ne (by decide)).trans m2, (set_ne (by decide)).trans m3, (set_ne (by decide)).trans m4, (set_ne (by decide)).trans m5, (set_ne (by decide)).trans m6, (set_ne (by decide)).trans m7, set_get m8, (set_ne (by decide)).trans m9, (set_ne (by decide)).trans m10⟩
theorem PR.setPl (hR : PR G n tc y hp) (f : Nat → Int32) : PR G n tc (y.1, y.2.1, (f, y.2.2.1.2), y.2.2.2) (hp.set 40 (aI G 6 f)) := by
  obtain ⟨m0, m1, m2, m3, m4, m5, m6, m7, m8, m9, m10⟩ := hR
  exact ⟨(set_ne (by decide)).trans m0, (set_ne (by decide)).trans m1, (set_ne (by decide)).trans m2, (set_ne (by decide)).trans m3, (set_ne (by decide)).trans m4, (set_ne (by decide)).trans m5, (set_ne (by decide)).trans m6, (set_ne (by decide)).trans m7, (set_ne (by decide)).trans m8, set_get m9, (set_ne (by decide)).trans m10⟩
theorem PR.setRw (hR : PR G n tc y hp) (f : Nat → Int32) : PR G n tc (y.1, y.2.1, (y.2.2.1.1, f), y.2.2.2) (hp.set 41 (aI G 6 f)) := by
  obtain ⟨m0, m1, m2, m3, m4, m5, m6, m7, m8, m9, m10⟩ := hR
  exact ⟨(set_ne (by decide)).trans m0, (set_ne (by decide)).trans m1, (set_ne (by decide)).trans m2, (set_ne (by decide)).trans m3, (set_ne (by decide)).trans m4, (set_ne (by decide)).trans m5, (set_ne (by decide)).trans m6, (set_ne (by decide)).trans m7, (set_ne (by decide)).trans m8, (set_ne (by decide)).trans m9, set_get m10⟩
theorem PR.setO (hR : PR G n tc y hp) (n' : Nat) (tc' : Int64) (os om mn : Int32) : PR G n' tc' (y.1, y.2.1, y.2.2.1, (os, om, mn)) (hp.set 31 (obj3 G n' tc' os om mn)) := by
  obtain ⟨m0, m1, m2, m3, m4, m5, m6, m7, m8, m9, m10⟩ := hR
  exact ⟨set_get m0, (set_ne (by decide)).trans m1, (set_ne (by decide)).trans m2, (set_ne (by decide)).trans m3, (set_ne (by decide)).trans m4, (set_ne (by decide)).trans m5, (set_ne (by decide)).trans m6, (set_ne (by decide)).trans m7, (set_ne (by decide)).trans m8, (set_ne (by decide)).trans m9, (set_ne (by decide)).trans m10⟩
end PRS
theorem upd_at (f : Nat → Int32) (j : Nat) (v : Int32) (i : Nat) : upd f j v i = if i = j then v else f i := rfl
section MFACE1
variable (G : GG) (hp : List va_E) {s : ST} {y : YT}
theorem mm_line_y (hM : PM G s y hp) {a b : Nat} (ha : a < 2) (hb : b < 4) {k c w : Int32} (hk : InR k 3) (hc : InR c 4) (hw : InR w 10) : Ct G mX3_line 2 0 0 [.ref (G.2.2.2 + 31), .int (nI a), .int (nI b), .int k, .int c, .int w] hp (QM G hp (nI 1) (setLine s (a * 4 + b) k c w)) := by
  obtain ⟨m0, m1, m2, m3, m4, m5, m6, m7, m8, m9, m10⟩ := hM.pr
  have hj : a * 4 + b < 8 := by omega
  obtain ⟨hK, hF, hWf, hMk, hTr, hn⟩ := hM.pp
  refine Ct.start 0 (by decide) rfl (Nat.le_of_ble_eq_true rfl) ?_
  refine v_iload_n dX3_line_0 rfl rfl ?_
  refine v_iload_n dX3_line_1 rfl rfl ?_
  refine v_csf dX3_line_2 cw_X3_44 ts_X3_isLine ((c_isLine G hp (nI a) (nI b)).yes ⟨inR_nI ha (by decide), inR_nI hb (by decide)⟩) (by rfl) (by rfl) (Nat.le_of_ble_eq_true rfl) (Nat.le_of_ble_eq_true rfl) (Nat.le_of_ble_eq_true rfl) (Nat.le_of_ble_eq_true rfl) (Nat.le_of_ble_eq_true rfl) rfl ?_
  refine v_if_eq (tgt := 38) dX3_line_5 (by decide) rfl (fun q => absurd q (by decide)) (fun _ => ?_)
  refine v_iload_n dX3_line_8 rfl rfl ?_
  refine v_iconst (v := nI 0) dX3_line_9 (by decide) rfl ?_
  refine v_iconst (v := nI 2) dX3_line_10 (by decide) rfl ?_
  refine v_csf dX3_line_11 cw_X3_40 ts_X3_in ((c_in0 G hp k 2 (by decide)).yes hk) (by rfl) (by rfl) (Nat.le_of_ble_eq_true rfl) (Nat.le_of_ble_eq_true rfl) (Nat.le_of_ble_eq_true rfl) (Nat.le_of_ble_eq_true rfl) (Nat.le_of_ble_eq_true rfl) rfl ?_
  refine v_if_eq (tgt := 38) dX3_line_14 (by decide) rfl (fun q => absurd q (by decide)) (fun _ => ?_)
  refine v_iload dX3_line_17 rfl rfl ?_
  refine v_iconst (v := nI 0) dX3_line_19 (by decide) rfl ?_
  refine v_iconst (v := nI 3) dX3_line_20 (by decide) rfl ?_
  refine v_csf dX3_line_21 cw_X3_40 ts_X3_in ((c_in0 G hp c 3 (by decide)).yes hc) (by rfl) (by rfl) (Nat.le_of_ble_eq_true rfl) (Nat.le_of_ble_eq_true rfl) (Nat.le_of_ble_eq_true rfl) (Nat.le_of_ble_eq_true rfl) (Nat.le_of_ble_eq_true rfl) rfl ?_
  refine v_if_eq (tgt := 38) dX3_line_24 (by decide) rfl (fun q => absurd q (by decide)) (fun _ => ?_)
  refine v_iload dX3_line_27 rfl rfl ?_
  refine v_iconst (v := nI 0) dX3_line_29 (by decide) rfl ?_
  refine v_bipush (v := nI 9) dX3_line_30 (by decide) rfl ?_
  refine v_csf dX3_line_32 cw_X3_40 ts_X3_in ((c_in0 G hp w 9 (by decide)).yes hw) (by rfl) (by rfl) (Nat.le_of_ble_eq_true rfl) (Nat.le_of_ble_eq_true rfl) (Nat.le_of_ble_eq_true rfl) (Nat.le_of_ble_eq_true rfl) (Nat.le_of_ble_eq_true rfl) rfl ?_
  refine v_if_ne (tgt := 41) dX3_line_35 (by decide) rfl (fun _ => ?_) (fun q => absurd q (by decide))
  refine v_aload_n dX3_line_41 rfl rfl ?_
  refine v_getf dX3_line_42 fl_X3_7 (by first | assumption | exact set_get (by assumption) | exact (set_ne (by decide)).trans (by assumption)) (by rfl) rfl ?_
  refine v_iconst (v := nI 4) dX3_line_45 (by decide) rfl ?_
  refine v_iload_n dX3_line_46 rfl rfl ?_
  refine v_imulN dX3_line_47 rfl ?_
  refine v_iload_n dX3_line_48 rfl rfl ?_
  refine v_iaddN dX3_line_49 rfl ?_
  refine v_iload_n dX3_line_50 rfl rfl ?_
  refine v_iast (a * 4 + b) dX3_line_51 (by first | assumption | exact set_get (by assumption) | exact (set_ne (by decide)).trans (by assumption)) (congrArg nI (by omega)) (by omega) (by decide) rfl ?_
  refine v_aload_n dX3_line_52 rfl rfl ?_
  refine v_getf dX3_line_53 fl_X3_13 (by first | assumption | exact set_get (by assumption) | exact (set_ne (by decide)).trans (by assumption)) (by rfl) rfl ?_
  refine v_iconst (v := nI 4) dX3_line_56 (by decide) rfl ?_
  refine v_iload_n dX3_line_57 rfl rfl ?_
  refine v_imulN dX3_line_58 rfl ?_
  refine v_iload_n dX3_line_59 rfl rfl ?_
  refine v_iaddN dX3_line_60 rfl ?_
  refine v_iload dX3_line_61 rfl rfl ?_
  refine v_iast (a * 4 + b) dX3_line_63 (by first | assumption | exact set_get (by assumption) | exact (set_ne (by decide)).trans (by assumption)) (congrArg nI (by omega)) (by omega) (by decide) rfl ?_
  refine v_aload_n dX3_line_64 rfl rfl ?_
  refine v_getf dX3_line_65 fl_X3_16 ((set_ne (by decide)).trans ((set_ne (by decide)).trans m0)) (by rfl) rfl ?_
  refine v_iconst (v := nI 4) dX3_line_68 (by decide) rfl ?_
  refine v_iload_n dX3_line_69 rfl rfl ?_
  refine v_imulN dX3_line_70 rfl ?_
  refine v_iload_n dX3_line_71 rfl rfl ?_
  refine v_iaddN dX3_line_72 rfl ?_
  refine v_iload dX3_line_73 rfl rfl ?_
  refine v_iast (a * 4 + b) dX3_line_75 ((set_ne (by decide)).trans ((set_ne (by decide)).trans m3)) (congrArg nI (by omega)) (by omega) (by decide) rfl ?_
  refine v_iconst (v := nI 1) dX3_line_76 (by decide) rfl ?_
  exact v_iret dX3_line_77 rfl ⟨Nat.le_of_ble_eq_true rfl, Nat.le_of_ble_eq_true rfl⟩ (⟨rfl, ⟨_, PM.of (s := setLine s (a * 4 + b) k c w) (((hM.pr.setK _).setFc _).setWt _) ⟨fun j q => by
        obtain ⟨e1, e2, e3⟩ := hK j q
        exact ⟨by show upd _ _ _ j = upd _ _ _ j; rw [upd_at, upd_at, e1]; rfl, by show upd _ _ _ j = upd _ _ _ j; rw [upd_at, upd_at, e2]; rfl, by show upd _ _ _ j = upd _ _ _ j; rw [upd_at, upd_at, e3]; rfl⟩, hF, hWf, hMk, hTr, hn⟩⟩, ((FrM.rf.set (by omega)).set (by omega)).set (by omega)⟩)
theorem mm_line_n {z x k c w : Int32} (h : ¬ ((InR z 2 ∧ InR x 4) ∧ InR k 3 ∧ InR c 4 ∧ InR w 10)) : Ct G mX3_line 2 0 0 [.ref (G.2.2.2 + 31), .int z, .int x, .int k, .int c, .int w] hp (Qf (some (.int (-100))) hp) := by
  refine Ct.start 0 (by decide) rfl (Nat.le_of_ble_eq_true rfl) ?_
  refine v_iload_n dX3_line_0 rfl rfl ?_
  refine v_iload_n dX3_line_1 rfl rfl ?_
  by_cases q2 : InR z 2 ∧ InR x 4
  · refine v_csf dX3_line_2 cw_X3_44 ts_X3_isLine ((c_isLine G hp z x).yes ‹_›) (by rfl) (by rfl) (Nat.le_of_ble_eq_true rfl) (Nat.le_of_ble_eq_true rfl) (Nat.le_of_ble_eq_true rfl) (Nat.le_of_ble_eq_true rfl) (Nat.le_of_ble_eq_true rfl) rfl ?_
    refine v_if_eq (tgt := 38) dX3_line_5 (by decide) rfl (fun q => absurd q (by decide)) (fun _ => ?_)
    refine v_iload_n dX3_line_8 rfl rfl ?_
    refine v_iconst (v := nI 0) dX3_line_9 (by decide) rfl ?_
    refine v_iconst (v := nI 2) dX3_line_10 (by decide) rfl ?_
    by_cases q11 : InR k 3
    · refine v_csf dX3_line_11 cw_X3_40 ts_X3_in ((c_in0 G hp k 2 (by decide)).yes ‹_›) (by rfl) (by rfl) (Nat.le_of_ble_eq_true rfl) (Nat.le_of_ble_eq_true rfl) (Nat.le_of_ble_eq_true rfl) (Nat.le_of_ble_eq_true rfl) (Nat.le_of_ble_eq_true rfl) rfl ?_
      refine v_if_eq (tgt := 38) dX3_line_14 (by decide) rfl (fun q => absurd q (by decide)) (fun _ => ?_)
      refine v_iload dX3_line_17 rfl rfl ?_
      refine v_iconst (v := nI 0) dX3_line_19 (by decide) rfl ?_
      refine v_iconst (v := nI 3) dX3_line_20 (by decide) rfl ?_
      by_cases q21 : InR c 4
      · refine v_csf dX3_line_21 cw_X3_40 ts_X3_in ((c_in0 G hp c 3 (by decide)).yes ‹_›) (by rfl) (by rfl) (Nat.le_of_ble_eq_true rfl) (Nat.le_of_ble_eq_true rfl) (Nat.le_of_ble_eq_true rfl) (Nat.le_of_ble_eq_true rfl) (Nat.le_of_ble_eq_true rfl) rfl ?_
        refine v_if_eq (tgt := 38) dX3_line_24 (by decide) rfl (fun q => absurd q (by decide)) (fun _ => ?_)
        refine v_iload dX3_line_27 rfl rfl ?_
        refine v_iconst (v := nI 0) dX3_line_29 (by decide) rfl ?_
        refine v_bipush (v := nI 9) dX3_line_30 (by decide) rfl ?_
        by_cases q32 : InR w 10
        · refine v_csf dX3_line_32 cw_X3_40 ts_X3_in ((c_in0 G hp w 9 (by decide)).yes ‹_›) (by rfl) (by rfl) (Nat.le_of_ble_eq_true rfl) (Nat.le_of_ble_eq_true rfl) (Nat.le_of_ble_eq_true rfl) (Nat.le_of_ble_eq_true rfl) (Nat.le_of_ble_eq_true rfl) rfl ?_
          refine v_if_ne (tgt := 41) dX3_line_35 (by decide) rfl (fun _ => ?_) (fun q => absurd q (by decide))
          exact absurd ⟨q2, q11, q21, q32⟩ h
        · refine v_csf dX3_line_32 cw_X3_40 ts_X3_in ((c_in0 G hp w 9 (by decide)).no ‹_›) (by rfl) (by rfl) (Nat.le_of_ble_eq_true rfl) (Nat.le_of_ble_eq_true rfl) (Nat.le_of_ble_eq_true rfl) (Nat.le_of_ble_eq_true rfl) (Nat.le_of_ble_eq_true rfl) rfl ?_
          refine v_if_ne (tgt := 41) dX3_line_35 (by decide) rfl (fun q => absurd (by decide) q) (fun _ => ?_)
          refine v_bipush (v := (-100)) dX3_line_38 (by decide) rfl ?_
          exact v_iret dX3_line_40 rfl ⟨Nat.le_of_ble_eq_true rfl, Nat.le_of_ble_eq_true rfl⟩ (⟨rfl, rfl⟩)
      · refine v_csf dX3_line_21 cw_X3_40 ts_X3_in ((c_in0 G hp c 3 (by decide)).no ‹_›) (by rfl) (by rfl) (Nat.le_of_ble_eq_true rfl) (Nat.le_of_ble_eq_true rfl) (Nat.le_of_ble_eq_true rfl) (Nat.le_of_ble_eq_true rfl) (Nat.le_of_ble_eq_true rfl) rfl ?_
        refine v_if_eq (tgt := 38) dX3_line_24 (by decide) rfl (fun _ => ?_) (fun q => absurd (by decide) q)
        refine v_bipush (v := (-100)) dX3_line_38 (by decide) rfl ?_
        exact v_iret dX3_line_40 rfl ⟨Nat.le_of_ble_eq_true rfl, Nat.le_of_ble_eq_true rfl⟩ (⟨rfl, rfl⟩)
    · refine v_csf dX3_line_11 cw_X3_40 ts_X3_in ((c_in0 G hp k 2 (by decide)).no ‹_›) (by rfl) (by rfl) (Nat.le_of_ble_eq_true rfl) (Nat.le_of_ble_eq_true rfl) (Nat.le_of_ble_eq_true rfl) (Nat.le_of_ble_eq_true rfl) (Nat.le_of_ble_eq_true rfl) rfl ?_
      refine v_if_eq (tgt := 38) dX3_line_14 (by decide) rfl (fun _ => ?_) (fun q => absurd (by decide) q)
      refine v_bipush (v := (-100)) dX3_line_38 (by decide) rfl ?_
      exact v_iret dX3_line_40 rfl ⟨Nat.le_of_ble_eq_true rfl, Nat.le_of_ble_eq_true rfl⟩ (⟨rfl, rfl⟩)
  · refine v_csf dX3_line_2 cw_X3_44 ts_X3_isLine ((c_isLine G hp z x).no ‹_›) (by rfl) (by rfl) (Nat.le_of_ble_eq_true rfl) (Nat.le_of_ble_eq_true rfl) (Nat.le_of_ble_eq_true rfl) (Nat.le_of_ble_eq_true rfl) (Nat.le_of_ble_eq_true rfl) rfl ?_
    refine v_if_eq (tgt := 38) dX3_line_5 (by decide) rfl (fun _ => ?_) (fun q => absurd (by decide) q)
    refine v_bipush (v := (-100)) dX3_line_38 (by decide) rfl ?_
    exact v_iret dX3_line_40 rfl ⟨Nat.le_of_ble_eq_true rfl, Nat.le_of_ble_eq_true rfl⟩ (⟨rfl, rfl⟩)
theorem mm_span_y (hM : PM G s y hp) {a b k : Nat} (ha : a < 2) (hb : b < 4) (hk : k < 4) {c w : Int32} (hc : InR c 10) (hw : InR w 10) : Ct G mX3_span 2 0 0 [.ref (G.2.2.2 + 31), .int (nI a), .int (nI b), .int (nI k), .int c, .int w] hp (QM G hp (nI 1) (setSpan s (a * 4 + b) k c w)) := by
  obtain ⟨m0, m1, m2, m3, m4, m5, m6, m7, m8, m9, m10⟩ := hM.pr
  have hj : a * 4 + b < 8 := by omega
  obtain ⟨hK, hF, hWf, hMk, hTr, hn⟩ := hM.pp
  refine Ct.start 0 (by decide) rfl (Nat.le_of_ble_eq_true rfl) ?_
  refine v_iload_n dX3_span_0 rfl rfl ?_
  refine v_iload_n dX3_span_1 rfl rfl ?_
  refine v_csf dX3_span_2 cw_X3_44 ts_X3_isLine ((c_isLine G hp (nI a) (nI b)).yes ⟨inR_nI ha (by decide), inR_nI hb (by decide)⟩) (by rfl) (by rfl) (Nat.le_of_ble_eq_true rfl) (Nat.le_of_ble_eq_true rfl) (Nat.le_of_ble_eq_true rfl) (Nat.le_of_ble_eq_true rfl) (Nat.le_of_ble_eq_true rfl) rfl ?_
  refine v_if_eq (tgt := 39) dX3_span_5 (by decide) rfl (fun q => absurd q (by decide)) (fun _ => ?_)
  refine v_iload_n dX3_span_8 rfl rfl ?_
  refine v_iconst (v := nI 0) dX3_span_9 (by decide) rfl ?_
  refine v_iconst (v := nI 3) dX3_span_10 (by decide) rfl ?_
  refine v_csf dX3_span_11 cw_X3_40 ts_X3_in ((c_in0 G hp (nI k) 3 (by decide)).yes (inR_nI hk (by decide))) (by rfl) (by rfl) (Nat.le_of_ble_eq_true rfl) (Nat.le_of_ble_eq_true rfl) (Nat.le_of_ble_eq_true rfl) (Nat.le_of_ble_eq_true rfl) (Nat.le_of_ble_eq_true rfl) rfl ?_
  refine v_if_eq (tgt := 39) dX3_span_14 (by decide) rfl (fun q => absurd q (by decide)) (fun _ => ?_)
  refine v_iload dX3_span_17 rfl rfl ?_
  refine v_iconst (v := nI 0) dX3_span_19 (by decide) rfl ?_
  refine v_bipush (v := nI 9) dX3_span_20 (by decide) rfl ?_
  refine v_csf dX3_span_22 cw_X3_40 ts_X3_in ((c_in0 G hp c 9 (by decide)).yes hc) (by rfl) (by rfl) (Nat.le_of_ble_eq_true rfl) (Nat.le_of_ble_eq_true rfl) (Nat.le_of_ble_eq_true rfl) (Nat.le_of_ble_eq_true rfl) (Nat.le_of_ble_eq_true rfl) rfl ?_
  refine v_if_eq (tgt := 39) dX3_span_25 (by decide) rfl (fun q => absurd q (by decide)) (fun _ => ?_)
  refine v_iload dX3_span_28 rfl rfl ?_
  refine v_iconst (v := nI 0) dX3_span_30 (by decide) rfl ?_
  refine v_bipush (v := nI 9) dX3_span_31 (by decide) rfl ?_
  refine v_csf dX3_span_33 cw_X3_40 ts_X3_in ((c_in0 G hp w 9 (by decide)).yes hw) (by rfl) (by rfl) (Nat.le_of_ble_eq_true rfl) (Nat.le_of_ble_eq_true rfl) (Nat.le_of_ble_eq_true rfl) (Nat.le_of_ble_eq_true rfl) (Nat.le_of_ble_eq_true rfl) rfl ?_
  refine v_if_ne (tgt := 42) dX3_span_36 (by decide) rfl (fun _ => ?_) (fun q => absurd q (by decide))
  refine v_aload_n dX3_span_42 rfl rfl ?_
  refine v_getf dX3_span_43 fl_X3_19 (by first | assumption | exact set_get (by assumption) | exact (set_ne (by decide)).trans (by assumption)) (by rfl) rfl ?_
  refine v_bipush (v := nI 16) dX3_span_46 (by decide) rfl ?_
  refine v_iload_n dX3_span_48 rfl rfl ?_
  refine v_imulN dX3_span_49 rfl ?_
  refine v_iconst (v := nI 4) dX3_span_50 (by decide) rfl ?_
  refine v_iload_n dX3_span_51 rfl rfl ?_
  refine v_imulN dX3_span_52 rfl ?_
  refine v_iaddN dX3_span_53 rfl ?_
  refine v_iload_n dX3_span_54 rfl rfl ?_
  refine v_iaddN dX3_span_55 rfl ?_
  refine v_iload dX3_span_56 rfl rfl ?_
  refine v_iast (4 * (a * 4 + b) + k) dX3_span_58 (by first | assumption | exact set_get (by assumption) | exact (set_ne (by decide)).trans (by assumption)) (congrArg nI (by omega)) (by omega) (by decide) rfl ?_
  refine v_aload_n dX3_span_59 rfl rfl ?_
  refine v_getf dX3_span_60 fl_X3_22 (by first | assumption | exact set_get (by assumption) | exact (set_ne (by decide)).trans (by assumption)) (by rfl) rfl ?_
  refine v_bipush (v := nI 16) dX3_span_63 (by decide) rfl ?_
  refine v_iload_n dX3_span_65 rfl rfl ?_
  refine v_imulN dX3_span_66 rfl ?_
  refine v_iconst (v := nI 4) dX3_span_67 (by decide) rfl ?_
  refine v_iload_n dX3_span_68 rfl rfl ?_
  refine v_imulN dX3_span_69 rfl ?_
  refine v_iaddN dX3_span_70 rfl ?_
  refine v_iload_n dX3_span_71 rfl rfl ?_
  refine v_iaddN dX3_span_72 rfl ?_
  refine v_iload dX3_span_73 rfl rfl ?_
  refine v_iast (4 * (a * 4 + b) + k) dX3_span_75 (by first | assumption | exact set_get (by assumption) | exact (set_ne (by decide)).trans (by assumption)) (congrArg nI (by omega)) (by omega) (by decide) rfl ?_
  refine v_iconst (v := nI 1) dX3_span_76 (by decide) rfl ?_
  exact v_iret dX3_span_77 rfl ⟨Nat.le_of_ble_eq_true rfl, Nat.le_of_ble_eq_true rfl⟩ (⟨rfl, ⟨_, PM.of (s := setSpan s (a * 4 + b) k c w) ((hM.pr.setF _).setT _) ⟨hK, fun j q i qi => by
        obtain ⟨e1, e2⟩ := hF j q i qi
        refine ⟨?_, ?_⟩
        · show upd _ _ _ _ = updF _ _ _ j i
          rw [upd_at, updF, e1]
          by_cases ej : j = a * 4 + b
          · subst ej
            rw [if_pos rfl, upd_at]
            by_cases ei : i = k
            · subst ei; rw [if_pos rfl, if_pos rfl]
            · rw [if_neg (by omega), if_neg ei]; rfl
          · rw [if_neg (by omega), if_neg ej]; rfl
        · show upd _ _ _ _ = updF _ _ _ j i
          rw [upd_at, updF, e2]
          by_cases ej : j = a * 4 + b
          · subst ej
            rw [if_pos rfl, upd_at]
            by_cases ei : i = k
            · subst ei; rw [if_pos rfl, if_pos rfl]
            · rw [if_neg (by omega), if_neg ei]; rfl
          · rw [if_neg (by omega), if_neg ej]; rfl, hWf, hMk, hTr, hn⟩⟩, (FrM.rf.set (by omega)).set (by omega)⟩)
theorem mm_span_n {z x k c w : Int32} (h : ¬ ((InR z 2 ∧ InR x 4) ∧ InR k 4 ∧ InR c 10 ∧ InR w 10)) : Ct G mX3_span 2 0 0 [.ref (G.2.2.2 + 31), .int z, .int x, .int k, .int c, .int w] hp (Qf (some (.int (-100))) hp) := by
  refine Ct.start 0 (by decide) rfl (Nat.le_of_ble_eq_true rfl) ?_
  refine v_iload_n dX3_span_0 rfl rfl ?_
  refine v_iload_n dX3_span_1 rfl rfl ?_
  by_cases q2 : InR z 2 ∧ InR x 4
  · refine v_csf dX3_span_2 cw_X3_44 ts_X3_isLine ((c_isLine G hp z x).yes ‹_›) (by rfl) (by rfl) (Nat.le_of_ble_eq_true rfl) (Nat.le_of_ble_eq_true rfl) (Nat.le_of_ble_eq_true rfl) (Nat.le_of_ble_eq_true rfl) (Nat.le_of_ble_eq_true rfl) rfl ?_
    refine v_if_eq (tgt := 39) dX3_span_5 (by decide) rfl (fun q => absurd q (by decide)) (fun _ => ?_)
    refine v_iload_n dX3_span_8 rfl rfl ?_
    refine v_iconst (v := nI 0) dX3_span_9 (by decide) rfl ?_
    refine v_iconst (v := nI 3) dX3_span_10 (by decide) rfl ?_
    by_cases q11 : InR k 4
    · refine v_csf dX3_span_11 cw_X3_40 ts_X3_in ((c_in0 G hp k 3 (by decide)).yes ‹_›) (by rfl) (by rfl) (Nat.le_of_ble_eq_true rfl) (Nat.le_of_ble_eq_true rfl) (Nat.le_of_ble_eq_true rfl) (Nat.le_of_ble_eq_true rfl) (Nat.le_of_ble_eq_true rfl) rfl ?_
      refine v_if_eq (tgt := 39) dX3_span_14 (by decide) rfl (fun q => absurd q (by decide)) (fun _ => ?_)
      refine v_iload dX3_span_17 rfl rfl ?_
      refine v_iconst (v := nI 0) dX3_span_19 (by decide) rfl ?_
      refine v_bipush (v := nI 9) dX3_span_20 (by decide) rfl ?_
      by_cases q22 : InR c 10
      · refine v_csf dX3_span_22 cw_X3_40 ts_X3_in ((c_in0 G hp c 9 (by decide)).yes ‹_›) (by rfl) (by rfl) (Nat.le_of_ble_eq_true rfl) (Nat.le_of_ble_eq_true rfl) (Nat.le_of_ble_eq_true rfl) (Nat.le_of_ble_eq_true rfl) (Nat.le_of_ble_eq_true rfl) rfl ?_
        refine v_if_eq (tgt := 39) dX3_span_25 (by decide) rfl (fun q => absurd q (by decide)) (fun _ => ?_)
        refine v_iload dX3_span_28 rfl rfl ?_
        refine v_iconst (v := nI 0) dX3_span_30 (by decide) rfl ?_
        refine v_bipush (v := nI 9) dX3_span_31 (by decide) rfl ?_
        by_cases q33 : InR w 10
        · refine v_csf dX3_span_33 cw_X3_40 ts_X3_in ((c_in0 G hp w 9 (by decide)).yes ‹_›) (by rfl) (by rfl) (Nat.le_of_ble_eq_true rfl) (Nat.le_of_ble_eq_true rfl) (Nat.le_of_ble_eq_true rfl) (Nat.le_of_ble_eq_true rfl) (Nat.le_of_ble_eq_true rfl) rfl ?_
          refine v_if_ne (tgt := 42) dX3_span_36 (by decide) rfl (fun _ => ?_) (fun q => absurd q (by decide))
          exact absurd ⟨q2, q11, q22, q33⟩ h
        · refine v_csf dX3_span_33 cw_X3_40 ts_X3_in ((c_in0 G hp w 9 (by decide)).no ‹_›) (by rfl) (by rfl) (Nat.le_of_ble_eq_true rfl) (Nat.le_of_ble_eq_true rfl) (Nat.le_of_ble_eq_true rfl) (Nat.le_of_ble_eq_true rfl) (Nat.le_of_ble_eq_true rfl) rfl ?_
          refine v_if_ne (tgt := 42) dX3_span_36 (by decide) rfl (fun q => absurd (by decide) q) (fun _ => ?_)
          refine v_bipush (v := (-100)) dX3_span_39 (by decide) rfl ?_
          exact v_iret dX3_span_41 rfl ⟨Nat.le_of_ble_eq_true rfl, Nat.le_of_ble_eq_true rfl⟩ (⟨rfl, rfl⟩)
      · refine v_csf dX3_span_22 cw_X3_40 ts_X3_in ((c_in0 G hp c 9 (by decide)).no ‹_›) (by rfl) (by rfl) (Nat.le_of_ble_eq_true rfl) (Nat.le_of_ble_eq_true rfl) (Nat.le_of_ble_eq_true rfl) (Nat.le_of_ble_eq_true rfl) (Nat.le_of_ble_eq_true rfl) rfl ?_
        refine v_if_eq (tgt := 39) dX3_span_25 (by decide) rfl (fun _ => ?_) (fun q => absurd (by decide) q)
        refine v_bipush (v := (-100)) dX3_span_39 (by decide) rfl ?_
        exact v_iret dX3_span_41 rfl ⟨Nat.le_of_ble_eq_true rfl, Nat.le_of_ble_eq_true rfl⟩ (⟨rfl, rfl⟩)
    · refine v_csf dX3_span_11 cw_X3_40 ts_X3_in ((c_in0 G hp k 3 (by decide)).no ‹_›) (by rfl) (by rfl) (Nat.le_of_ble_eq_true rfl) (Nat.le_of_ble_eq_true rfl) (Nat.le_of_ble_eq_true rfl) (Nat.le_of_ble_eq_true rfl) (Nat.le_of_ble_eq_true rfl) rfl ?_
      refine v_if_eq (tgt := 39) dX3_span_14 (by decide) rfl (fun _ => ?_) (fun q => absurd (by decide) q)
      refine v_bipush (v := (-100)) dX3_span_39 (by decide) rfl ?_
      exact v_iret dX3_span_41 rfl ⟨Nat.le_of_ble_eq_true rfl, Nat.le_of_ble_eq_true rfl⟩ (⟨rfl, rfl⟩)
  · refine v_csf dX3_span_2 cw_X3_44 ts_X3_isLine ((c_isLine G hp z x).no ‹_›) (by rfl) (by rfl) (Nat.le_of_ble_eq_true rfl) (Nat.le_of_ble_eq_true rfl) (Nat.le_of_ble_eq_true rfl) (Nat.le_of_ble_eq_true rfl) (Nat.le_of_ble_eq_true rfl) rfl ?_
    refine v_if_eq (tgt := 39) dX3_span_5 (by decide) rfl (fun _ => ?_) (fun q => absurd (by decide) q)
    refine v_bipush (v := (-100)) dX3_span_39 (by decide) rfl ?_
    exact v_iret dX3_span_41 rfl ⟨Nat.le_of_ble_eq_true rfl, Nat.le_of_ble_eq_true rfl⟩ (⟨rfl, rfl⟩)
theorem mm_about_y (hM : PM G s y hp) {a b w : Nat} (ha : a < 2) (hb : b < 4) (hw : w < 11) : Ct G mX3_about 2 0 0 [.ref (G.2.2.2 + 31), .int (nI a), .int (nI b), .int (nI w)] hp (Qf (some (.int (abI s (a * 4 + b) w))) hp) := by
  obtain ⟨m0, m1, m2, m3, m4, m5, m6, m7, m8, m9, m10⟩ := hM.pr
  have hj : a * 4 + b < 8 := by omega
  obtain ⟨hK, hF, hWf, hMk, hTr, hn⟩ := hM.pp
  refine Ct.start 2 (by decide) rfl (Nat.le_of_ble_eq_true rfl) ?_
  refine v_iload_n dX3_about_0 rfl rfl ?_
  refine v_iload_n dX3_about_1 rfl rfl ?_
  refine v_csf dX3_about_2 cw_X3_44 ts_X3_isLine ((c_isLine G hp (nI a) (nI b)).yes ⟨inR_nI ha (by decide), inR_nI hb (by decide)⟩) (by rfl) (by rfl) (Nat.le_of_ble_eq_true rfl) (Nat.le_of_ble_eq_true rfl) (Nat.le_of_ble_eq_true rfl) (Nat.le_of_ble_eq_true rfl) (Nat.le_of_ble_eq_true rfl) rfl ?_
  refine v_if_eq (tgt := 18) dX3_about_5 (by decide) rfl (fun q => absurd q (by decide)) (fun _ => ?_)
  refine v_iload_n dX3_about_8 rfl rfl ?_
  refine v_iconst (v := nI 0) dX3_about_9 (by decide) rfl ?_
  refine v_bipush (v := nI 10) dX3_about_10 (by decide) rfl ?_
  refine v_csf dX3_about_12 cw_X3_40 ts_X3_in ((c_in0 G hp (nI w) 10 (by decide)).yes (inR_nI hw (by decide))) (by rfl) (by rfl) (Nat.le_of_ble_eq_true rfl) (Nat.le_of_ble_eq_true rfl) (Nat.le_of_ble_eq_true rfl) (Nat.le_of_ble_eq_true rfl) (Nat.le_of_ble_eq_true rfl) rfl ?_
  refine v_if_ne (tgt := 21) dX3_about_15 (by decide) rfl (fun _ => ?_) (fun q => absurd q (by decide))
  refine v_iconst (v := nI 4) dX3_about_21 (by decide) rfl ?_
  refine v_iload_n dX3_about_22 rfl rfl ?_
  refine v_imulN dX3_about_23 rfl ?_
  refine v_iload_n dX3_about_24 rfl rfl ?_
  refine v_iaddN dX3_about_25 rfl ?_
  refine v_top (y := nI (a * 4 + b)) (congrArg nI (by omega)) ?_
  refine v_istore dX3_about_26 (Nat.le_of_ble_eq_true rfl) rfl ?_
  refine v_iload_n dX3_about_28 rfl rfl ?_
  refine v_iconst (v := nI 3) dX3_about_29 (by decide) rfl ?_
  refine v_icmp_geN (tgt := 70) dX3_about_30 (by decide) rfl (by omega) (by omega) (fun c30 => ?_) (fun c30 => ?_)
  · refine v_iload_n dX3_about_70 rfl rfl ?_
    refine v_iconst (v := nI 3) dX3_about_71 (by decide) rfl ?_
    refine v_isubN dX3_about_72 (by omega) rfl ?_
    refine v_iconst (v := nI 2) dX3_about_73 (by decide) rfl ?_
    refine v_idivN dX3_about_74 (by omega) (by omega) (by omega) rfl ?_
    refine v_istore dX3_about_75 (Nat.le_of_ble_eq_true rfl) rfl ?_
    refine v_iload_n dX3_about_77 rfl rfl ?_
    refine v_iconst (v := nI 2) dX3_about_78 (by decide) rfl ?_
    refine v_iremN dX3_about_79 (by omega) (by omega) (by omega) rfl ?_
    refine v_iconst (v := nI 1) dX3_about_80 (by decide) rfl ?_
    refine v_icmp_neN (tgt := 99) dX3_about_81 (by decide) rfl (by omega) (by omega) (fun c81 => ?_) (fun c81 => ?_)
    · refine v_aload_n dX3_about_99 rfl rfl ?_
      refine v_getf dX3_about_100 fl_X3_22 (by first | assumption | exact set_get (by assumption) | exact (set_ne (by decide)).trans (by assumption)) (by rfl) rfl ?_
      refine v_iconst (v := nI 4) dX3_about_103 (by decide) rfl ?_
      refine v_iload dX3_about_104 rfl rfl ?_
      refine v_imulN dX3_about_106 rfl ?_
      refine v_iload dX3_about_107 rfl rfl ?_
      refine v_iaddN dX3_about_109 rfl ?_
      refine v_iald _ dX3_about_110 (by first | assumption | exact set_get (by assumption) | exact (set_ne (by decide)).trans (by assumption)) rfl (by omega) (by decide) rfl ?_
      refine v_top (y := s.to (a * 4 + b) ((w - 3) / 2)) ((hF _ hj _ (by omega)).2) ?_
      exact v_iret dX3_about_111 rfl ⟨Nat.le_of_ble_eq_true rfl, Nat.le_of_ble_eq_true rfl⟩ (⟨by first | (rw [abI, if_pos ‹_›, if_pos (by omega)]; done) | (rw [abI, if_pos ‹_›, if_neg (by omega)]; done) | (rw [abI, if_neg (by omega), if_pos ‹_›]; done) | (rw [abI, if_neg (by omega), if_neg ‹_›, if_pos ‹_›]; done) | (rw [abI, if_neg (by omega), if_neg ‹_›, if_neg ‹_›]; done), rfl⟩)
    · refine v_aload_n dX3_about_84 rfl rfl ?_
      refine v_getf dX3_about_85 fl_X3_19 (by first | assumption | exact set_get (by assumption) | exact (set_ne (by decide)).trans (by assumption)) (by rfl) rfl ?_
      refine v_iconst (v := nI 4) dX3_about_88 (by decide) rfl ?_
      refine v_iload dX3_about_89 rfl rfl ?_
      refine v_imulN dX3_about_91 rfl ?_
      refine v_iload dX3_about_92 rfl rfl ?_
      refine v_iaddN dX3_about_94 rfl ?_
      refine v_iald _ dX3_about_95 (by first | assumption | exact set_get (by assumption) | exact (set_ne (by decide)).trans (by assumption)) rfl (by omega) (by decide) rfl ?_
      refine v_top (y := s.fr (a * 4 + b) ((w - 3) / 2)) ((hF _ hj _ (by omega)).1) ?_
      refine v_goto (tgt := 111) dX3_about_96 (by decide) ?_
      exact v_iret dX3_about_111 rfl ⟨Nat.le_of_ble_eq_true rfl, Nat.le_of_ble_eq_true rfl⟩ (⟨by first | (rw [abI, if_pos ‹_›, if_pos (by omega)]; done) | (rw [abI, if_pos ‹_›, if_neg (by omega)]; done) | (rw [abI, if_neg (by omega), if_pos ‹_›]; done) | (rw [abI, if_neg (by omega), if_neg ‹_›, if_pos ‹_›]; done) | (rw [abI, if_neg (by omega), if_neg ‹_›, if_neg ‹_›]; done), rfl⟩)
  · refine v_iload_n dX3_about_33 rfl rfl ?_
    refine v_if_neN (tgt := 47) dX3_about_34 (by decide) rfl (by omega) (fun c34 => ?_) (fun c34 => ?_)
    · refine v_iload_n dX3_about_47 rfl rfl ?_
      refine v_iconst (v := nI 1) dX3_about_48 (by decide) rfl ?_
      refine v_icmp_neN (tgt := 62) dX3_about_49 (by decide) rfl (by omega) (by omega) (fun c49 => ?_) (fun c49 => ?_)
      · refine v_aload_n dX3_about_62 rfl rfl ?_
        refine v_getf dX3_about_63 fl_X3_16 (by first | assumption | exact set_get (by assumption) | exact (set_ne (by decide)).trans (by assumption)) (by rfl) rfl ?_
        refine v_iload dX3_about_66 rfl rfl ?_
        refine v_iald _ dX3_about_68 (by first | assumption | exact set_get (by assumption) | exact (set_ne (by decide)).trans (by assumption)) rfl (by omega) (by decide) rfl ?_
        refine v_top (y := s.wt (a * 4 + b)) ((hK _ hj).2.2) ?_
        exact v_iret dX3_about_69 rfl ⟨Nat.le_of_ble_eq_true rfl, Nat.le_of_ble_eq_true rfl⟩ (⟨by first | (rw [abI, if_pos ‹_›, if_pos (by omega)]; done) | (rw [abI, if_pos ‹_›, if_neg (by omega)]; done) | (rw [abI, if_neg (by omega), if_pos ‹_›]; done) | (rw [abI, if_neg (by omega), if_neg ‹_›, if_pos ‹_›]; done) | (rw [abI, if_neg (by omega), if_neg ‹_›, if_neg ‹_›]; done), rfl⟩)
      · refine v_aload_n dX3_about_52 rfl rfl ?_
        refine v_getf dX3_about_53 fl_X3_13 (by first | assumption | exact set_get (by assumption) | exact (set_ne (by decide)).trans (by assumption)) (by rfl) rfl ?_
        refine v_iload dX3_about_56 rfl rfl ?_
        refine v_iald _ dX3_about_58 (by first | assumption | exact set_get (by assumption) | exact (set_ne (by decide)).trans (by assumption)) rfl (by omega) (by decide) rfl ?_
        refine v_top (y := s.fc (a * 4 + b)) ((hK _ hj).2.1) ?_
        refine v_goto (tgt := 69) dX3_about_59 (by decide) ?_
        exact v_iret dX3_about_69 rfl ⟨Nat.le_of_ble_eq_true rfl, Nat.le_of_ble_eq_true rfl⟩ (⟨by first | (rw [abI, if_pos ‹_›, if_pos (by omega)]; done) | (rw [abI, if_pos ‹_›, if_neg (by omega)]; done) | (rw [abI, if_neg (by omega), if_pos ‹_›]; done) | (rw [abI, if_neg (by omega), if_neg ‹_›, if_pos ‹_›]; done) | (rw [abI, if_neg (by omega), if_neg ‹_›, if_neg ‹_›]; done), rfl⟩)
    · refine v_aload_n dX3_about_37 rfl rfl ?_
      refine v_getf dX3_about_38 fl_X3_7 (by first | assumption | exact set_get (by assumption) | exact (set_ne (by decide)).trans (by assumption)) (by rfl) rfl ?_
      refine v_iload dX3_about_41 rfl rfl ?_
      refine v_iald _ dX3_about_43 (by first | assumption | exact set_get (by assumption) | exact (set_ne (by decide)).trans (by assumption)) rfl (by omega) (by decide) rfl ?_
      refine v_top (y := s.kd (a * 4 + b)) ((hK _ hj).1) ?_
      refine v_goto (tgt := 69) dX3_about_44 (by decide) ?_
      exact v_iret dX3_about_69 rfl ⟨Nat.le_of_ble_eq_true rfl, Nat.le_of_ble_eq_true rfl⟩ (⟨by first | (rw [abI, if_pos ‹_›, if_pos (by omega)]; done) | (rw [abI, if_pos ‹_›, if_neg (by omega)]; done) | (rw [abI, if_neg (by omega), if_pos ‹_›]; done) | (rw [abI, if_neg (by omega), if_neg ‹_›, if_pos ‹_›]; done) | (rw [abI, if_neg (by omega), if_neg ‹_›, if_neg ‹_›]; done), rfl⟩)
theorem mm_about_n {z x w : Int32} (h : ¬ ((InR z 2 ∧ InR x 4) ∧ InR w 11)) : Ct G mX3_about 2 0 0 [.ref (G.2.2.2 + 31), .int z, .int x, .int w] hp (Qf (some (.int (-100))) hp) := by
  refine Ct.start 2 (by decide) rfl (Nat.le_of_ble_eq_true rfl) ?_
  refine v_iload_n dX3_about_0 rfl rfl ?_
  refine v_iload_n dX3_about_1 rfl rfl ?_
  by_cases q2 : InR z 2 ∧ InR x 4
  · refine v_csf dX3_about_2 cw_X3_44 ts_X3_isLine ((c_isLine G hp z x).yes ‹_›) (by rfl) (by rfl) (Nat.le_of_ble_eq_true rfl) (Nat.le_of_ble_eq_true rfl) (Nat.le_of_ble_eq_true rfl) (Nat.le_of_ble_eq_true rfl) (Nat.le_of_ble_eq_true rfl) rfl ?_
    refine v_if_eq (tgt := 18) dX3_about_5 (by decide) rfl (fun q => absurd q (by decide)) (fun _ => ?_)
    refine v_iload_n dX3_about_8 rfl rfl ?_
    refine v_iconst (v := nI 0) dX3_about_9 (by decide) rfl ?_
    refine v_bipush (v := nI 10) dX3_about_10 (by decide) rfl ?_
    by_cases q12 : InR w 11
    · refine v_csf dX3_about_12 cw_X3_40 ts_X3_in ((c_in0 G hp w 10 (by decide)).yes ‹_›) (by rfl) (by rfl) (Nat.le_of_ble_eq_true rfl) (Nat.le_of_ble_eq_true rfl) (Nat.le_of_ble_eq_true rfl) (Nat.le_of_ble_eq_true rfl) (Nat.le_of_ble_eq_true rfl) rfl ?_
      refine v_if_ne (tgt := 21) dX3_about_15 (by decide) rfl (fun _ => ?_) (fun q => absurd q (by decide))
      exact absurd ⟨q2, q12⟩ h
    · refine v_csf dX3_about_12 cw_X3_40 ts_X3_in ((c_in0 G hp w 10 (by decide)).no ‹_›) (by rfl) (by rfl) (Nat.le_of_ble_eq_true rfl) (Nat.le_of_ble_eq_true rfl) (Nat.le_of_ble_eq_true rfl) (Nat.le_of_ble_eq_true rfl) (Nat.le_of_ble_eq_true rfl) rfl ?_
      refine v_if_ne (tgt := 21) dX3_about_15 (by decide) rfl (fun q => absurd (by decide) q) (fun _ => ?_)
      refine v_bipush (v := (-100)) dX3_about_18 (by decide) rfl ?_
      exact v_iret dX3_about_20 rfl ⟨Nat.le_of_ble_eq_true rfl, Nat.le_of_ble_eq_true rfl⟩ (⟨rfl, rfl⟩)
  · refine v_csf dX3_about_2 cw_X3_44 ts_X3_isLine ((c_isLine G hp z x).no ‹_›) (by rfl) (by rfl) (Nat.le_of_ble_eq_true rfl) (Nat.le_of_ble_eq_true rfl) (Nat.le_of_ble_eq_true rfl) (Nat.le_of_ble_eq_true rfl) (Nat.le_of_ble_eq_true rfl) rfl ?_
    refine v_if_eq (tgt := 18) dX3_about_5 (by decide) rfl (fun _ => ?_) (fun q => absurd (by decide) q)
    refine v_bipush (v := (-100)) dX3_about_18 (by decide) rfl ?_
    exact v_iret dX3_about_20 rfl ⟨Nat.le_of_ble_eq_true rfl, Nat.le_of_ble_eq_true rfl⟩ (⟨rfl, rfl⟩)
theorem mm_level_y (hM : PM G s y hp) (hI : Inv s) {a b : Nat} (ha : a < 2) (hb : b < 4) {v : Int32} (hv : InR v 10) : Ct G mX3_level 5 0 0 [.ref (G.2.2.2 + 31), .int (nI a), .int (nI b), .int v] hp (QM G hp (oI (levelO (s.kd (a * 4 + b)) (s.fr (a * 4 + b)) (s.to (a * 4 + b)) v)) (setTc s (s.tc + (trcI (s.kd (a * 4 + b))).toInt64))) := by
  obtain ⟨m0, m1, m2, m3, m4, m5, m6, m7, m8, m9, m10⟩ := hM.pr
  have hj : a * 4 + b < 8 := by omega
  obtain ⟨hK, hF, hWf, hMk, hTr, hn⟩ := hM.pp
  obtain ⟨c, hc, ec⟩ := inR_of (by decide) (hI.1 _ hj).1
  have hM2 : ∀ t : Int64, PM G (setTc s t) (y.1, y.2.1, y.2.2.1, (y.2.2.2.1, y.2.2.2.2.1, y.2.2.2.2.2)) (hp.set 31 (obj3 G s.n t y.2.2.2.1 y.2.2.2.2.1 y.2.2.2.2.2)) := fun t => PM.of (hM.pr.setO s.n t _ _ _) hM.pp
  have hI2 : ∀ t : Int64, Inv (setTc s t) := fun _ => hI
  have h3 : c = 0 ∨ c = 1 ∨ c = 2 := by omega
  refine Ct.start 1 (by decide) rfl (Nat.le_of_ble_eq_true rfl) ?_
  rcases h3 with h3 | h3 | h3 <;> subst h3
  · have e1 : (trcI (s.kd (a * 4 + b))).toInt64 = 1 := by rw [ec]; decide
    refine v_iload_n dX3_level_0 rfl rfl ?_
    refine v_iload_n dX3_level_1 rfl rfl ?_
    refine v_csf dX3_level_2 cw_X3_44 ts_X3_isLine ((c_isLine G hp (nI a) (nI b)).yes ⟨inR_nI ha (by decide), inR_nI hb (by decide)⟩) (by rfl) (by rfl) (Nat.le_of_ble_eq_true rfl) (Nat.le_of_ble_eq_true rfl) (Nat.le_of_ble_eq_true rfl) (Nat.le_of_ble_eq_true rfl) (Nat.le_of_ble_eq_true rfl) rfl ?_
    refine v_if_eq (tgt := 18) dX3_level_5 (by decide) rfl (fun q => absurd q (by decide)) (fun _ => ?_)
    refine v_iload_n dX3_level_8 rfl rfl ?_
    refine v_iconst (v := nI 0) dX3_level_9 (by decide) rfl ?_
    refine v_bipush (v := nI 9) dX3_level_10 (by decide) rfl ?_
    refine v_csf dX3_level_12 cw_X3_40 ts_X3_in ((c_in0 G hp v 9 (by decide)).yes hv) (by rfl) (by rfl) (Nat.le_of_ble_eq_true rfl) (Nat.le_of_ble_eq_true rfl) (Nat.le_of_ble_eq_true rfl) (Nat.le_of_ble_eq_true rfl) (Nat.le_of_ble_eq_true rfl) rfl ?_
    refine v_if_ne (tgt := 21) dX3_level_15 (by decide) rfl (fun _ => ?_) (fun q => absurd q (by decide))
    refine v_iconst (v := nI 4) dX3_level_21 (by decide) rfl ?_
    refine v_iload_n dX3_level_22 rfl rfl ?_
    refine v_imulN dX3_level_23 rfl ?_
    refine v_iload_n dX3_level_24 rfl rfl ?_
    refine v_iaddN dX3_level_25 rfl ?_
    refine v_top (y := nI (a * 4 + b)) (congrArg nI (by omega)) ?_
    refine v_istore dX3_level_26 (Nat.le_of_ble_eq_true rfl) rfl ?_
    refine v_aload_n dX3_level_28 rfl rfl ?_
    refine v_dup dX3_level_29 rfl rfl ?_
    refine v_getf dX3_level_30 fl_X3_58 (by first | assumption | exact set_get (by assumption) | exact (set_ne (by decide)).trans (by assumption)) (by rfl) rfl ?_
    refine v_aload_n dX3_level_33 rfl rfl ?_
    refine v_getf dX3_level_34 fl_X3_7 (by first | assumption | exact set_get (by assumption) | exact (set_ne (by decide)).trans (by assumption)) (by rfl) rfl ?_
    refine v_iload dX3_level_37 rfl rfl ?_
    refine v_iald _ dX3_level_39 (by first | assumption | exact set_get (by assumption) | exact (set_ne (by decide)).trans (by assumption)) rfl (by omega) (by decide) rfl ?_
    refine v_top (y := nI 0) ((hK _ hj).1.trans ec) ?_
    refine v_if_ne (tgt := 47) dX3_level_40 (by decide) rfl (fun q => absurd (by decide) q) (fun _ => ?_)
    refine v_lconst (v := 1) dX3_level_43 (by decide) rfl ?_
    refine v_goto (tgt := 67) dX3_level_44 (by decide) ?_
    refine v_ladd dX3_level_67 rfl ?_
    refine v_putf dX3_level_68 fl_X3_58 (by first | assumption | exact set_get (by assumption) | exact (set_ne (by decide)).trans (by assumption)) (by rfl) (by rfl) (by exact Nat.le_of_ble_eq_true rfl) rfl ?_
    refine v_aload_n dX3_level_71 rfl rfl ?_
    refine v_iload dX3_level_72 rfl rfl ?_
    refine v_iload_n dX3_level_74 rfl rfl ?_
    refine v_cvf dX3_level_75 cw_X3_66 ⟨tn_X3_levelOf, tl_X3_levelOf⟩ rfl ((hM2 _).1) (m_levelOf G _ (hM2 _) (hI2 _) hj v) (by rfl) (by rfl) (Nat.le_of_ble_eq_true rfl) (Nat.le_of_ble_eq_true rfl) (Nat.le_of_ble_eq_true rfl) (Nat.le_of_ble_eq_true rfl) (Nat.le_of_ble_eq_true rfl) rfl ?_
    exact v_iret dX3_level_78 rfl ⟨Nat.le_of_ble_eq_true rfl, Nat.le_of_ble_eq_true rfl⟩ (⟨rfl, ⟨_, by rw [e1]; exact hM2 _⟩, FrM.rf.set (by omega)⟩)
  · have e1 : (trcI (s.kd (a * 4 + b))).toInt64 = 11 := by rw [ec]; decide
    refine v_iload_n dX3_level_0 rfl rfl ?_
    refine v_iload_n dX3_level_1 rfl rfl ?_
    refine v_csf dX3_level_2 cw_X3_44 ts_X3_isLine ((c_isLine G hp (nI a) (nI b)).yes ⟨inR_nI ha (by decide), inR_nI hb (by decide)⟩) (by rfl) (by rfl) (Nat.le_of_ble_eq_true rfl) (Nat.le_of_ble_eq_true rfl) (Nat.le_of_ble_eq_true rfl) (Nat.le_of_ble_eq_true rfl) (Nat.le_of_ble_eq_true rfl) rfl ?_
    refine v_if_eq (tgt := 18) dX3_level_5 (by decide) rfl (fun q => absurd q (by decide)) (fun _ => ?_)
    refine v_iload_n dX3_level_8 rfl rfl ?_
    refine v_iconst (v := nI 0) dX3_level_9 (by decide) rfl ?_
    refine v_bipush (v := nI 9) dX3_level_10 (by decide) rfl ?_
    refine v_csf dX3_level_12 cw_X3_40 ts_X3_in ((c_in0 G hp v 9 (by decide)).yes hv) (by rfl) (by rfl) (Nat.le_of_ble_eq_true rfl) (Nat.le_of_ble_eq_true rfl) (Nat.le_of_ble_eq_true rfl) (Nat.le_of_ble_eq_true rfl) (Nat.le_of_ble_eq_true rfl) rfl ?_
    refine v_if_ne (tgt := 21) dX3_level_15 (by decide) rfl (fun _ => ?_) (fun q => absurd q (by decide))
    refine v_iconst (v := nI 4) dX3_level_21 (by decide) rfl ?_
    refine v_iload_n dX3_level_22 rfl rfl ?_
    refine v_imulN dX3_level_23 rfl ?_
    refine v_iload_n dX3_level_24 rfl rfl ?_
    refine v_iaddN dX3_level_25 rfl ?_
    refine v_top (y := nI (a * 4 + b)) (congrArg nI (by omega)) ?_
    refine v_istore dX3_level_26 (Nat.le_of_ble_eq_true rfl) rfl ?_
    refine v_aload_n dX3_level_28 rfl rfl ?_
    refine v_dup dX3_level_29 rfl rfl ?_
    refine v_getf dX3_level_30 fl_X3_58 (by first | assumption | exact set_get (by assumption) | exact (set_ne (by decide)).trans (by assumption)) (by rfl) rfl ?_
    refine v_aload_n dX3_level_33 rfl rfl ?_
    refine v_getf dX3_level_34 fl_X3_7 (by first | assumption | exact set_get (by assumption) | exact (set_ne (by decide)).trans (by assumption)) (by rfl) rfl ?_
    refine v_iload dX3_level_37 rfl rfl ?_
    refine v_iald _ dX3_level_39 (by first | assumption | exact set_get (by assumption) | exact (set_ne (by decide)).trans (by assumption)) rfl (by omega) (by decide) rfl ?_
    refine v_top (y := nI 1) ((hK _ hj).1.trans ec) ?_
    refine v_if_ne (tgt := 47) dX3_level_40 (by decide) rfl (fun _ => ?_) (fun q => absurd q (by decide))
    refine v_aload_n dX3_level_47 rfl rfl ?_
    refine v_getf dX3_level_48 fl_X3_7 (by first | assumption | exact set_get (by assumption) | exact (set_ne (by decide)).trans (by assumption)) (by rfl) rfl ?_
    refine v_iload dX3_level_51 rfl rfl ?_
    refine v_iald _ dX3_level_53 (by first | assumption | exact set_get (by assumption) | exact (set_ne (by decide)).trans (by assumption)) rfl (by omega) (by decide) rfl ?_
    refine v_top (y := nI 1) ((hK _ hj).1.trans ec) ?_
    refine v_iconst (v := nI 1) dX3_level_54 (by decide) rfl ?_
    refine v_icmp_ne (tgt := 64) dX3_level_55 (by decide) rfl (fun q => absurd (by decide) q) (fun _ => ?_)
    refine v_ldc2 dX3_level_58 tg_X3_62 rfl ?_
    refine v_goto (tgt := 67) dX3_level_61 (by decide) ?_
    refine v_ladd dX3_level_67 rfl ?_
    refine v_putf dX3_level_68 fl_X3_58 (by first | assumption | exact set_get (by assumption) | exact (set_ne (by decide)).trans (by assumption)) (by rfl) (by rfl) (by exact Nat.le_of_ble_eq_true rfl) rfl ?_
    refine v_aload_n dX3_level_71 rfl rfl ?_
    refine v_iload dX3_level_72 rfl rfl ?_
    refine v_iload_n dX3_level_74 rfl rfl ?_
    refine v_cvf dX3_level_75 cw_X3_66 ⟨tn_X3_levelOf, tl_X3_levelOf⟩ rfl ((hM2 _).1) (m_levelOf G _ (hM2 _) (hI2 _) hj v) (by rfl) (by rfl) (Nat.le_of_ble_eq_true rfl) (Nat.le_of_ble_eq_true rfl) (Nat.le_of_ble_eq_true rfl) (Nat.le_of_ble_eq_true rfl) (Nat.le_of_ble_eq_true rfl) rfl ?_
    exact v_iret dX3_level_78 rfl ⟨Nat.le_of_ble_eq_true rfl, Nat.le_of_ble_eq_true rfl⟩ (⟨rfl, ⟨_, by rw [e1]; exact hM2 _⟩, FrM.rf.set (by omega)⟩)
  · have e1 : (trcI (s.kd (a * 4 + b))).toInt64 = 111 := by rw [ec]; decide
    refine v_iload_n dX3_level_0 rfl rfl ?_
    refine v_iload_n dX3_level_1 rfl rfl ?_
    refine v_csf dX3_level_2 cw_X3_44 ts_X3_isLine ((c_isLine G hp (nI a) (nI b)).yes ⟨inR_nI ha (by decide), inR_nI hb (by decide)⟩) (by rfl) (by rfl) (Nat.le_of_ble_eq_true rfl) (Nat.le_of_ble_eq_true rfl) (Nat.le_of_ble_eq_true rfl) (Nat.le_of_ble_eq_true rfl) (Nat.le_of_ble_eq_true rfl) rfl ?_
    refine v_if_eq (tgt := 18) dX3_level_5 (by decide) rfl (fun q => absurd q (by decide)) (fun _ => ?_)
    refine v_iload_n dX3_level_8 rfl rfl ?_
    refine v_iconst (v := nI 0) dX3_level_9 (by decide) rfl ?_
    refine v_bipush (v := nI 9) dX3_level_10 (by decide) rfl ?_
    refine v_csf dX3_level_12 cw_X3_40 ts_X3_in ((c_in0 G hp v 9 (by decide)).yes hv) (by rfl) (by rfl) (Nat.le_of_ble_eq_true rfl) (Nat.le_of_ble_eq_true rfl) (Nat.le_of_ble_eq_true rfl) (Nat.le_of_ble_eq_true rfl) (Nat.le_of_ble_eq_true rfl) rfl ?_
    refine v_if_ne (tgt := 21) dX3_level_15 (by decide) rfl (fun _ => ?_) (fun q => absurd q (by decide))
    refine v_iconst (v := nI 4) dX3_level_21 (by decide) rfl ?_
    refine v_iload_n dX3_level_22 rfl rfl ?_
    refine v_imulN dX3_level_23 rfl ?_
    refine v_iload_n dX3_level_24 rfl rfl ?_
    refine v_iaddN dX3_level_25 rfl ?_
    refine v_top (y := nI (a * 4 + b)) (congrArg nI (by omega)) ?_
    refine v_istore dX3_level_26 (Nat.le_of_ble_eq_true rfl) rfl ?_
    refine v_aload_n dX3_level_28 rfl rfl ?_
    refine v_dup dX3_level_29 rfl rfl ?_
    refine v_getf dX3_level_30 fl_X3_58 (by first | assumption | exact set_get (by assumption) | exact (set_ne (by decide)).trans (by assumption)) (by rfl) rfl ?_
    refine v_aload_n dX3_level_33 rfl rfl ?_
    refine v_getf dX3_level_34 fl_X3_7 (by first | assumption | exact set_get (by assumption) | exact (set_ne (by decide)).trans (by assumption)) (by rfl) rfl ?_
    refine v_iload dX3_level_37 rfl rfl ?_
    refine v_iald _ dX3_level_39 (by first | assumption | exact set_get (by assumption) | exact (set_ne (by decide)).trans (by assumption)) rfl (by omega) (by decide) rfl ?_
    refine v_top (y := nI 2) ((hK _ hj).1.trans ec) ?_
    refine v_if_ne (tgt := 47) dX3_level_40 (by decide) rfl (fun _ => ?_) (fun q => absurd q (by decide))
    refine v_aload_n dX3_level_47 rfl rfl ?_
    refine v_getf dX3_level_48 fl_X3_7 (by first | assumption | exact set_get (by assumption) | exact (set_ne (by decide)).trans (by assumption)) (by rfl) rfl ?_
    refine v_iload dX3_level_51 rfl rfl ?_
    refine v_iald _ dX3_level_53 (by first | assumption | exact set_get (by assumption) | exact (set_ne (by decide)).trans (by assumption)) rfl (by omega) (by decide) rfl ?_
    refine v_top (y := nI 2) ((hK _ hj).1.trans ec) ?_
    refine v_iconst (v := nI 1) dX3_level_54 (by decide) rfl ?_
    refine v_icmp_ne (tgt := 64) dX3_level_55 (by decide) rfl (fun _ => ?_) (fun q => absurd q (by decide))
    refine v_ldc2 dX3_level_64 tg_X3_64 rfl ?_
    refine v_ladd dX3_level_67 rfl ?_
    refine v_putf dX3_level_68 fl_X3_58 (by first | assumption | exact set_get (by assumption) | exact (set_ne (by decide)).trans (by assumption)) (by rfl) (by rfl) (by exact Nat.le_of_ble_eq_true rfl) rfl ?_
    refine v_aload_n dX3_level_71 rfl rfl ?_
    refine v_iload dX3_level_72 rfl rfl ?_
    refine v_iload_n dX3_level_74 rfl rfl ?_
    refine v_cvf dX3_level_75 cw_X3_66 ⟨tn_X3_levelOf, tl_X3_levelOf⟩ rfl ((hM2 _).1) (m_levelOf G _ (hM2 _) (hI2 _) hj v) (by rfl) (by rfl) (Nat.le_of_ble_eq_true rfl) (Nat.le_of_ble_eq_true rfl) (Nat.le_of_ble_eq_true rfl) (Nat.le_of_ble_eq_true rfl) (Nat.le_of_ble_eq_true rfl) rfl ?_
    exact v_iret dX3_level_78 rfl ⟨Nat.le_of_ble_eq_true rfl, Nat.le_of_ble_eq_true rfl⟩ (⟨rfl, ⟨_, by rw [e1]; exact hM2 _⟩, FrM.rf.set (by omega)⟩)
theorem mm_level_n {z x w : Int32} (h : ¬ ((InR z 2 ∧ InR x 4) ∧ InR w 10)) : Ct G mX3_level 5 0 0 [.ref (G.2.2.2 + 31), .int z, .int x, .int w] hp (Qf (some (.int (-100))) hp) := by
  refine Ct.start 1 (by decide) rfl (Nat.le_of_ble_eq_true rfl) ?_
  refine v_iload_n dX3_level_0 rfl rfl ?_
  refine v_iload_n dX3_level_1 rfl rfl ?_
  by_cases q2 : InR z 2 ∧ InR x 4
  · refine v_csf dX3_level_2 cw_X3_44 ts_X3_isLine ((c_isLine G hp z x).yes ‹_›) (by rfl) (by rfl) (Nat.le_of_ble_eq_true rfl) (Nat.le_of_ble_eq_true rfl) (Nat.le_of_ble_eq_true rfl) (Nat.le_of_ble_eq_true rfl) (Nat.le_of_ble_eq_true rfl) rfl ?_
    refine v_if_eq (tgt := 18) dX3_level_5 (by decide) rfl (fun q => absurd q (by decide)) (fun _ => ?_)
    refine v_iload_n dX3_level_8 rfl rfl ?_
    refine v_iconst (v := nI 0) dX3_level_9 (by decide) rfl ?_
    refine v_bipush (v := nI 9) dX3_level_10 (by decide) rfl ?_
    by_cases q12 : InR w 10
    · refine v_csf dX3_level_12 cw_X3_40 ts_X3_in ((c_in0 G hp w 9 (by decide)).yes ‹_›) (by rfl) (by rfl) (Nat.le_of_ble_eq_true rfl) (Nat.le_of_ble_eq_true rfl) (Nat.le_of_ble_eq_true rfl) (Nat.le_of_ble_eq_true rfl) (Nat.le_of_ble_eq_true rfl) rfl ?_
      refine v_if_ne (tgt := 21) dX3_level_15 (by decide) rfl (fun _ => ?_) (fun q => absurd q (by decide))
      exact absurd ⟨q2, q12⟩ h
    · refine v_csf dX3_level_12 cw_X3_40 ts_X3_in ((c_in0 G hp w 9 (by decide)).no ‹_›) (by rfl) (by rfl) (Nat.le_of_ble_eq_true rfl) (Nat.le_of_ble_eq_true rfl) (Nat.le_of_ble_eq_true rfl) (Nat.le_of_ble_eq_true rfl) (Nat.le_of_ble_eq_true rfl) rfl ?_
      refine v_if_ne (tgt := 21) dX3_level_15 (by decide) rfl (fun q => absurd (by decide) q) (fun _ => ?_)
      refine v_bipush (v := (-100)) dX3_level_18 (by decide) rfl ?_
      exact v_iret dX3_level_20 rfl ⟨Nat.le_of_ble_eq_true rfl, Nat.le_of_ble_eq_true rfl⟩ (⟨rfl, rfl⟩)
  · refine v_csf dX3_level_2 cw_X3_44 ts_X3_isLine ((c_isLine G hp z x).no ‹_›) (by rfl) (by rfl) (Nat.le_of_ble_eq_true rfl) (Nat.le_of_ble_eq_true rfl) (Nat.le_of_ble_eq_true rfl) (Nat.le_of_ble_eq_true rfl) (Nat.le_of_ble_eq_true rfl) rfl ?_
    refine v_if_eq (tgt := 18) dX3_level_5 (by decide) rfl (fun _ => ?_) (fun q => absurd (by decide) q)
    refine v_bipush (v := (-100)) dX3_level_18 (by decide) rfl ?_
    exact v_iret dX3_level_20 rfl ⟨Nat.le_of_ble_eq_true rfl, Nat.le_of_ble_eq_true rfl⟩ (⟨rfl, rfl⟩)
theorem mm_sense_y (hM : PM G s y hp) {a b w : Nat} (ha : a < 2) (hb : b < 4) (hw : w < 2) : Ct G mX3_sense 3 0 0 [.ref (G.2.2.2 + 31), .int (nI a), .int (nI b), .int (nI w)] hp (Qf (some (.int (snI s (a * 4 + b) w))) hp) := by
  have m0 := hM.1
  have hj : a * 4 + b < 8 := by omega
  have h2 : w = 0 ∨ w = 1 := by omega
  refine Ct.start 0 (by decide) rfl (Nat.le_of_ble_eq_true rfl) ?_
  rcases h2 with h2 | h2 <;> subst h2
  · refine v_iload_n dX3_sense_0 rfl rfl ?_
    refine v_iload_n dX3_sense_1 rfl rfl ?_
    refine v_csf dX3_sense_2 cw_X3_44 ts_X3_isLine ((c_isLine G hp (nI a) (nI b)).yes ⟨inR_nI ha (by decide), inR_nI hb (by decide)⟩) (by rfl) (by rfl) (Nat.le_of_ble_eq_true rfl) (Nat.le_of_ble_eq_true rfl) (Nat.le_of_ble_eq_true rfl) (Nat.le_of_ble_eq_true rfl) (Nat.le_of_ble_eq_true rfl) rfl ?_
    refine v_if_eq (tgt := 38) dX3_sense_5 (by decide) rfl (fun q => absurd q (by decide)) (fun _ => ?_)
    refine v_iload_n dX3_sense_8 rfl rfl ?_
    refine v_iconst (v := nI 0) dX3_sense_9 (by decide) rfl ?_
    refine v_iconst (v := nI 1) dX3_sense_10 (by decide) rfl ?_
    refine v_csf dX3_sense_11 cw_X3_40 ts_X3_in ((c_in0 G hp (nI 0) 1 (by decide)).yes (by decide)) (by rfl) (by rfl) (Nat.le_of_ble_eq_true rfl) (Nat.le_of_ble_eq_true rfl) (Nat.le_of_ble_eq_true rfl) (Nat.le_of_ble_eq_true rfl) (Nat.le_of_ble_eq_true rfl) rfl ?_
    refine v_if_eq (tgt := 38) dX3_sense_14 (by decide) rfl (fun q => absurd q (by decide)) (fun _ => ?_)
    refine v_aload_n dX3_sense_17 rfl rfl ?_
    refine v_iconst (v := nI 4) dX3_sense_18 (by decide) rfl ?_
    refine v_iload_n dX3_sense_19 rfl rfl ?_
    refine v_imulN dX3_sense_20 rfl ?_
    refine v_iload_n dX3_sense_21 rfl rfl ?_
    refine v_iaddN dX3_sense_22 rfl ?_
    refine v_top (y := nI (a * 4 + b)) (congrArg nI (by omega)) ?_
    refine v_iload_n dX3_sense_23 rfl rfl ?_
    refine v_if_ne (tgt := 31) dX3_sense_24 (by decide) rfl (fun q => absurd (by decide) q) (fun _ => ?_)
    refine v_iconst (v := nI 1) dX3_sense_27 (by decide) rfl ?_
    refine v_goto (tgt := 32) dX3_sense_28 (by decide) ?_
    refine v_cvf dX3_sense_32 cw_X3_69 ⟨tn_X3_senseOf, tl_X3_senseOf⟩ rfl (by first | assumption | exact set_get (by assumption) | exact (set_ne (by decide)).trans (by assumption)) (m_gaps G hp hM hj) (by rfl) (by rfl) (Nat.le_of_ble_eq_true rfl) (Nat.le_of_ble_eq_true rfl) (Nat.le_of_ble_eq_true rfl) (Nat.le_of_ble_eq_true rfl) (Nat.le_of_ble_eq_true rfl) rfl ?_
    refine v_goto (tgt := 40) dX3_sense_35 (by decide) ?_
    exact v_iret dX3_sense_40 rfl ⟨Nat.le_of_ble_eq_true rfl, Nat.le_of_ble_eq_true rfl⟩ (⟨rfl, rfl⟩)
  · refine v_iload_n dX3_sense_0 rfl rfl ?_
    refine v_iload_n dX3_sense_1 rfl rfl ?_
    refine v_csf dX3_sense_2 cw_X3_44 ts_X3_isLine ((c_isLine G hp (nI a) (nI b)).yes ⟨inR_nI ha (by decide), inR_nI hb (by decide)⟩) (by rfl) (by rfl) (Nat.le_of_ble_eq_true rfl) (Nat.le_of_ble_eq_true rfl) (Nat.le_of_ble_eq_true rfl) (Nat.le_of_ble_eq_true rfl) (Nat.le_of_ble_eq_true rfl) rfl ?_
    refine v_if_eq (tgt := 38) dX3_sense_5 (by decide) rfl (fun q => absurd q (by decide)) (fun _ => ?_)
    refine v_iload_n dX3_sense_8 rfl rfl ?_
    refine v_iconst (v := nI 0) dX3_sense_9 (by decide) rfl ?_
    refine v_iconst (v := nI 1) dX3_sense_10 (by decide) rfl ?_
    refine v_csf dX3_sense_11 cw_X3_40 ts_X3_in ((c_in0 G hp (nI 1) 1 (by decide)).yes (by decide)) (by rfl) (by rfl) (Nat.le_of_ble_eq_true rfl) (Nat.le_of_ble_eq_true rfl) (Nat.le_of_ble_eq_true rfl) (Nat.le_of_ble_eq_true rfl) (Nat.le_of_ble_eq_true rfl) rfl ?_
    refine v_if_eq (tgt := 38) dX3_sense_14 (by decide) rfl (fun q => absurd q (by decide)) (fun _ => ?_)
    refine v_aload_n dX3_sense_17 rfl rfl ?_
    refine v_iconst (v := nI 4) dX3_sense_18 (by decide) rfl ?_
    refine v_iload_n dX3_sense_19 rfl rfl ?_
    refine v_imulN dX3_sense_20 rfl ?_
    refine v_iload_n dX3_sense_21 rfl rfl ?_
    refine v_iaddN dX3_sense_22 rfl ?_
    refine v_top (y := nI (a * 4 + b)) (congrArg nI (by omega)) ?_
    refine v_iload_n dX3_sense_23 rfl rfl ?_
    refine v_if_ne (tgt := 31) dX3_sense_24 (by decide) rfl (fun _ => ?_) (fun q => absurd q (by decide))
    refine v_iconst (v := nI 0) dX3_sense_31 (by decide) rfl ?_
    refine v_cvf dX3_sense_32 cw_X3_69 ⟨tn_X3_senseOf, tl_X3_senseOf⟩ rfl (by first | assumption | exact set_get (by assumption) | exact (set_ne (by decide)).trans (by assumption)) (m_overs G hp hM hj) (by rfl) (by rfl) (Nat.le_of_ble_eq_true rfl) (Nat.le_of_ble_eq_true rfl) (Nat.le_of_ble_eq_true rfl) (Nat.le_of_ble_eq_true rfl) (Nat.le_of_ble_eq_true rfl) rfl ?_
    refine v_goto (tgt := 40) dX3_sense_35 (by decide) ?_
    exact v_iret dX3_sense_40 rfl ⟨Nat.le_of_ble_eq_true rfl, Nat.le_of_ble_eq_true rfl⟩ (⟨rfl, rfl⟩)
theorem mm_sense_n {z x w : Int32} (h : ¬ ((InR z 2 ∧ InR x 4) ∧ InR w 2)) : Ct G mX3_sense 3 0 0 [.ref (G.2.2.2 + 31), .int z, .int x, .int w] hp (Qf (some (.int (-100))) hp) := by
  refine Ct.start 0 (by decide) rfl (Nat.le_of_ble_eq_true rfl) ?_
  refine v_iload_n dX3_sense_0 rfl rfl ?_
  refine v_iload_n dX3_sense_1 rfl rfl ?_
  by_cases q2 : InR z 2 ∧ InR x 4
  · refine v_csf dX3_sense_2 cw_X3_44 ts_X3_isLine ((c_isLine G hp z x).yes ‹_›) (by rfl) (by rfl) (Nat.le_of_ble_eq_true rfl) (Nat.le_of_ble_eq_true rfl) (Nat.le_of_ble_eq_true rfl) (Nat.le_of_ble_eq_true rfl) (Nat.le_of_ble_eq_true rfl) rfl ?_
    refine v_if_eq (tgt := 38) dX3_sense_5 (by decide) rfl (fun q => absurd q (by decide)) (fun _ => ?_)
    refine v_iload_n dX3_sense_8 rfl rfl ?_
    refine v_iconst (v := nI 0) dX3_sense_9 (by decide) rfl ?_
    refine v_iconst (v := nI 1) dX3_sense_10 (by decide) rfl ?_
    by_cases q11 : InR w 2
    · refine v_csf dX3_sense_11 cw_X3_40 ts_X3_in ((c_in0 G hp w 1 (by decide)).yes ‹_›) (by rfl) (by rfl) (Nat.le_of_ble_eq_true rfl) (Nat.le_of_ble_eq_true rfl) (Nat.le_of_ble_eq_true rfl) (Nat.le_of_ble_eq_true rfl) (Nat.le_of_ble_eq_true rfl) rfl ?_
      refine v_if_eq (tgt := 38) dX3_sense_14 (by decide) rfl (fun q => absurd q (by decide)) (fun _ => ?_)
      exact absurd ⟨q2, q11⟩ h
    · refine v_csf dX3_sense_11 cw_X3_40 ts_X3_in ((c_in0 G hp w 1 (by decide)).no ‹_›) (by rfl) (by rfl) (Nat.le_of_ble_eq_true rfl) (Nat.le_of_ble_eq_true rfl) (Nat.le_of_ble_eq_true rfl) (Nat.le_of_ble_eq_true rfl) (Nat.le_of_ble_eq_true rfl) rfl ?_
      refine v_if_eq (tgt := 38) dX3_sense_14 (by decide) rfl (fun _ => ?_) (fun q => absurd (by decide) q)
      refine v_bipush (v := (-100)) dX3_sense_38 (by decide) rfl ?_
      exact v_iret dX3_sense_40 rfl ⟨Nat.le_of_ble_eq_true rfl, Nat.le_of_ble_eq_true rfl⟩ (⟨rfl, rfl⟩)
  · refine v_csf dX3_sense_2 cw_X3_44 ts_X3_isLine ((c_isLine G hp z x).no ‹_›) (by rfl) (by rfl) (Nat.le_of_ble_eq_true rfl) (Nat.le_of_ble_eq_true rfl) (Nat.le_of_ble_eq_true rfl) (Nat.le_of_ble_eq_true rfl) (Nat.le_of_ble_eq_true rfl) rfl ?_
    refine v_if_eq (tgt := 38) dX3_sense_5 (by decide) rfl (fun _ => ?_) (fun q => absurd (by decide) q)
    refine v_bipush (v := (-100)) dX3_sense_38 (by decide) rfl ?_
    exact v_iret dX3_sense_40 rfl ⟨Nat.le_of_ble_eq_true rfl, Nat.le_of_ble_eq_true rfl⟩ (⟨rfl, rfl⟩)
theorem mm_sensible_y (hM : PM G s y hp) (hI : Inv s) {a b : Nat} (ha : a < 2) (hb : b < 4) : Ct G mX3_sensible 6 0 0 [.ref (G.2.2.2 + 31), .int (nI a), .int (nI b)] hp (Qf (some (.int (bP (senS s a b)))) hp) := by
  have m0 := hM.1
  have hj : a * 4 + b < 8 := by omega
  refine Ct.start 0 (by decide) rfl (Nat.le_of_ble_eq_true rfl) ?_
  refine v_iload_n dX3_sensible_0 rfl rfl ?_
  refine v_iload_n dX3_sensible_1 rfl rfl ?_
  refine v_csf dX3_sensible_2 cw_X3_44 ts_X3_isLine ((c_isLine G hp (nI a) (nI b)).yes ⟨inR_nI ha (by decide), inR_nI hb (by decide)⟩) (by rfl) (by rfl) (Nat.le_of_ble_eq_true rfl) (Nat.le_of_ble_eq_true rfl) (Nat.le_of_ble_eq_true rfl) (Nat.le_of_ble_eq_true rfl) (Nat.le_of_ble_eq_true rfl) rfl ?_
  refine v_if_ne (tgt := 13) dX3_sensible_5 (by decide) rfl (fun _ => ?_) (fun q => absurd q (by decide))
  refine v_aload_n dX3_sensible_13 rfl rfl ?_
  refine v_iconst (v := nI 4) dX3_sensible_14 (by decide) rfl ?_
  refine v_iload_n dX3_sensible_15 rfl rfl ?_
  refine v_imulN dX3_sensible_16 rfl ?_
  refine v_iload_n dX3_sensible_17 rfl rfl ?_
  refine v_iaddN dX3_sensible_18 rfl ?_
  refine v_top (y := nI (a * 4 + b)) (congrArg nI (by omega)) ?_
  by_cases q19 : senS s a b
  · refine v_cvf dX3_sensible_19 cw_X3_73 ⟨tn_X3_isSensible, tl_X3_isSensible⟩ rfl (by first | assumption | exact set_get (by assumption) | exact (set_ne (by decide)).trans (by assumption)) ((m_isSensible G hp hM hI hj).yes ‹_›) (by rfl) (by rfl) (Nat.le_of_ble_eq_true rfl) (Nat.le_of_ble_eq_true rfl) (Nat.le_of_ble_eq_true rfl) (Nat.le_of_ble_eq_true rfl) (Nat.le_of_ble_eq_true rfl) rfl ?_
    refine v_if_eq (tgt := 29) dX3_sensible_22 (by decide) rfl (fun q => absurd q (by decide)) (fun _ => ?_)
    refine v_iconst (v := nI 1) dX3_sensible_25 (by decide) rfl ?_
    refine v_goto (tgt := 30) dX3_sensible_26 (by decide) ?_
    exact v_iret dX3_sensible_30 rfl ⟨Nat.le_of_ble_eq_true rfl, Nat.le_of_ble_eq_true rfl⟩ (⟨by first | (rw [bP_t q19]; done) | (rw [bP_f q19]; done), rfl⟩)
  · refine v_cvf dX3_sensible_19 cw_X3_73 ⟨tn_X3_isSensible, tl_X3_isSensible⟩ rfl (by first | assumption | exact set_get (by assumption) | exact (set_ne (by decide)).trans (by assumption)) ((m_isSensible G hp hM hI hj).no ‹_›) (by rfl) (by rfl) (Nat.le_of_ble_eq_true rfl) (Nat.le_of_ble_eq_true rfl) (Nat.le_of_ble_eq_true rfl) (Nat.le_of_ble_eq_true rfl) (Nat.le_of_ble_eq_true rfl) rfl ?_
    refine v_if_eq (tgt := 29) dX3_sensible_22 (by decide) rfl (fun _ => ?_) (fun q => absurd (by decide) q)
    refine v_iconst (v := nI 0) dX3_sensible_29 (by decide) rfl ?_
    exact v_iret dX3_sensible_30 rfl ⟨Nat.le_of_ble_eq_true rfl, Nat.le_of_ble_eq_true rfl⟩ (⟨by first | (rw [bP_t q19]; done) | (rw [bP_f q19]; done), rfl⟩)
theorem mm_sensible_n {z x : Int32} (h : ¬ (InR z 2 ∧ InR x 4)) : Ct G mX3_sensible 6 0 0 [.ref (G.2.2.2 + 31), .int z, .int x] hp (Qf (some (.int (-100))) hp) := by
  refine Ct.start 0 (by decide) rfl (Nat.le_of_ble_eq_true rfl) ?_
  refine v_iload_n dX3_sensible_0 rfl rfl ?_
  refine v_iload_n dX3_sensible_1 rfl rfl ?_
  refine v_csf dX3_sensible_2 cw_X3_44 ts_X3_isLine ((c_isLine G hp z x).no h) (by rfl) (by rfl) (Nat.le_of_ble_eq_true rfl) (Nat.le_of_ble_eq_true rfl) (Nat.le_of_ble_eq_true rfl) (Nat.le_of_ble_eq_true rfl) (Nat.le_of_ble_eq_true rfl) rfl ?_
  refine v_if_ne (tgt := 13) dX3_sensible_5 (by decide) rfl (fun q => absurd (by decide) q) (fun _ => ?_)
  refine v_bipush (v := (-100)) dX3_sensible_8 (by decide) rfl ?_
  refine v_goto (tgt := 30) dX3_sensible_10 (by decide) ?_
  exact v_iret dX3_sensible_30 rfl ⟨Nat.le_of_ble_eq_true rfl, Nat.le_of_ble_eq_true rfl⟩ (⟨rfl, rfl⟩)
end MFACE1

