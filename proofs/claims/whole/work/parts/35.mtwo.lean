-- LOOK: by first | assumption | exact set_get (by assumption) | exact (set_ne (by decide)).trans (by assumption) | exact set_get (set_get (by assumption))
-- BND omega
/-! THE REFERENCE'S FACE: copy -/
def beF (w : Nat) (f : Nat → Int32) (i h : Nat) : Nat → Int32 := upd (upd f i (if w = 0 then f i else f (h + i))) (h + i) (if w = 1 then f (h + i) else f i)
def bcF (w h : Nat) (f : Nat → Int32) : Nat → (Nat → Int32)
  | 0 => f
  | k + 1 => beF w (bcF w h f k) k h
theorem bcF_at (w h : Nat) (f : Nat → Int32) : ∀ k, k ≤ h → ∀ j, j < 2 * h → bcF w h f k j = if j < h then (if j < k ∧ w ≠ 0 then f (h + j) else f j) else (if j - h < k ∧ w ≠ 1 then f (j - h) else f j)
  | 0, _, j, _ => by
    rw [show bcF w h f 0 j = f j from rfl]
    by_cases h1 : j < h
    · rw [if_pos h1, if_neg (by omega)]
    · rw [if_neg h1, if_neg (by omega)]
  | k + 1, hk, j, hj => by
    have ih := bcF_at w h f k (by omega)
    have e1 : bcF w h f k k = f k := by rw [ih k (by omega), if_pos (by omega), if_neg (by omega)]
    have e2 : bcF w h f k (h + k) = f (h + k) := by rw [ih (h + k) (by omega), if_neg (by omega), if_neg (by omega)]
    rw [show bcF w h f (k + 1) j = beF w (bcF w h f k) k h j from rfl]
    unfold beF
    rw [upd_at, upd_at, e1, e2, ih j hj]
    by_cases j1 : j = h + k
    · subst j1
      rw [if_pos rfl, if_neg (show ¬ h + k < h by omega), show h + k - h = k by omega]
      by_cases w1 : w = 1
      · rw [if_pos w1, if_neg (by omega)]
      · rw [if_neg w1, if_pos (show k < k + 1 ∧ w ≠ 1 from ⟨by omega, w1⟩)]
    · rw [if_neg j1]
      by_cases j2 : j = k
      · subst j2
        rw [if_pos rfl, if_pos (show j < h by omega)]
        by_cases w0 : w = 0
        · rw [if_pos w0, if_neg (by omega)]
        · rw [if_neg w0, if_pos (show j < j + 1 ∧ w ≠ 0 from ⟨by omega, w0⟩)]
      · rw [if_neg j2]
        by_cases j3 : j < h
        · rw [if_pos j3, if_pos j3]
          by_cases q : j < k ∧ w ≠ 0
          · rw [if_pos q, if_pos (show j < k + 1 ∧ w ≠ 0 from ⟨by omega, q.2⟩)]
          · rw [if_neg q, if_neg (show ¬ (j < k + 1 ∧ w ≠ 0) by omega)]
        · rw [if_neg j3, if_neg j3]
          by_cases q : j - h < k ∧ w ≠ 1
          · rw [if_pos q, if_pos (show j - h < k + 1 ∧ w ≠ 1 from ⟨by omega, q.2⟩)]
          · rw [if_neg q, if_neg (show ¬ (j - h < k + 1 ∧ w ≠ 1) by omega)]
/-- where a LINE comes from -/
def srcJ (w j : Nat) : Nat := if j < 4 then (if w = 0 then j else 4 + j) else (if w = 1 then j else j - 4)
theorem srcJ_lt {w j : Nat} (hj : j < 8) : srcJ w j < 8 := by
  unfold srcJ
  split <;> split <;> omega
theorem bcF4 (w : Nat) (f : Nat → Int32) {j : Nat} (hj : j < 8) : bcF w 4 f 4 j = f (srcJ w j) := by
  rw [bcF_at w 4 f 4 (Nat.le_refl _) j (by omega)]
  unfold srcJ
  by_cases h1 : j < 4
  · rw [if_pos h1, if_pos h1]
    by_cases w0 : w = 0
    · rw [if_pos w0, if_neg (by omega)]
    · rw [if_neg w0, if_pos ⟨h1, w0⟩]
  · rw [if_neg h1, if_neg h1]
    by_cases w1 : w = 1
    · rw [if_pos w1, if_neg (by omega)]
    · rw [if_neg w1, if_pos ⟨by omega, w1⟩]
theorem bcF16 (w : Nat) (f : Nat → Int32) {j k : Nat} (hj : j < 8) (hk : k < 4) : bcF w 16 f 16 (4 * j + k) = f (4 * srcJ w j + k) := by
  rw [bcF_at w 16 f 16 (Nat.le_refl _) _ (by omega)]
  unfold srcJ
  by_cases h1 : j < 4
  · rw [if_pos (show 4 * j + k < 16 by omega), if_pos h1]
    by_cases w0 : w = 0
    · rw [if_pos w0, if_neg (by omega)]
    · rw [if_neg w0, if_pos ⟨by omega, w0⟩]
      congr 1
      omega
  · rw [if_neg (show ¬ 4 * j + k < 16 by omega), if_neg h1]
    by_cases w1 : w = 1
    · rw [if_pos w1, if_neg (by omega)]
    · rw [if_neg w1, if_pos ⟨by omega, w1⟩]
      congr 1
      omega
theorem cp_vals (s : ST) : ∀ w, w < 3 → ∀ j, j < 8 → (cpS s w).kd j = s.kd (srcJ w j) ∧ (cpS s w).fc j = s.fc (srcJ w j) ∧ (cpS s w).wt j = s.wt (srcJ w j) ∧ ∀ k, k < 4 → (cpS s w).fr j k = s.fr (srcJ w j) k ∧ (cpS s w).to j k = s.to (srcJ w j) k := by
  intro w hw j hj
  have h3 : w = 0 ∨ w = 1 ∨ w = 2 := by omega
  have h8 : j = 0 ∨ j = 1 ∨ j = 2 ∨ j = 3 ∨ j = 4 ∨ j = 5 ∨ j = 6 ∨ j = 7 := by omega
  rcases h3 with h3 | h3 | h3 <;> subst h3 <;> rcases h8 with h8 | h8 | h8 | h8 | h8 | h8 | h8 | h8 <;> subst h8 <;> refine ⟨rfl, rfl, rfl, fun k hk => ?_⟩ <;> first | exact ⟨rfl, rfl⟩ | exact ⟨cpyT_at _ _ 4 k hk, cpyT_at _ _ 4 k hk⟩
section MCOPY
variable (G : GG) (hp : List va_E) {s : ST} {y : YT}
theorem m_become0 {c n i h : Nat} {f : Nat → Int32} (hn : n ≤ 100) (hc : hp[c]? = some (aI G n f)) (hi : h + i < n) : Ct G mX3_become 0 0 0 [.ref (G.2.2.2 + 31), .ref (G.2.2.2 + c), .int (nI i), .int (nI 0), .int (nI 0), .int (nI h)] hp (Qf none (hp.set c (aI G n (beF 0 f i h)))) := by
  refine Ct.start 2 (by decide) rfl (Nat.le_of_ble_eq_true rfl) ?_
  refine v_aload_n dX3_become_0 rfl rfl ?_
  refine v_iload_n dX3_become_1 rfl rfl ?_
  refine v_iald _ dX3_become_2 (by first | assumption | exact set_get (by assumption) | exact (set_ne (by decide)).trans (by assumption) | exact set_get (set_get (by assumption))) rfl (by omega) (by omega) rfl ?_
  refine v_istore dX3_become_3 (Nat.le_of_ble_eq_true rfl) rfl ?_
  refine v_aload_n dX3_become_5 rfl rfl ?_
  refine v_iload dX3_become_6 rfl rfl ?_
  refine v_iload_n dX3_become_8 rfl rfl ?_
  refine v_iaddN dX3_become_9 rfl ?_
  refine v_iald _ dX3_become_10 (by first | assumption | exact set_get (by assumption) | exact (set_ne (by decide)).trans (by assumption) | exact set_get (set_get (by assumption))) rfl (by omega) (by omega) rfl ?_
  refine v_istore dX3_become_11 (Nat.le_of_ble_eq_true rfl) rfl ?_
  refine v_aload_n dX3_become_13 rfl rfl ?_
  refine v_iload_n dX3_become_14 rfl rfl ?_
  refine v_iload_n dX3_become_15 rfl rfl ?_
  refine v_if_ne (tgt := 24) dX3_become_16 (by decide) rfl (fun q => absurd (by decide) q) (fun _ => ?_)
  refine v_iload dX3_become_19 rfl rfl ?_
  refine v_if_eq (tgt := 29) dX3_become_21 (by decide) rfl (fun _ => ?_) (fun q => absurd (by decide) q)
  refine v_iload dX3_become_29 rfl rfl ?_
  refine v_iast _ dX3_become_31 (by first | assumption | exact set_get (by assumption) | exact (set_ne (by decide)).trans (by assumption) | exact set_get (set_get (by assumption))) rfl (by omega) (by omega) rfl ?_
  refine v_aload_n dX3_become_32 rfl rfl ?_
  refine v_iload dX3_become_33 rfl rfl ?_
  refine v_iload_n dX3_become_35 rfl rfl ?_
  refine v_iaddN dX3_become_36 rfl ?_
  refine v_iload_n dX3_become_37 rfl rfl ?_
  refine v_if_eq (tgt := 46) dX3_become_38 (by decide) rfl (fun _ => ?_) (fun q => absurd (by decide) q)
  refine v_iload dX3_become_46 rfl rfl ?_
  refine v_goto (tgt := 53) dX3_become_48 (by decide) ?_
  refine v_iast _ dX3_become_53 (by first | assumption | exact set_get (by assumption) | exact (set_ne (by decide)).trans (by assumption) | exact set_get (set_get (by assumption))) rfl (by omega) (by omega) rfl ?_
  exact v_vret dX3_become_54 rfl ⟨Nat.le_of_ble_eq_true rfl, Nat.le_of_ble_eq_true rfl⟩ (⟨rfl, List.set_set ..⟩)
theorem m_become1 {c n i h : Nat} {f : Nat → Int32} (hn : n ≤ 100) (hc : hp[c]? = some (aI G n f)) (hi : h + i < n) : Ct G mX3_become 0 0 0 [.ref (G.2.2.2 + 31), .ref (G.2.2.2 + c), .int (nI i), .int (nI 1), .int (nI 0), .int (nI h)] hp (Qf none (hp.set c (aI G n (beF 1 f i h)))) := by
  refine Ct.start 2 (by decide) rfl (Nat.le_of_ble_eq_true rfl) ?_
  refine v_aload_n dX3_become_0 rfl rfl ?_
  refine v_iload_n dX3_become_1 rfl rfl ?_
  refine v_iald _ dX3_become_2 (by first | assumption | exact set_get (by assumption) | exact (set_ne (by decide)).trans (by assumption) | exact set_get (set_get (by assumption))) rfl (by omega) (by omega) rfl ?_
  refine v_istore dX3_become_3 (Nat.le_of_ble_eq_true rfl) rfl ?_
  refine v_aload_n dX3_become_5 rfl rfl ?_
  refine v_iload dX3_become_6 rfl rfl ?_
  refine v_iload_n dX3_become_8 rfl rfl ?_
  refine v_iaddN dX3_become_9 rfl ?_
  refine v_iald _ dX3_become_10 (by first | assumption | exact set_get (by assumption) | exact (set_ne (by decide)).trans (by assumption) | exact set_get (set_get (by assumption))) rfl (by omega) (by omega) rfl ?_
  refine v_istore dX3_become_11 (Nat.le_of_ble_eq_true rfl) rfl ?_
  refine v_aload_n dX3_become_13 rfl rfl ?_
  refine v_iload_n dX3_become_14 rfl rfl ?_
  refine v_iload_n dX3_become_15 rfl rfl ?_
  refine v_if_ne (tgt := 24) dX3_become_16 (by decide) rfl (fun _ => ?_) (fun q => absurd q (by decide))
  refine v_iload dX3_become_24 rfl rfl ?_
  refine v_goto (tgt := 31) dX3_become_26 (by decide) ?_
  refine v_iast _ dX3_become_31 (by first | assumption | exact set_get (by assumption) | exact (set_ne (by decide)).trans (by assumption) | exact set_get (set_get (by assumption))) rfl (by omega) (by omega) rfl ?_
  refine v_aload_n dX3_become_32 rfl rfl ?_
  refine v_iload dX3_become_33 rfl rfl ?_
  refine v_iload_n dX3_become_35 rfl rfl ?_
  refine v_iaddN dX3_become_36 rfl ?_
  refine v_iload_n dX3_become_37 rfl rfl ?_
  refine v_if_eq (tgt := 46) dX3_become_38 (by decide) rfl (fun q => absurd q (by decide)) (fun _ => ?_)
  refine v_iload dX3_become_41 rfl rfl ?_
  refine v_if_eq (tgt := 51) dX3_become_43 (by decide) rfl (fun _ => ?_) (fun q => absurd (by decide) q)
  refine v_iload dX3_become_51 rfl rfl ?_
  refine v_iast _ dX3_become_53 (by first | assumption | exact set_get (by assumption) | exact (set_ne (by decide)).trans (by assumption) | exact set_get (set_get (by assumption))) rfl (by omega) (by omega) rfl ?_
  exact v_vret dX3_become_54 rfl ⟨Nat.le_of_ble_eq_true rfl, Nat.le_of_ble_eq_true rfl⟩ (⟨rfl, List.set_set ..⟩)
theorem m_become2 {c n i h : Nat} {f : Nat → Int32} (hn : n ≤ 100) (hc : hp[c]? = some (aI G n f)) (hi : h + i < n) : Ct G mX3_become 0 0 0 [.ref (G.2.2.2 + 31), .ref (G.2.2.2 + c), .int (nI i), .int (nI 0), .int (nI 1), .int (nI h)] hp (Qf none (hp.set c (aI G n (beF 2 f i h)))) := by
  refine Ct.start 2 (by decide) rfl (Nat.le_of_ble_eq_true rfl) ?_
  refine v_aload_n dX3_become_0 rfl rfl ?_
  refine v_iload_n dX3_become_1 rfl rfl ?_
  refine v_iald _ dX3_become_2 (by first | assumption | exact set_get (by assumption) | exact (set_ne (by decide)).trans (by assumption) | exact set_get (set_get (by assumption))) rfl (by omega) (by omega) rfl ?_
  refine v_istore dX3_become_3 (Nat.le_of_ble_eq_true rfl) rfl ?_
  refine v_aload_n dX3_become_5 rfl rfl ?_
  refine v_iload dX3_become_6 rfl rfl ?_
  refine v_iload_n dX3_become_8 rfl rfl ?_
  refine v_iaddN dX3_become_9 rfl ?_
  refine v_iald _ dX3_become_10 (by first | assumption | exact set_get (by assumption) | exact (set_ne (by decide)).trans (by assumption) | exact set_get (set_get (by assumption))) rfl (by omega) (by omega) rfl ?_
  refine v_istore dX3_become_11 (Nat.le_of_ble_eq_true rfl) rfl ?_
  refine v_aload_n dX3_become_13 rfl rfl ?_
  refine v_iload_n dX3_become_14 rfl rfl ?_
  refine v_iload_n dX3_become_15 rfl rfl ?_
  refine v_if_ne (tgt := 24) dX3_become_16 (by decide) rfl (fun q => absurd (by decide) q) (fun _ => ?_)
  refine v_iload dX3_become_19 rfl rfl ?_
  refine v_if_eq (tgt := 29) dX3_become_21 (by decide) rfl (fun q => absurd q (by decide)) (fun _ => ?_)
  refine v_iload dX3_become_24 rfl rfl ?_
  refine v_goto (tgt := 31) dX3_become_26 (by decide) ?_
  refine v_iast _ dX3_become_31 (by first | assumption | exact set_get (by assumption) | exact (set_ne (by decide)).trans (by assumption) | exact set_get (set_get (by assumption))) rfl (by omega) (by omega) rfl ?_
  refine v_aload_n dX3_become_32 rfl rfl ?_
  refine v_iload dX3_become_33 rfl rfl ?_
  refine v_iload_n dX3_become_35 rfl rfl ?_
  refine v_iaddN dX3_become_36 rfl ?_
  refine v_iload_n dX3_become_37 rfl rfl ?_
  refine v_if_eq (tgt := 46) dX3_become_38 (by decide) rfl (fun _ => ?_) (fun q => absurd (by decide) q)
  refine v_iload dX3_become_46 rfl rfl ?_
  refine v_goto (tgt := 53) dX3_become_48 (by decide) ?_
  refine v_iast _ dX3_become_53 (by first | assumption | exact set_get (by assumption) | exact (set_ne (by decide)).trans (by assumption) | exact set_get (set_get (by assumption))) rfl (by omega) (by omega) rfl ?_
  exact v_vret dX3_become_54 rfl ⟨Nat.le_of_ble_eq_true rfl, Nat.le_of_ble_eq_true rfl⟩ (⟨rfl, List.set_set ..⟩)
abbrev cpY (w k : Nat) (y : YT) : YT := ((bcF w 4 y.1.1 (min k 4), bcF w 4 y.1.2.1 (min k 4), bcF w 4 y.1.2.2.1 (min k 4), bcF w 16 y.1.2.2.2.1 k, bcF w 16 y.1.2.2.2.2 k), y.2)
theorem cpY_pm {h : List va_E} (hM : PM G s y hp) {w : Nat} (hw : w < 3) (hR : PR G s.n s.tc (cpY w 16 y) h) : PM G (cpS s w) (cpY w 16 y) h := by
  obtain ⟨hK, hF, hWf, hMk, hTr, hn⟩ := hM.pp
  have e : (cpS s w).n = s.n ∧ (cpS s w).tc = s.tc ∧ (cpS s w).wf = s.wf ∧ (cpS s w).mr = s.mr ∧ (cpS s w).tr = s.tr := by
    have h3 : w = 0 ∨ w = 1 ∨ w = 2 := by omega
    rcases h3 with h3 | h3 | h3 <;> subst h3 <;> exact ⟨rfl, rfl, rfl, rfl, rfl⟩
  refine PM.of (by rw [e.1, e.2.1]; exact hR) ⟨fun j hj => ?_, fun j hj k hk => ?_, by rw [e.1, e.2.2.1]; exact hWf, by rw [e.1, e.2.2.2.1]; exact hMk, by rw [e.1, e.2.2.2.2]; exact hTr, by rw [e.1]; exact hn⟩
  · obtain ⟨v1, v2, v3, v4⟩ := cp_vals s w hw j hj
    obtain ⟨k1, k2, k3⟩ := hK (srcJ w j) (srcJ_lt hj)
    exact ⟨by rw [v1, ← k1]; exact bcF4 w _ hj, by rw [v2, ← k2]; exact bcF4 w _ hj, by rw [v3, ← k3]; exact bcF4 w _ hj⟩
  · obtain ⟨v1, v2, v3, v4⟩ := cp_vals s w hw j hj
    obtain ⟨f1, f2⟩ := hF (srcJ w j) (srcJ_lt hj) k hk
    exact ⟨by rw [(v4 k hk).1, ← f1]; exact bcF16 w _ hj hk, by rw [(v4 k hk).2, ← f2]; exact bcF16 w _ hj hk⟩
theorem mm_copy0 (hM : PM G s y hp) : Ct G mX3_copy 1 0 0 [.ref (G.2.2.2 + 31), .int (nI 0)] hp (QM G hp (nI 1) (cpS s 0)) := by
  have key : ∀ k, k ≤ 16 → ∀ h, PR G s.n s.tc (cpY 0 k y) h → FrM hp h → Vm G mX3_copy 1 0 0 (QM G hp (nI 1) (cpS s 0)) 14 [some (.ref (G.2.2.2 + 31)), some (.int (nI 0)), some (.int (nI k))] [] h 0 0 := by
    refine loop_up ?_ (fun k hk ih => ?_)
    · intro h hR hF
      refine v_iload_n dX3_copy_14 rfl rfl ?_
      refine v_bipush (v := nI 16) dX3_copy_15 (by decide) rfl ?_
      refine v_icmp_geN (tgt := 183) dX3_copy_17 (by decide) rfl (by omega) (by omega) (fun c17 => ?_) (fun c17 => ?_)
      · refine v_iconst (v := nI 1) dX3_copy_183 (by decide) rfl ?_
        exact v_iret dX3_copy_184 rfl ⟨Nat.le_of_ble_eq_true rfl, Nat.le_of_ble_eq_true rfl⟩ (⟨rfl, ⟨_, cpY_pm G hp hM (by decide) hR⟩, hF⟩)
      · exact absurd c17 (by omega)
    · intro h hR hF
      obtain ⟨m0, m1, m2, m3, m4, m5, m6, m7, m8, m9, m10⟩ := id hR
      by_cases k4 : k < 4
      · have e1 : min k 4 = k := by omega
        have e2 : min (k + 1) 4 = k + 1 := by omega
        have hR5 := ((((hR.setK (beF 0 (bcF 0 4 y.1.1 (min k 4)) k 4)).setFc (beF 0 (bcF 0 4 y.1.2.1 (min k 4)) k 4)).setWt (beF 0 (bcF 0 4 y.1.2.2.1 (min k 4)) k 4)).setF (beF 0 (bcF 0 16 y.1.2.2.2.1 k) k 16)).setT (beF 0 (bcF 0 16 y.1.2.2.2.2 k) k 16)
        have r1 := hR.setK (beF 0 (bcF 0 4 y.1.1 (min k 4)) k 4)
        have r2 := r1.setFc (beF 0 (bcF 0 4 y.1.2.1 (min k 4)) k 4)
        have r3 := r2.setWt (beF 0 (bcF 0 4 y.1.2.2.1 (min k 4)) k 4)
        have r4 := r3.setF (beF 0 (bcF 0 16 y.1.2.2.2.1 k) k 16)
        refine v_iload_n dX3_copy_14 rfl rfl ?_
        refine v_bipush (v := nI 16) dX3_copy_15 (by decide) rfl ?_
        refine v_icmp_geN (tgt := 183) dX3_copy_17 (by decide) rfl (by omega) (by omega) (fun c17 => ?_) (fun c17 => ?_)
        · exact absurd c17 (by omega)
        · refine v_iload_n dX3_copy_20 rfl rfl ?_
          refine v_iconst (v := nI 4) dX3_copy_21 (by decide) rfl ?_
          refine v_icmp_geN (tgt := 115) dX3_copy_22 (by decide) rfl (by omega) (by omega) (fun c22 => ?_) (fun c22 => ?_)
          · exact absurd c22 (by omega)
          · refine v_aload_n dX3_copy_25 rfl rfl ?_
            refine v_aload_n dX3_copy_26 rfl rfl ?_
            refine v_getf dX3_copy_27 fl_X3_7 (m0) (by rfl) rfl ?_
            refine v_iload_n dX3_copy_30 rfl rfl ?_
            refine v_iload_n dX3_copy_31 rfl rfl ?_
            refine v_iconst (v := nI 1) dX3_copy_32 (by decide) rfl ?_
            refine v_icmp_ne (tgt := 40) dX3_copy_33 (by decide) rfl (fun _ => ?_) (fun q => absurd q (by decide))
            refine v_iconst (v := nI 0) dX3_copy_40 (by decide) rfl ?_
            refine v_iload_n dX3_copy_41 rfl rfl ?_
            refine v_iconst (v := nI 2) dX3_copy_42 (by decide) rfl ?_
            refine v_icmp_ne (tgt := 50) dX3_copy_43 (by decide) rfl (fun _ => ?_) (fun q => absurd q (by decide))
            refine v_iconst (v := nI 0) dX3_copy_50 (by decide) rfl ?_
            refine v_iconst (v := nI 4) dX3_copy_51 (by decide) rfl ?_
            refine v_cvn dX3_copy_52 cw_X3_130 ⟨tn_X3_become, tl_X3_become⟩ rfl (m0) (m_become0 G _ (i := k) (h := 4) (by decide) m1 (by omega)) (by rfl) (by rfl) (Nat.le_of_ble_eq_true rfl) (Nat.le_of_ble_eq_true rfl) (Nat.le_of_ble_eq_true rfl) (Nat.le_of_ble_eq_true rfl) (Nat.le_of_ble_eq_true rfl) rfl ?_
            refine v_aload_n dX3_copy_55 rfl rfl ?_
            refine v_aload_n dX3_copy_56 rfl rfl ?_
            refine v_getf dX3_copy_57 fl_X3_13 (r1.1) (by rfl) rfl ?_
            refine v_iload_n dX3_copy_60 rfl rfl ?_
            refine v_iload_n dX3_copy_61 rfl rfl ?_
            refine v_iconst (v := nI 1) dX3_copy_62 (by decide) rfl ?_
            refine v_icmp_ne (tgt := 70) dX3_copy_63 (by decide) rfl (fun _ => ?_) (fun q => absurd q (by decide))
            refine v_iconst (v := nI 0) dX3_copy_70 (by decide) rfl ?_
            refine v_iload_n dX3_copy_71 rfl rfl ?_
            refine v_iconst (v := nI 2) dX3_copy_72 (by decide) rfl ?_
            refine v_icmp_ne (tgt := 80) dX3_copy_73 (by decide) rfl (fun _ => ?_) (fun q => absurd q (by decide))
            refine v_iconst (v := nI 0) dX3_copy_80 (by decide) rfl ?_
            refine v_iconst (v := nI 4) dX3_copy_81 (by decide) rfl ?_
            refine v_cvn dX3_copy_82 cw_X3_130 ⟨tn_X3_become, tl_X3_become⟩ rfl (r1.1) (m_become0 G _ (i := k) (h := 4) (by decide) r1.2.2.1 (by omega)) (by rfl) (by rfl) (Nat.le_of_ble_eq_true rfl) (Nat.le_of_ble_eq_true rfl) (Nat.le_of_ble_eq_true rfl) (Nat.le_of_ble_eq_true rfl) (Nat.le_of_ble_eq_true rfl) rfl ?_
            refine v_aload_n dX3_copy_85 rfl rfl ?_
            refine v_aload_n dX3_copy_86 rfl rfl ?_
            refine v_getf dX3_copy_87 fl_X3_16 (r2.1) (by rfl) rfl ?_
            refine v_iload_n dX3_copy_90 rfl rfl ?_
            refine v_iload_n dX3_copy_91 rfl rfl ?_
            refine v_iconst (v := nI 1) dX3_copy_92 (by decide) rfl ?_
            refine v_icmp_ne (tgt := 100) dX3_copy_93 (by decide) rfl (fun _ => ?_) (fun q => absurd q (by decide))
            refine v_iconst (v := nI 0) dX3_copy_100 (by decide) rfl ?_
            refine v_iload_n dX3_copy_101 rfl rfl ?_
            refine v_iconst (v := nI 2) dX3_copy_102 (by decide) rfl ?_
            refine v_icmp_ne (tgt := 110) dX3_copy_103 (by decide) rfl (fun _ => ?_) (fun q => absurd q (by decide))
            refine v_iconst (v := nI 0) dX3_copy_110 (by decide) rfl ?_
            refine v_iconst (v := nI 4) dX3_copy_111 (by decide) rfl ?_
            refine v_cvn dX3_copy_112 cw_X3_130 ⟨tn_X3_become, tl_X3_become⟩ rfl (r2.1) (m_become0 G _ (i := k) (h := 4) (by decide) r2.2.2.2.1 (by omega)) (by rfl) (by rfl) (Nat.le_of_ble_eq_true rfl) (Nat.le_of_ble_eq_true rfl) (Nat.le_of_ble_eq_true rfl) (Nat.le_of_ble_eq_true rfl) (Nat.le_of_ble_eq_true rfl) rfl ?_
            refine v_aload_n dX3_copy_115 rfl rfl ?_
            refine v_aload_n dX3_copy_116 rfl rfl ?_
            refine v_getf dX3_copy_117 fl_X3_19 (r3.1) (by rfl) rfl ?_
            refine v_iload_n dX3_copy_120 rfl rfl ?_
            refine v_iload_n dX3_copy_121 rfl rfl ?_
            refine v_iconst (v := nI 1) dX3_copy_122 (by decide) rfl ?_
            refine v_icmp_ne (tgt := 130) dX3_copy_123 (by decide) rfl (fun _ => ?_) (fun q => absurd q (by decide))
            refine v_iconst (v := nI 0) dX3_copy_130 (by decide) rfl ?_
            refine v_iload_n dX3_copy_131 rfl rfl ?_
            refine v_iconst (v := nI 2) dX3_copy_132 (by decide) rfl ?_
            refine v_icmp_ne (tgt := 140) dX3_copy_133 (by decide) rfl (fun _ => ?_) (fun q => absurd q (by decide))
            refine v_iconst (v := nI 0) dX3_copy_140 (by decide) rfl ?_
            refine v_bipush (v := nI 16) dX3_copy_141 (by decide) rfl ?_
            refine v_cvn dX3_copy_143 cw_X3_130 ⟨tn_X3_become, tl_X3_become⟩ rfl (r3.1) (m_become0 G _ (i := k) (h := 16) (by decide) r3.2.2.2.2.1 (by omega)) (by rfl) (by rfl) (Nat.le_of_ble_eq_true rfl) (Nat.le_of_ble_eq_true rfl) (Nat.le_of_ble_eq_true rfl) (Nat.le_of_ble_eq_true rfl) (Nat.le_of_ble_eq_true rfl) rfl ?_
            refine v_aload_n dX3_copy_146 rfl rfl ?_
            refine v_aload_n dX3_copy_147 rfl rfl ?_
            refine v_getf dX3_copy_148 fl_X3_22 (r4.1) (by rfl) rfl ?_
            refine v_iload_n dX3_copy_151 rfl rfl ?_
            refine v_iload_n dX3_copy_152 rfl rfl ?_
            refine v_iconst (v := nI 1) dX3_copy_153 (by decide) rfl ?_
            refine v_icmp_ne (tgt := 161) dX3_copy_154 (by decide) rfl (fun _ => ?_) (fun q => absurd q (by decide))
            refine v_iconst (v := nI 0) dX3_copy_161 (by decide) rfl ?_
            refine v_iload_n dX3_copy_162 rfl rfl ?_
            refine v_iconst (v := nI 2) dX3_copy_163 (by decide) rfl ?_
            refine v_icmp_ne (tgt := 171) dX3_copy_164 (by decide) rfl (fun _ => ?_) (fun q => absurd q (by decide))
            refine v_iconst (v := nI 0) dX3_copy_171 (by decide) rfl ?_
            refine v_bipush (v := nI 16) dX3_copy_172 (by decide) rfl ?_
            refine v_cvn dX3_copy_174 cw_X3_130 ⟨tn_X3_become, tl_X3_become⟩ rfl (r4.1) (m_become0 G _ (i := k) (h := 16) (by decide) r4.2.2.2.2.2.1 (by omega)) (by rfl) (by rfl) (Nat.le_of_ble_eq_true rfl) (Nat.le_of_ble_eq_true rfl) (Nat.le_of_ble_eq_true rfl) (Nat.le_of_ble_eq_true rfl) (Nat.le_of_ble_eq_true rfl) rfl ?_
            refine v_iinc1 dX3_copy_177 rfl (Nat.le_of_ble_eq_true rfl) rfl ?_
            refine v_goto (tgt := 14) dX3_copy_180 (by decide) ?_
            exact ih _ (by unfold cpY; rw [e2]; rw [e1] at hR5 ⊢; exact hR5) (((((hF.set (by omega)).set (by omega)).set (by omega)).set (by omega)).set (by omega))
      · have e1 : min k 4 = 4 := by omega
        have e2 : min (k + 1) 4 = 4 := by omega
        have r4 := hR.setF (beF 0 (bcF 0 16 y.1.2.2.2.1 k) k 16)
        have hR5 := r4.setT (beF 0 (bcF 0 16 y.1.2.2.2.2 k) k 16)
        refine v_iload_n dX3_copy_14 rfl rfl ?_
        refine v_bipush (v := nI 16) dX3_copy_15 (by decide) rfl ?_
        refine v_icmp_geN (tgt := 183) dX3_copy_17 (by decide) rfl (by omega) (by omega) (fun c17 => ?_) (fun c17 => ?_)
        · exact absurd c17 (by omega)
        · refine v_iload_n dX3_copy_20 rfl rfl ?_
          refine v_iconst (v := nI 4) dX3_copy_21 (by decide) rfl ?_
          refine v_icmp_geN (tgt := 115) dX3_copy_22 (by decide) rfl (by omega) (by omega) (fun c22 => ?_) (fun c22 => ?_)
          · refine v_aload_n dX3_copy_115 rfl rfl ?_
            refine v_aload_n dX3_copy_116 rfl rfl ?_
            refine v_getf dX3_copy_117 fl_X3_19 (m0) (by rfl) rfl ?_
            refine v_iload_n dX3_copy_120 rfl rfl ?_
            refine v_iload_n dX3_copy_121 rfl rfl ?_
            refine v_iconst (v := nI 1) dX3_copy_122 (by decide) rfl ?_
            refine v_icmp_ne (tgt := 130) dX3_copy_123 (by decide) rfl (fun _ => ?_) (fun q => absurd q (by decide))
            refine v_iconst (v := nI 0) dX3_copy_130 (by decide) rfl ?_
            refine v_iload_n dX3_copy_131 rfl rfl ?_
            refine v_iconst (v := nI 2) dX3_copy_132 (by decide) rfl ?_
            refine v_icmp_ne (tgt := 140) dX3_copy_133 (by decide) rfl (fun _ => ?_) (fun q => absurd q (by decide))
            refine v_iconst (v := nI 0) dX3_copy_140 (by decide) rfl ?_
            refine v_bipush (v := nI 16) dX3_copy_141 (by decide) rfl ?_
            refine v_cvn dX3_copy_143 cw_X3_130 ⟨tn_X3_become, tl_X3_become⟩ rfl (m0) (m_become0 G _ (i := k) (h := 16) (by decide) m4 (by omega)) (by rfl) (by rfl) (Nat.le_of_ble_eq_true rfl) (Nat.le_of_ble_eq_true rfl) (Nat.le_of_ble_eq_true rfl) (Nat.le_of_ble_eq_true rfl) (Nat.le_of_ble_eq_true rfl) rfl ?_
            refine v_aload_n dX3_copy_146 rfl rfl ?_
            refine v_aload_n dX3_copy_147 rfl rfl ?_
            refine v_getf dX3_copy_148 fl_X3_22 (r4.1) (by rfl) rfl ?_
            refine v_iload_n dX3_copy_151 rfl rfl ?_
            refine v_iload_n dX3_copy_152 rfl rfl ?_
            refine v_iconst (v := nI 1) dX3_copy_153 (by decide) rfl ?_
            refine v_icmp_ne (tgt := 161) dX3_copy_154 (by decide) rfl (fun _ => ?_) (fun q => absurd q (by decide))
            refine v_iconst (v := nI 0) dX3_copy_161 (by decide) rfl ?_
            refine v_iload_n dX3_copy_162 rfl rfl ?_
            refine v_iconst (v := nI 2) dX3_copy_163 (by decide) rfl ?_
            refine v_icmp_ne (tgt := 171) dX3_copy_164 (by decide) rfl (fun _ => ?_) (fun q => absurd q (by decide))
            refine v_iconst (v := nI 0) dX3_copy_171 (by decide) rfl ?_
            refine v_bipush (v := nI 16) dX3_copy_172 (by decide) rfl ?_
            refine v_cvn dX3_copy_174 cw_X3_130 ⟨tn_X3_become, tl_X3_become⟩ rfl (r4.1) (m_become0 G _ (i := k) (h := 16) (by decide) r4.2.2.2.2.2.1 (by omega)) (by rfl) (by rfl) (Nat.le_of_ble_eq_true rfl) (Nat.le_of_ble_eq_true rfl) (Nat.le_of_ble_eq_true rfl) (Nat.le_of_ble_eq_true rfl) (Nat.le_of_ble_eq_true rfl) rfl ?_
            refine v_iinc1 dX3_copy_177 rfl (Nat.le_of_ble_eq_true rfl) rfl ?_
            refine v_goto (tgt := 14) dX3_copy_180 (by decide) ?_
            exact ih _ (by unfold cpY; rw [show min (k + 1) 4 = min k 4 by omega]; exact hR5) ((hF.set (by omega)).set (by omega))
          · exact absurd c22 (by omega)
  have m0 := hM.1
  refine Ct.start 1 (by decide) rfl (Nat.le_of_ble_eq_true rfl) ?_
  refine v_iload_n dX3_copy_0 rfl rfl ?_
  refine v_iconst (v := nI 0) dX3_copy_1 (by decide) rfl ?_
  refine v_iconst (v := nI 2) dX3_copy_2 (by decide) rfl ?_
  refine v_csf dX3_copy_3 cw_X3_40 ts_X3_in ((c_in0 G hp (nI 0) 2 (by decide)).yes (by decide)) (by rfl) (by rfl) (Nat.le_of_ble_eq_true rfl) (Nat.le_of_ble_eq_true rfl) (Nat.le_of_ble_eq_true rfl) (Nat.le_of_ble_eq_true rfl) (Nat.le_of_ble_eq_true rfl) rfl ?_
  refine v_if_ne (tgt := 12) dX3_copy_6 (by decide) rfl (fun _ => ?_) (fun q => absurd q (by decide))
  refine v_iconst (v := nI 0) dX3_copy_12 (by decide) rfl ?_
  refine v_istore_n dX3_copy_13 (Nat.le_of_ble_eq_true rfl) rfl ?_
  exact key 0 (Nat.zero_le _) hp hM.pr FrM.rf
theorem mm_copy1 (hM : PM G s y hp) : Ct G mX3_copy 1 0 0 [.ref (G.2.2.2 + 31), .int (nI 1)] hp (QM G hp (nI 1) (cpS s 1)) := by
  have key : ∀ k, k ≤ 16 → ∀ h, PR G s.n s.tc (cpY 1 k y) h → FrM hp h → Vm G mX3_copy 1 0 0 (QM G hp (nI 1) (cpS s 1)) 14 [some (.ref (G.2.2.2 + 31)), some (.int (nI 1)), some (.int (nI k))] [] h 0 0 := by
    refine loop_up ?_ (fun k hk ih => ?_)
    · intro h hR hF
      refine v_iload_n dX3_copy_14 rfl rfl ?_
      refine v_bipush (v := nI 16) dX3_copy_15 (by decide) rfl ?_
      refine v_icmp_geN (tgt := 183) dX3_copy_17 (by decide) rfl (by omega) (by omega) (fun c17 => ?_) (fun c17 => ?_)
      · refine v_iconst (v := nI 1) dX3_copy_183 (by decide) rfl ?_
        exact v_iret dX3_copy_184 rfl ⟨Nat.le_of_ble_eq_true rfl, Nat.le_of_ble_eq_true rfl⟩ (⟨rfl, ⟨_, cpY_pm G hp hM (by decide) hR⟩, hF⟩)
      · exact absurd c17 (by omega)
    · intro h hR hF
      obtain ⟨m0, m1, m2, m3, m4, m5, m6, m7, m8, m9, m10⟩ := id hR
      by_cases k4 : k < 4
      · have e1 : min k 4 = k := by omega
        have e2 : min (k + 1) 4 = k + 1 := by omega
        have hR5 := ((((hR.setK (beF 1 (bcF 1 4 y.1.1 (min k 4)) k 4)).setFc (beF 1 (bcF 1 4 y.1.2.1 (min k 4)) k 4)).setWt (beF 1 (bcF 1 4 y.1.2.2.1 (min k 4)) k 4)).setF (beF 1 (bcF 1 16 y.1.2.2.2.1 k) k 16)).setT (beF 1 (bcF 1 16 y.1.2.2.2.2 k) k 16)
        have r1 := hR.setK (beF 1 (bcF 1 4 y.1.1 (min k 4)) k 4)
        have r2 := r1.setFc (beF 1 (bcF 1 4 y.1.2.1 (min k 4)) k 4)
        have r3 := r2.setWt (beF 1 (bcF 1 4 y.1.2.2.1 (min k 4)) k 4)
        have r4 := r3.setF (beF 1 (bcF 1 16 y.1.2.2.2.1 k) k 16)
        refine v_iload_n dX3_copy_14 rfl rfl ?_
        refine v_bipush (v := nI 16) dX3_copy_15 (by decide) rfl ?_
        refine v_icmp_geN (tgt := 183) dX3_copy_17 (by decide) rfl (by omega) (by omega) (fun c17 => ?_) (fun c17 => ?_)
        · exact absurd c17 (by omega)
        · refine v_iload_n dX3_copy_20 rfl rfl ?_
          refine v_iconst (v := nI 4) dX3_copy_21 (by decide) rfl ?_
          refine v_icmp_geN (tgt := 115) dX3_copy_22 (by decide) rfl (by omega) (by omega) (fun c22 => ?_) (fun c22 => ?_)
          · exact absurd c22 (by omega)
          · refine v_aload_n dX3_copy_25 rfl rfl ?_
            refine v_aload_n dX3_copy_26 rfl rfl ?_
            refine v_getf dX3_copy_27 fl_X3_7 (m0) (by rfl) rfl ?_
            refine v_iload_n dX3_copy_30 rfl rfl ?_
            refine v_iload_n dX3_copy_31 rfl rfl ?_
            refine v_iconst (v := nI 1) dX3_copy_32 (by decide) rfl ?_
            refine v_icmp_ne (tgt := 40) dX3_copy_33 (by decide) rfl (fun q => absurd (by decide) q) (fun _ => ?_)
            refine v_iconst (v := nI 1) dX3_copy_36 (by decide) rfl ?_
            refine v_goto (tgt := 41) dX3_copy_37 (by decide) ?_
            refine v_iload_n dX3_copy_41 rfl rfl ?_
            refine v_iconst (v := nI 2) dX3_copy_42 (by decide) rfl ?_
            refine v_icmp_ne (tgt := 50) dX3_copy_43 (by decide) rfl (fun _ => ?_) (fun q => absurd q (by decide))
            refine v_iconst (v := nI 0) dX3_copy_50 (by decide) rfl ?_
            refine v_iconst (v := nI 4) dX3_copy_51 (by decide) rfl ?_
            refine v_cvn dX3_copy_52 cw_X3_130 ⟨tn_X3_become, tl_X3_become⟩ rfl (m0) (m_become1 G _ (i := k) (h := 4) (by decide) m1 (by omega)) (by rfl) (by rfl) (Nat.le_of_ble_eq_true rfl) (Nat.le_of_ble_eq_true rfl) (Nat.le_of_ble_eq_true rfl) (Nat.le_of_ble_eq_true rfl) (Nat.le_of_ble_eq_true rfl) rfl ?_
            refine v_aload_n dX3_copy_55 rfl rfl ?_
            refine v_aload_n dX3_copy_56 rfl rfl ?_
            refine v_getf dX3_copy_57 fl_X3_13 (r1.1) (by rfl) rfl ?_
            refine v_iload_n dX3_copy_60 rfl rfl ?_
            refine v_iload_n dX3_copy_61 rfl rfl ?_
            refine v_iconst (v := nI 1) dX3_copy_62 (by decide) rfl ?_
            refine v_icmp_ne (tgt := 70) dX3_copy_63 (by decide) rfl (fun q => absurd (by decide) q) (fun _ => ?_)
            refine v_iconst (v := nI 1) dX3_copy_66 (by decide) rfl ?_
            refine v_goto (tgt := 71) dX3_copy_67 (by decide) ?_
            refine v_iload_n dX3_copy_71 rfl rfl ?_
            refine v_iconst (v := nI 2) dX3_copy_72 (by decide) rfl ?_
            refine v_icmp_ne (tgt := 80) dX3_copy_73 (by decide) rfl (fun _ => ?_) (fun q => absurd q (by decide))
            refine v_iconst (v := nI 0) dX3_copy_80 (by decide) rfl ?_
            refine v_iconst (v := nI 4) dX3_copy_81 (by decide) rfl ?_
            refine v_cvn dX3_copy_82 cw_X3_130 ⟨tn_X3_become, tl_X3_become⟩ rfl (r1.1) (m_become1 G _ (i := k) (h := 4) (by decide) r1.2.2.1 (by omega)) (by rfl) (by rfl) (Nat.le_of_ble_eq_true rfl) (Nat.le_of_ble_eq_true rfl) (Nat.le_of_ble_eq_true rfl) (Nat.le_of_ble_eq_true rfl) (Nat.le_of_ble_eq_true rfl) rfl ?_
            refine v_aload_n dX3_copy_85 rfl rfl ?_
            refine v_aload_n dX3_copy_86 rfl rfl ?_
            refine v_getf dX3_copy_87 fl_X3_16 (r2.1) (by rfl) rfl ?_
            refine v_iload_n dX3_copy_90 rfl rfl ?_
            refine v_iload_n dX3_copy_91 rfl rfl ?_
            refine v_iconst (v := nI 1) dX3_copy_92 (by decide) rfl ?_
            refine v_icmp_ne (tgt := 100) dX3_copy_93 (by decide) rfl (fun q => absurd (by decide) q) (fun _ => ?_)
            refine v_iconst (v := nI 1) dX3_copy_96 (by decide) rfl ?_
            refine v_goto (tgt := 101) dX3_copy_97 (by decide) ?_
            refine v_iload_n dX3_copy_101 rfl rfl ?_
            refine v_iconst (v := nI 2) dX3_copy_102 (by decide) rfl ?_
            refine v_icmp_ne (tgt := 110) dX3_copy_103 (by decide) rfl (fun _ => ?_) (fun q => absurd q (by decide))
            refine v_iconst (v := nI 0) dX3_copy_110 (by decide) rfl ?_
            refine v_iconst (v := nI 4) dX3_copy_111 (by decide) rfl ?_
            refine v_cvn dX3_copy_112 cw_X3_130 ⟨tn_X3_become, tl_X3_become⟩ rfl (r2.1) (m_become1 G _ (i := k) (h := 4) (by decide) r2.2.2.2.1 (by omega)) (by rfl) (by rfl) (Nat.le_of_ble_eq_true rfl) (Nat.le_of_ble_eq_true rfl) (Nat.le_of_ble_eq_true rfl) (Nat.le_of_ble_eq_true rfl) (Nat.le_of_ble_eq_true rfl) rfl ?_
            refine v_aload_n dX3_copy_115 rfl rfl ?_
            refine v_aload_n dX3_copy_116 rfl rfl ?_
            refine v_getf dX3_copy_117 fl_X3_19 (r3.1) (by rfl) rfl ?_
            refine v_iload_n dX3_copy_120 rfl rfl ?_
            refine v_iload_n dX3_copy_121 rfl rfl ?_
            refine v_iconst (v := nI 1) dX3_copy_122 (by decide) rfl ?_
            refine v_icmp_ne (tgt := 130) dX3_copy_123 (by decide) rfl (fun q => absurd (by decide) q) (fun _ => ?_)
            refine v_iconst (v := nI 1) dX3_copy_126 (by decide) rfl ?_
            refine v_goto (tgt := 131) dX3_copy_127 (by decide) ?_
            refine v_iload_n dX3_copy_131 rfl rfl ?_
            refine v_iconst (v := nI 2) dX3_copy_132 (by decide) rfl ?_
            refine v_icmp_ne (tgt := 140) dX3_copy_133 (by decide) rfl (fun _ => ?_) (fun q => absurd q (by decide))
            refine v_iconst (v := nI 0) dX3_copy_140 (by decide) rfl ?_
            refine v_bipush (v := nI 16) dX3_copy_141 (by decide) rfl ?_
            refine v_cvn dX3_copy_143 cw_X3_130 ⟨tn_X3_become, tl_X3_become⟩ rfl (r3.1) (m_become1 G _ (i := k) (h := 16) (by decide) r3.2.2.2.2.1 (by omega)) (by rfl) (by rfl) (Nat.le_of_ble_eq_true rfl) (Nat.le_of_ble_eq_true rfl) (Nat.le_of_ble_eq_true rfl) (Nat.le_of_ble_eq_true rfl) (Nat.le_of_ble_eq_true rfl) rfl ?_
            refine v_aload_n dX3_copy_146 rfl rfl ?_
            refine v_aload_n dX3_copy_147 rfl rfl ?_
            refine v_getf dX3_copy_148 fl_X3_22 (r4.1) (by rfl) rfl ?_
            refine v_iload_n dX3_copy_151 rfl rfl ?_
            refine v_iload_n dX3_copy_152 rfl rfl ?_
            refine v_iconst (v := nI 1) dX3_copy_153 (by decide) rfl ?_
            refine v_icmp_ne (tgt := 161) dX3_copy_154 (by decide) rfl (fun q => absurd (by decide) q) (fun _ => ?_)
            refine v_iconst (v := nI 1) dX3_copy_157 (by decide) rfl ?_
            refine v_goto (tgt := 162) dX3_copy_158 (by decide) ?_
            refine v_iload_n dX3_copy_162 rfl rfl ?_
            refine v_iconst (v := nI 2) dX3_copy_163 (by decide) rfl ?_
            refine v_icmp_ne (tgt := 171) dX3_copy_164 (by decide) rfl (fun _ => ?_) (fun q => absurd q (by decide))
            refine v_iconst (v := nI 0) dX3_copy_171 (by decide) rfl ?_
            refine v_bipush (v := nI 16) dX3_copy_172 (by decide) rfl ?_
            refine v_cvn dX3_copy_174 cw_X3_130 ⟨tn_X3_become, tl_X3_become⟩ rfl (r4.1) (m_become1 G _ (i := k) (h := 16) (by decide) r4.2.2.2.2.2.1 (by omega)) (by rfl) (by rfl) (Nat.le_of_ble_eq_true rfl) (Nat.le_of_ble_eq_true rfl) (Nat.le_of_ble_eq_true rfl) (Nat.le_of_ble_eq_true rfl) (Nat.le_of_ble_eq_true rfl) rfl ?_
            refine v_iinc1 dX3_copy_177 rfl (Nat.le_of_ble_eq_true rfl) rfl ?_
            refine v_goto (tgt := 14) dX3_copy_180 (by decide) ?_
            exact ih _ (by unfold cpY; rw [e2]; rw [e1] at hR5 ⊢; exact hR5) (((((hF.set (by omega)).set (by omega)).set (by omega)).set (by omega)).set (by omega))
      · have e1 : min k 4 = 4 := by omega
        have e2 : min (k + 1) 4 = 4 := by omega
        have r4 := hR.setF (beF 1 (bcF 1 16 y.1.2.2.2.1 k) k 16)
        have hR5 := r4.setT (beF 1 (bcF 1 16 y.1.2.2.2.2 k) k 16)
        refine v_iload_n dX3_copy_14 rfl rfl ?_
        refine v_bipush (v := nI 16) dX3_copy_15 (by decide) rfl ?_
        refine v_icmp_geN (tgt := 183) dX3_copy_17 (by decide) rfl (by omega) (by omega) (fun c17 => ?_) (fun c17 => ?_)
        · exact absurd c17 (by omega)
        · refine v_iload_n dX3_copy_20 rfl rfl ?_
          refine v_iconst (v := nI 4) dX3_copy_21 (by decide) rfl ?_
          refine v_icmp_geN (tgt := 115) dX3_copy_22 (by decide) rfl (by omega) (by omega) (fun c22 => ?_) (fun c22 => ?_)
          · refine v_aload_n dX3_copy_115 rfl rfl ?_
            refine v_aload_n dX3_copy_116 rfl rfl ?_
            refine v_getf dX3_copy_117 fl_X3_19 (m0) (by rfl) rfl ?_
            refine v_iload_n dX3_copy_120 rfl rfl ?_
            refine v_iload_n dX3_copy_121 rfl rfl ?_
            refine v_iconst (v := nI 1) dX3_copy_122 (by decide) rfl ?_
            refine v_icmp_ne (tgt := 130) dX3_copy_123 (by decide) rfl (fun q => absurd (by decide) q) (fun _ => ?_)
            refine v_iconst (v := nI 1) dX3_copy_126 (by decide) rfl ?_
            refine v_goto (tgt := 131) dX3_copy_127 (by decide) ?_
            refine v_iload_n dX3_copy_131 rfl rfl ?_
            refine v_iconst (v := nI 2) dX3_copy_132 (by decide) rfl ?_
            refine v_icmp_ne (tgt := 140) dX3_copy_133 (by decide) rfl (fun _ => ?_) (fun q => absurd q (by decide))
            refine v_iconst (v := nI 0) dX3_copy_140 (by decide) rfl ?_
            refine v_bipush (v := nI 16) dX3_copy_141 (by decide) rfl ?_
            refine v_cvn dX3_copy_143 cw_X3_130 ⟨tn_X3_become, tl_X3_become⟩ rfl (m0) (m_become1 G _ (i := k) (h := 16) (by decide) m4 (by omega)) (by rfl) (by rfl) (Nat.le_of_ble_eq_true rfl) (Nat.le_of_ble_eq_true rfl) (Nat.le_of_ble_eq_true rfl) (Nat.le_of_ble_eq_true rfl) (Nat.le_of_ble_eq_true rfl) rfl ?_
            refine v_aload_n dX3_copy_146 rfl rfl ?_
            refine v_aload_n dX3_copy_147 rfl rfl ?_
            refine v_getf dX3_copy_148 fl_X3_22 (r4.1) (by rfl) rfl ?_
            refine v_iload_n dX3_copy_151 rfl rfl ?_
            refine v_iload_n dX3_copy_152 rfl rfl ?_
            refine v_iconst (v := nI 1) dX3_copy_153 (by decide) rfl ?_
            refine v_icmp_ne (tgt := 161) dX3_copy_154 (by decide) rfl (fun q => absurd (by decide) q) (fun _ => ?_)
            refine v_iconst (v := nI 1) dX3_copy_157 (by decide) rfl ?_
            refine v_goto (tgt := 162) dX3_copy_158 (by decide) ?_
            refine v_iload_n dX3_copy_162 rfl rfl ?_
            refine v_iconst (v := nI 2) dX3_copy_163 (by decide) rfl ?_
            refine v_icmp_ne (tgt := 171) dX3_copy_164 (by decide) rfl (fun _ => ?_) (fun q => absurd q (by decide))
            refine v_iconst (v := nI 0) dX3_copy_171 (by decide) rfl ?_
            refine v_bipush (v := nI 16) dX3_copy_172 (by decide) rfl ?_
            refine v_cvn dX3_copy_174 cw_X3_130 ⟨tn_X3_become, tl_X3_become⟩ rfl (r4.1) (m_become1 G _ (i := k) (h := 16) (by decide) r4.2.2.2.2.2.1 (by omega)) (by rfl) (by rfl) (Nat.le_of_ble_eq_true rfl) (Nat.le_of_ble_eq_true rfl) (Nat.le_of_ble_eq_true rfl) (Nat.le_of_ble_eq_true rfl) (Nat.le_of_ble_eq_true rfl) rfl ?_
            refine v_iinc1 dX3_copy_177 rfl (Nat.le_of_ble_eq_true rfl) rfl ?_
            refine v_goto (tgt := 14) dX3_copy_180 (by decide) ?_
            exact ih _ (by unfold cpY; rw [show min (k + 1) 4 = min k 4 by omega]; exact hR5) ((hF.set (by omega)).set (by omega))
          · exact absurd c22 (by omega)
  have m0 := hM.1
  refine Ct.start 1 (by decide) rfl (Nat.le_of_ble_eq_true rfl) ?_
  refine v_iload_n dX3_copy_0 rfl rfl ?_
  refine v_iconst (v := nI 0) dX3_copy_1 (by decide) rfl ?_
  refine v_iconst (v := nI 2) dX3_copy_2 (by decide) rfl ?_
  refine v_csf dX3_copy_3 cw_X3_40 ts_X3_in ((c_in0 G hp (nI 1) 2 (by decide)).yes (by decide)) (by rfl) (by rfl) (Nat.le_of_ble_eq_true rfl) (Nat.le_of_ble_eq_true rfl) (Nat.le_of_ble_eq_true rfl) (Nat.le_of_ble_eq_true rfl) (Nat.le_of_ble_eq_true rfl) rfl ?_
  refine v_if_ne (tgt := 12) dX3_copy_6 (by decide) rfl (fun _ => ?_) (fun q => absurd q (by decide))
  refine v_iconst (v := nI 0) dX3_copy_12 (by decide) rfl ?_
  refine v_istore_n dX3_copy_13 (Nat.le_of_ble_eq_true rfl) rfl ?_
  exact key 0 (Nat.zero_le _) hp hM.pr FrM.rf
theorem mm_copy2 (hM : PM G s y hp) : Ct G mX3_copy 1 0 0 [.ref (G.2.2.2 + 31), .int (nI 2)] hp (QM G hp (nI 1) (cpS s 2)) := by
  have key : ∀ k, k ≤ 16 → ∀ h, PR G s.n s.tc (cpY 2 k y) h → FrM hp h → Vm G mX3_copy 1 0 0 (QM G hp (nI 1) (cpS s 2)) 14 [some (.ref (G.2.2.2 + 31)), some (.int (nI 2)), some (.int (nI k))] [] h 0 0 := by
    refine loop_up ?_ (fun k hk ih => ?_)
    · intro h hR hF
      refine v_iload_n dX3_copy_14 rfl rfl ?_
      refine v_bipush (v := nI 16) dX3_copy_15 (by decide) rfl ?_
      refine v_icmp_geN (tgt := 183) dX3_copy_17 (by decide) rfl (by omega) (by omega) (fun c17 => ?_) (fun c17 => ?_)
      · refine v_iconst (v := nI 1) dX3_copy_183 (by decide) rfl ?_
        exact v_iret dX3_copy_184 rfl ⟨Nat.le_of_ble_eq_true rfl, Nat.le_of_ble_eq_true rfl⟩ (⟨rfl, ⟨_, cpY_pm G hp hM (by decide) hR⟩, hF⟩)
      · exact absurd c17 (by omega)
    · intro h hR hF
      obtain ⟨m0, m1, m2, m3, m4, m5, m6, m7, m8, m9, m10⟩ := id hR
      by_cases k4 : k < 4
      · have e1 : min k 4 = k := by omega
        have e2 : min (k + 1) 4 = k + 1 := by omega
        have hR5 := ((((hR.setK (beF 2 (bcF 2 4 y.1.1 (min k 4)) k 4)).setFc (beF 2 (bcF 2 4 y.1.2.1 (min k 4)) k 4)).setWt (beF 2 (bcF 2 4 y.1.2.2.1 (min k 4)) k 4)).setF (beF 2 (bcF 2 16 y.1.2.2.2.1 k) k 16)).setT (beF 2 (bcF 2 16 y.1.2.2.2.2 k) k 16)
        have r1 := hR.setK (beF 2 (bcF 2 4 y.1.1 (min k 4)) k 4)
        have r2 := r1.setFc (beF 2 (bcF 2 4 y.1.2.1 (min k 4)) k 4)
        have r3 := r2.setWt (beF 2 (bcF 2 4 y.1.2.2.1 (min k 4)) k 4)
        have r4 := r3.setF (beF 2 (bcF 2 16 y.1.2.2.2.1 k) k 16)
        refine v_iload_n dX3_copy_14 rfl rfl ?_
        refine v_bipush (v := nI 16) dX3_copy_15 (by decide) rfl ?_
        refine v_icmp_geN (tgt := 183) dX3_copy_17 (by decide) rfl (by omega) (by omega) (fun c17 => ?_) (fun c17 => ?_)
        · exact absurd c17 (by omega)
        · refine v_iload_n dX3_copy_20 rfl rfl ?_
          refine v_iconst (v := nI 4) dX3_copy_21 (by decide) rfl ?_
          refine v_icmp_geN (tgt := 115) dX3_copy_22 (by decide) rfl (by omega) (by omega) (fun c22 => ?_) (fun c22 => ?_)
          · exact absurd c22 (by omega)
          · refine v_aload_n dX3_copy_25 rfl rfl ?_
            refine v_aload_n dX3_copy_26 rfl rfl ?_
            refine v_getf dX3_copy_27 fl_X3_7 (m0) (by rfl) rfl ?_
            refine v_iload_n dX3_copy_30 rfl rfl ?_
            refine v_iload_n dX3_copy_31 rfl rfl ?_
            refine v_iconst (v := nI 1) dX3_copy_32 (by decide) rfl ?_
            refine v_icmp_ne (tgt := 40) dX3_copy_33 (by decide) rfl (fun _ => ?_) (fun q => absurd q (by decide))
            refine v_iconst (v := nI 0) dX3_copy_40 (by decide) rfl ?_
            refine v_iload_n dX3_copy_41 rfl rfl ?_
            refine v_iconst (v := nI 2) dX3_copy_42 (by decide) rfl ?_
            refine v_icmp_ne (tgt := 50) dX3_copy_43 (by decide) rfl (fun q => absurd (by decide) q) (fun _ => ?_)
            refine v_iconst (v := nI 1) dX3_copy_46 (by decide) rfl ?_
            refine v_goto (tgt := 51) dX3_copy_47 (by decide) ?_
            refine v_iconst (v := nI 4) dX3_copy_51 (by decide) rfl ?_
            refine v_cvn dX3_copy_52 cw_X3_130 ⟨tn_X3_become, tl_X3_become⟩ rfl (m0) (m_become2 G _ (i := k) (h := 4) (by decide) m1 (by omega)) (by rfl) (by rfl) (Nat.le_of_ble_eq_true rfl) (Nat.le_of_ble_eq_true rfl) (Nat.le_of_ble_eq_true rfl) (Nat.le_of_ble_eq_true rfl) (Nat.le_of_ble_eq_true rfl) rfl ?_
            refine v_aload_n dX3_copy_55 rfl rfl ?_
            refine v_aload_n dX3_copy_56 rfl rfl ?_
            refine v_getf dX3_copy_57 fl_X3_13 (r1.1) (by rfl) rfl ?_
            refine v_iload_n dX3_copy_60 rfl rfl ?_
            refine v_iload_n dX3_copy_61 rfl rfl ?_
            refine v_iconst (v := nI 1) dX3_copy_62 (by decide) rfl ?_
            refine v_icmp_ne (tgt := 70) dX3_copy_63 (by decide) rfl (fun _ => ?_) (fun q => absurd q (by decide))
            refine v_iconst (v := nI 0) dX3_copy_70 (by decide) rfl ?_
            refine v_iload_n dX3_copy_71 rfl rfl ?_
            refine v_iconst (v := nI 2) dX3_copy_72 (by decide) rfl ?_
            refine v_icmp_ne (tgt := 80) dX3_copy_73 (by decide) rfl (fun q => absurd (by decide) q) (fun _ => ?_)
            refine v_iconst (v := nI 1) dX3_copy_76 (by decide) rfl ?_
            refine v_goto (tgt := 81) dX3_copy_77 (by decide) ?_
            refine v_iconst (v := nI 4) dX3_copy_81 (by decide) rfl ?_
            refine v_cvn dX3_copy_82 cw_X3_130 ⟨tn_X3_become, tl_X3_become⟩ rfl (r1.1) (m_become2 G _ (i := k) (h := 4) (by decide) r1.2.2.1 (by omega)) (by rfl) (by rfl) (Nat.le_of_ble_eq_true rfl) (Nat.le_of_ble_eq_true rfl) (Nat.le_of_ble_eq_true rfl) (Nat.le_of_ble_eq_true rfl) (Nat.le_of_ble_eq_true rfl) rfl ?_
            refine v_aload_n dX3_copy_85 rfl rfl ?_
            refine v_aload_n dX3_copy_86 rfl rfl ?_
            refine v_getf dX3_copy_87 fl_X3_16 (r2.1) (by rfl) rfl ?_
            refine v_iload_n dX3_copy_90 rfl rfl ?_
            refine v_iload_n dX3_copy_91 rfl rfl ?_
            refine v_iconst (v := nI 1) dX3_copy_92 (by decide) rfl ?_
            refine v_icmp_ne (tgt := 100) dX3_copy_93 (by decide) rfl (fun _ => ?_) (fun q => absurd q (by decide))
            refine v_iconst (v := nI 0) dX3_copy_100 (by decide) rfl ?_
            refine v_iload_n dX3_copy_101 rfl rfl ?_
            refine v_iconst (v := nI 2) dX3_copy_102 (by decide) rfl ?_
            refine v_icmp_ne (tgt := 110) dX3_copy_103 (by decide) rfl (fun q => absurd (by decide) q) (fun _ => ?_)
            refine v_iconst (v := nI 1) dX3_copy_106 (by decide) rfl ?_
            refine v_goto (tgt := 111) dX3_copy_107 (by decide) ?_
            refine v_iconst (v := nI 4) dX3_copy_111 (by decide) rfl ?_
            refine v_cvn dX3_copy_112 cw_X3_130 ⟨tn_X3_become, tl_X3_become⟩ rfl (r2.1) (m_become2 G _ (i := k) (h := 4) (by decide) r2.2.2.2.1 (by omega)) (by rfl) (by rfl) (Nat.le_of_ble_eq_true rfl) (Nat.le_of_ble_eq_true rfl) (Nat.le_of_ble_eq_true rfl) (Nat.le_of_ble_eq_true rfl) (Nat.le_of_ble_eq_true rfl) rfl ?_
            refine v_aload_n dX3_copy_115 rfl rfl ?_
            refine v_aload_n dX3_copy_116 rfl rfl ?_
            refine v_getf dX3_copy_117 fl_X3_19 (r3.1) (by rfl) rfl ?_
            refine v_iload_n dX3_copy_120 rfl rfl ?_
            refine v_iload_n dX3_copy_121 rfl rfl ?_
            refine v_iconst (v := nI 1) dX3_copy_122 (by decide) rfl ?_
            refine v_icmp_ne (tgt := 130) dX3_copy_123 (by decide) rfl (fun _ => ?_) (fun q => absurd q (by decide))
            refine v_iconst (v := nI 0) dX3_copy_130 (by decide) rfl ?_
            refine v_iload_n dX3_copy_131 rfl rfl ?_
            refine v_iconst (v := nI 2) dX3_copy_132 (by decide) rfl ?_
            refine v_icmp_ne (tgt := 140) dX3_copy_133 (by decide) rfl (fun q => absurd (by decide) q) (fun _ => ?_)
            refine v_iconst (v := nI 1) dX3_copy_136 (by decide) rfl ?_
            refine v_goto (tgt := 141) dX3_copy_137 (by decide) ?_
            refine v_bipush (v := nI 16) dX3_copy_141 (by decide) rfl ?_
            refine v_cvn dX3_copy_143 cw_X3_130 ⟨tn_X3_become, tl_X3_become⟩ rfl (r3.1) (m_become2 G _ (i := k) (h := 16) (by decide) r3.2.2.2.2.1 (by omega)) (by rfl) (by rfl) (Nat.le_of_ble_eq_true rfl) (Nat.le_of_ble_eq_true rfl) (Nat.le_of_ble_eq_true rfl) (Nat.le_of_ble_eq_true rfl) (Nat.le_of_ble_eq_true rfl) rfl ?_
            refine v_aload_n dX3_copy_146 rfl rfl ?_
            refine v_aload_n dX3_copy_147 rfl rfl ?_
            refine v_getf dX3_copy_148 fl_X3_22 (r4.1) (by rfl) rfl ?_
            refine v_iload_n dX3_copy_151 rfl rfl ?_
            refine v_iload_n dX3_copy_152 rfl rfl ?_
            refine v_iconst (v := nI 1) dX3_copy_153 (by decide) rfl ?_
            refine v_icmp_ne (tgt := 161) dX3_copy_154 (by decide) rfl (fun _ => ?_) (fun q => absurd q (by decide))
            refine v_iconst (v := nI 0) dX3_copy_161 (by decide) rfl ?_
            refine v_iload_n dX3_copy_162 rfl rfl ?_
            refine v_iconst (v := nI 2) dX3_copy_163 (by decide) rfl ?_
            refine v_icmp_ne (tgt := 171) dX3_copy_164 (by decide) rfl (fun q => absurd (by decide) q) (fun _ => ?_)
            refine v_iconst (v := nI 1) dX3_copy_167 (by decide) rfl ?_
            refine v_goto (tgt := 172) dX3_copy_168 (by decide) ?_
            refine v_bipush (v := nI 16) dX3_copy_172 (by decide) rfl ?_
            refine v_cvn dX3_copy_174 cw_X3_130 ⟨tn_X3_become, tl_X3_become⟩ rfl (r4.1) (m_become2 G _ (i := k) (h := 16) (by decide) r4.2.2.2.2.2.1 (by omega)) (by rfl) (by rfl) (Nat.le_of_ble_eq_true rfl) (Nat.le_of_ble_eq_true rfl) (Nat.le_of_ble_eq_true rfl) (Nat.le_of_ble_eq_true rfl) (Nat.le_of_ble_eq_true rfl) rfl ?_
            refine v_iinc1 dX3_copy_177 rfl (Nat.le_of_ble_eq_true rfl) rfl ?_
            refine v_goto (tgt := 14) dX3_copy_180 (by decide) ?_
            exact ih _ (by unfold cpY; rw [e2]; rw [e1] at hR5 ⊢; exact hR5) (((((hF.set (by omega)).set (by omega)).set (by omega)).set (by omega)).set (by omega))
      · have e1 : min k 4 = 4 := by omega
        have e2 : min (k + 1) 4 = 4 := by omega
        have r4 := hR.setF (beF 2 (bcF 2 16 y.1.2.2.2.1 k) k 16)
        have hR5 := r4.setT (beF 2 (bcF 2 16 y.1.2.2.2.2 k) k 16)
        refine v_iload_n dX3_copy_14 rfl rfl ?_
        refine v_bipush (v := nI 16) dX3_copy_15 (by decide) rfl ?_
        refine v_icmp_geN (tgt := 183) dX3_copy_17 (by decide) rfl (by omega) (by omega) (fun c17 => ?_) (fun c17 => ?_)
        · exact absurd c17 (by omega)
        · refine v_iload_n dX3_copy_20 rfl rfl ?_
          refine v_iconst (v := nI 4) dX3_copy_21 (by decide) rfl ?_
          refine v_icmp_geN (tgt := 115) dX3_copy_22 (by decide) rfl (by omega) (by omega) (fun c22 => ?_) (fun c22 => ?_)
          · refine v_aload_n dX3_copy_115 rfl rfl ?_
            refine v_aload_n dX3_copy_116 rfl rfl ?_
            refine v_getf dX3_copy_117 fl_X3_19 (m0) (by rfl) rfl ?_
            refine v_iload_n dX3_copy_120 rfl rfl ?_
            refine v_iload_n dX3_copy_121 rfl rfl ?_
            refine v_iconst (v := nI 1) dX3_copy_122 (by decide) rfl ?_
            refine v_icmp_ne (tgt := 130) dX3_copy_123 (by decide) rfl (fun _ => ?_) (fun q => absurd q (by decide))
            refine v_iconst (v := nI 0) dX3_copy_130 (by decide) rfl ?_
            refine v_iload_n dX3_copy_131 rfl rfl ?_
            refine v_iconst (v := nI 2) dX3_copy_132 (by decide) rfl ?_
            refine v_icmp_ne (tgt := 140) dX3_copy_133 (by decide) rfl (fun q => absurd (by decide) q) (fun _ => ?_)
            refine v_iconst (v := nI 1) dX3_copy_136 (by decide) rfl ?_
            refine v_goto (tgt := 141) dX3_copy_137 (by decide) ?_
            refine v_bipush (v := nI 16) dX3_copy_141 (by decide) rfl ?_
            refine v_cvn dX3_copy_143 cw_X3_130 ⟨tn_X3_become, tl_X3_become⟩ rfl (m0) (m_become2 G _ (i := k) (h := 16) (by decide) m4 (by omega)) (by rfl) (by rfl) (Nat.le_of_ble_eq_true rfl) (Nat.le_of_ble_eq_true rfl) (Nat.le_of_ble_eq_true rfl) (Nat.le_of_ble_eq_true rfl) (Nat.le_of_ble_eq_true rfl) rfl ?_
            refine v_aload_n dX3_copy_146 rfl rfl ?_
            refine v_aload_n dX3_copy_147 rfl rfl ?_
            refine v_getf dX3_copy_148 fl_X3_22 (r4.1) (by rfl) rfl ?_
            refine v_iload_n dX3_copy_151 rfl rfl ?_
            refine v_iload_n dX3_copy_152 rfl rfl ?_
            refine v_iconst (v := nI 1) dX3_copy_153 (by decide) rfl ?_
            refine v_icmp_ne (tgt := 161) dX3_copy_154 (by decide) rfl (fun _ => ?_) (fun q => absurd q (by decide))
            refine v_iconst (v := nI 0) dX3_copy_161 (by decide) rfl ?_
            refine v_iload_n dX3_copy_162 rfl rfl ?_
            refine v_iconst (v := nI 2) dX3_copy_163 (by decide) rfl ?_
            refine v_icmp_ne (tgt := 171) dX3_copy_164 (by decide) rfl (fun q => absurd (by decide) q) (fun _ => ?_)
            refine v_iconst (v := nI 1) dX3_copy_167 (by decide) rfl ?_
            refine v_goto (tgt := 172) dX3_copy_168 (by decide) ?_
            refine v_bipush (v := nI 16) dX3_copy_172 (by decide) rfl ?_
            refine v_cvn dX3_copy_174 cw_X3_130 ⟨tn_X3_become, tl_X3_become⟩ rfl (r4.1) (m_become2 G _ (i := k) (h := 16) (by decide) r4.2.2.2.2.2.1 (by omega)) (by rfl) (by rfl) (Nat.le_of_ble_eq_true rfl) (Nat.le_of_ble_eq_true rfl) (Nat.le_of_ble_eq_true rfl) (Nat.le_of_ble_eq_true rfl) (Nat.le_of_ble_eq_true rfl) rfl ?_
            refine v_iinc1 dX3_copy_177 rfl (Nat.le_of_ble_eq_true rfl) rfl ?_
            refine v_goto (tgt := 14) dX3_copy_180 (by decide) ?_
            exact ih _ (by unfold cpY; rw [show min (k + 1) 4 = min k 4 by omega]; exact hR5) ((hF.set (by omega)).set (by omega))
          · exact absurd c22 (by omega)
  have m0 := hM.1
  refine Ct.start 1 (by decide) rfl (Nat.le_of_ble_eq_true rfl) ?_
  refine v_iload_n dX3_copy_0 rfl rfl ?_
  refine v_iconst (v := nI 0) dX3_copy_1 (by decide) rfl ?_
  refine v_iconst (v := nI 2) dX3_copy_2 (by decide) rfl ?_
  refine v_csf dX3_copy_3 cw_X3_40 ts_X3_in ((c_in0 G hp (nI 2) 2 (by decide)).yes (by decide)) (by rfl) (by rfl) (Nat.le_of_ble_eq_true rfl) (Nat.le_of_ble_eq_true rfl) (Nat.le_of_ble_eq_true rfl) (Nat.le_of_ble_eq_true rfl) (Nat.le_of_ble_eq_true rfl) rfl ?_
  refine v_if_ne (tgt := 12) dX3_copy_6 (by decide) rfl (fun _ => ?_) (fun q => absurd q (by decide))
  refine v_iconst (v := nI 0) dX3_copy_12 (by decide) rfl ?_
  refine v_istore_n dX3_copy_13 (Nat.le_of_ble_eq_true rfl) rfl ?_
  exact key 0 (Nat.zero_le _) hp hM.pr FrM.rf
theorem mm_copy_n {z : Int32} (h : ¬ InR z 3) : Ct G mX3_copy 1 0 0 [.ref (G.2.2.2 + 31), .int z] hp (Qf (some (.int (-100))) hp) := by
  refine Ct.start 1 (by decide) rfl (Nat.le_of_ble_eq_true rfl) ?_
  refine v_iload_n dX3_copy_0 rfl rfl ?_
  refine v_iconst (v := nI 0) dX3_copy_1 (by decide) rfl ?_
  refine v_iconst (v := nI 2) dX3_copy_2 (by decide) rfl ?_
  refine v_csf dX3_copy_3 cw_X3_40 ts_X3_in ((c_in0 G hp z 2 (by decide)).no h) (by rfl) (by rfl) (Nat.le_of_ble_eq_true rfl) (Nat.le_of_ble_eq_true rfl) (Nat.le_of_ble_eq_true rfl) (Nat.le_of_ble_eq_true rfl) (Nat.le_of_ble_eq_true rfl) rfl ?_
  refine v_if_ne (tgt := 12) dX3_copy_6 (by decide) rfl (fun q => absurd (by decide) q) (fun _ => ?_)
  refine v_bipush (v := (-100)) dX3_copy_9 (by decide) rfl ?_
  exact v_iret dX3_copy_11 rfl ⟨Nat.le_of_ble_eq_true rfl, Nat.le_of_ble_eq_true rfl⟩ (⟨rfl, rfl⟩)
theorem mm_copy_y (hM : PM G s y hp) {w : Nat} (hw : w < 3) : Ct G mX3_copy 1 0 0 [.ref (G.2.2.2 + 31), .int (nI w)] hp (QM G hp (nI 1) (cpS s w)) := by
  have h3 : w = 0 ∨ w = 1 ∨ w = 2 := by omega
  rcases h3 with h3 | h3 | h3 <;> subst h3
  · exact mm_copy0 G hp hM
  · exact mm_copy1 G hp hM
  · exact mm_copy2 G hp hM
end MCOPY

