/-! A LINE: its cells, its LEVELS -/
theorem loop_up {P : Nat → Prop} {n : Nat} (h0 : P n) (hs : ∀ k, k < n → P (k + 1) → P k) : ∀ k, k ≤ n → P k := by
  have : ∀ m k, k + m = n → P k := by
    intro m
    induction m with
    | zero => intro k hk; rw [show k = n by omega]; exact h0
    | succ m ih => intro k hk; exact hs k (by omega) (ih (k + 1) (by omega))
  exact fun k hk => this (n - k) k (by omega)
def LN (G : GG) (hp : List va_E) (a : Nat) (kd fc wt : Int32) (f t : Nat → Int32) : Prop := hp[a]? = some (ob 0 [.int kd, .int fc, .int wt, .ref (G.2.2.2 + (a + 1)), .ref (G.2.2.2 + (a + 2))]) ∧ hp[a + 1]? = some (aI G 4 f) ∧ hp[a + 2]? = some (aI G 4 t)
abbrev hasS (f t : Nat → Int32) (k : Nat) (v : Int32) : Prop := f k ≤ v ∧ v ≤ t k
abbrev belS (f t : Nat → Int32) (k : Nat) (v : Int32) : Prop := f k ≤ t k ∧ ¬ v ≤ t k
def strictO (f t : Nat → Int32) (v : Int32) : Option Nat := if hasS f t 3 v then some 3 else if hasS f t 2 v then some 2 else if hasS f t 1 v then some 1 else if hasS f t 0 v then some 0 else none
def belowN (f t : Nat → Int32) (v : Int32) : Nat := if belS f t 3 v then 3 else if belS f t 2 v then 2 else if belS f t 1 v then 1 else 0
def filledN (f t : Nat → Int32) (v : Int32) : Nat := match strictO f t v with
  | some k => k
  | none => belowN f t v
abbrev lastS (f t : Nat → Int32) (v : Int32) : Prop := hasS f t (filledN f t v) v ∧ t (filledN f t v) = v
def kindN (f t : Nat → Int32) (v : Int32) : Nat := if lastS f t v then (if filledN f t v < 3 then filledN f t v + 1 else filledN f t v) else filledN f t v
def oI : Option Nat → Int32
  | none => -900
  | some k => nI k
def levelO (kd : Int32) (f t : Nat → Int32) (v : Int32) : Option Nat := if kd = 0 then strictO f t v else if kd = nI 1 then some (filledN f t v) else some (kindN f t v)
theorem strictO_lt {f t : Nat → Int32} {v : Int32} {k : Nat} (h : strictO f t v = some k) : k < 4 := by
  unfold strictO at h
  repeat' split at h
  all_goals first | (cases h; decide) | cases h
theorem belowN_lt (f t : Nat → Int32) (v : Int32) : belowN f t v < 4 := by
  unfold belowN
  repeat' split
  all_goals decide
theorem filledN_lt (f t : Nat → Int32) (v : Int32) : filledN f t v < 4 := by
  unfold filledN
  cases h : strictO f t v with
  | none => exact belowN_lt f t v
  | some k => exact strictO_lt h
theorem kindN_lt (f t : Nat → Int32) (v : Int32) : kindN f t v < 4 := by
  have := filledN_lt f t v
  unfold kindN
  split
  · split
    · omega
    · omega
  · omega
theorem levelO_lt {kd : Int32} {f t : Nat → Int32} {v : Int32} {k : Nat} (h : levelO kd f t v = some k) : k < 4 := by
  unfold levelO at h
  split at h
  · exact strictO_lt h
  · split at h
    · cases h; exact filledN_lt f t v
    · cases h; exact kindN_lt f t v
theorem oI_none {o : Option Nat} (hl : ∀ k, o = some k → k < 4) : oI o = -900 ↔ o = none := by
  cases o with
  | none => simp [oI]
  | some k =>
    have := hl k rfl
    have h4 : k = 0 ∨ k = 1 ∨ k = 2 ∨ k = 3 := by omega
    rcases h4 with h | h | h | h <;> subst h <;> decide
theorem filled_some {f t : Nat → Int32} {v : Int32} (h : ¬ oI (strictO f t v) = -900) : oI (strictO f t v) = nI (filledN f t v) := by
  unfold filledN
  cases hh : strictO f t v with
  | none => rw [hh] at h; exact absurd rfl h
  | some k => rfl
theorem filled_none {f t : Nat → Int32} {v : Int32} (h : oI (strictO f t v) = -900) : filledN f t v = belowN f t v := by
  have := (oI_none (fun k hk => strictO_lt hk)).mp h
  unfold filledN
  rw [this]
theorem min_lv : ∀ u, u < 4 → (if nI 3 ≤ nI (u + 1) then nI 3 else nI (u + 1)) = nI (if u < 3 then u + 1 else u) := by decide
section LINE
variable (G : GG) (hp : List va_E) {a : Nat} {kd fc wt : Int32} {f t : Nat → Int32}
theorem c_spanHas (hL : LN G hp a kd fc wt f t) {k : Nat} (hk : k < 4) (v : Int32) : Ct G mX0_spanHas 0 0 0 [.ref (G.2.2.2 + a), .int (nI k), .int v] hp (Qf (some (.int (bP (hasS f t k v)))) hp) := by
  obtain ⟨h1, h2, h3⟩ := hL
  refine Ct.start 0 (by decide) rfl (Nat.le_of_ble_eq_true rfl) ?_
  refine v_aload_n dX0_spanHas_0 rfl rfl ?_
  refine v_getf dX0_spanHas_1 fl_X0_18 (by assumption) (by rfl) rfl ?_
  refine v_iload_n dX0_spanHas_4 rfl rfl ?_
  refine v_iald _ dX0_spanHas_5 (by assumption) rfl (by omega) (by decide) rfl ?_
  refine v_iload_n dX0_spanHas_6 rfl rfl ?_
  refine v_icmp_gtA (tgt := 24) dX0_spanHas_7 (by decide) rfl (fun c7 => ?_) (fun c7 => ?_)
  · refine v_iconst (v := nI 0) dX0_spanHas_24 (by decide) rfl ?_
    exact v_zret dX0_spanHas_25 rfl (by rfl) ⟨Nat.le_of_ble_eq_true rfl, Nat.le_of_ble_eq_true rfl⟩ (⟨by first | (rw [bP_t (by grind)]; done) | (rw [bP_f (by grind)]; done), rfl⟩)
  · refine v_iload_n dX0_spanHas_10 rfl rfl ?_
    refine v_aload_n dX0_spanHas_11 rfl rfl ?_
    refine v_getf dX0_spanHas_12 fl_X0_22 (by assumption) (by rfl) rfl ?_
    refine v_iload_n dX0_spanHas_15 rfl rfl ?_
    refine v_iald _ dX0_spanHas_16 (by assumption) rfl (by omega) (by decide) rfl ?_
    refine v_icmp_gtA (tgt := 24) dX0_spanHas_17 (by decide) rfl (fun c17 => ?_) (fun c17 => ?_)
    · refine v_iconst (v := nI 0) dX0_spanHas_24 (by decide) rfl ?_
      exact v_zret dX0_spanHas_25 rfl (by rfl) ⟨Nat.le_of_ble_eq_true rfl, Nat.le_of_ble_eq_true rfl⟩ (⟨by first | (rw [bP_t (by grind)]; done) | (rw [bP_f (by grind)]; done), rfl⟩)
    · refine v_iconst (v := nI 1) dX0_spanHas_20 (by decide) rfl ?_
      refine v_goto (tgt := 25) dX0_spanHas_21 (by decide) ?_
      exact v_zret dX0_spanHas_25 rfl (by rfl) ⟨Nat.le_of_ble_eq_true rfl, Nat.le_of_ble_eq_true rfl⟩ (⟨by first | (rw [bP_t (by grind)]; done) | (rw [bP_f (by grind)]; done), rfl⟩)
theorem c_strictLevel (hL : LN G hp a kd fc wt f t) (v : Int32) : Ct G mX0_strictLevel 1 0 0 [.ref (G.2.2.2 + a), .int v] hp (Qf (some (.int (oI (strictO f t v)))) hp) := by
  have h1 := hL.1
  refine Ct.start 1 (by decide) rfl (Nat.le_of_ble_eq_true rfl) ?_
  refine v_iconst (v := nI 3) dX0_strictLevel_0 (by decide) rfl ?_
  refine v_istore_n dX0_strictLevel_1 (Nat.le_of_ble_eq_true rfl) rfl ?_
  refine v_iload_n dX0_strictLevel_2 rfl rfl ?_
  refine v_if_lt (tgt := 23) dX0_strictLevel_3 (by decide) rfl (fun q => absurd q (by decide)) (fun _ => ?_)
  refine v_aload_n dX0_strictLevel_6 rfl rfl ?_
  refine v_iload_n dX0_strictLevel_7 rfl rfl ?_
  refine v_iload_n dX0_strictLevel_8 rfl rfl ?_
  by_cases q9 : hasS f t 3 v
  · refine v_cvf dX0_strictLevel_9 cw_X0_39 ⟨tn_X0_spanHas, tl_X0_spanHas⟩ rfl (by assumption) ((c_spanHas G hp hL (k := 3) (by decide) v).yes ‹_›) (by rfl) (by rfl) (Nat.le_of_ble_eq_true rfl) (Nat.le_of_ble_eq_true rfl) (Nat.le_of_ble_eq_true rfl) (Nat.le_of_ble_eq_true rfl) (Nat.le_of_ble_eq_true rfl) rfl ?_
    refine v_if_eq (tgt := 17) dX0_strictLevel_12 (by decide) rfl (fun q => absurd q (by decide)) (fun _ => ?_)
    refine v_iload_n dX0_strictLevel_15 rfl rfl ?_
    exact v_iret dX0_strictLevel_16 rfl ⟨Nat.le_of_ble_eq_true rfl, Nat.le_of_ble_eq_true rfl⟩ (⟨by unfold strictO; (repeat' split) <;> first | rfl | contradiction, rfl⟩)
  · refine v_cvf dX0_strictLevel_9 cw_X0_39 ⟨tn_X0_spanHas, tl_X0_spanHas⟩ rfl (by assumption) ((c_spanHas G hp hL (k := 3) (by decide) v).no ‹_›) (by rfl) (by rfl) (Nat.le_of_ble_eq_true rfl) (Nat.le_of_ble_eq_true rfl) (Nat.le_of_ble_eq_true rfl) (Nat.le_of_ble_eq_true rfl) (Nat.le_of_ble_eq_true rfl) rfl ?_
    refine v_if_eq (tgt := 17) dX0_strictLevel_12 (by decide) rfl (fun _ => ?_) (fun q => absurd (by decide) q)
    refine v_iinc (v := nI 2) dX0_strictLevel_17 rfl (by decide) (Nat.le_of_ble_eq_true rfl) rfl ?_
    refine v_goto (tgt := 2) dX0_strictLevel_20 (by decide) ?_
    refine v_iload_n dX0_strictLevel_2 rfl rfl ?_
    refine v_if_lt (tgt := 23) dX0_strictLevel_3 (by decide) rfl (fun q => absurd q (by decide)) (fun _ => ?_)
    refine v_aload_n dX0_strictLevel_6 rfl rfl ?_
    refine v_iload_n dX0_strictLevel_7 rfl rfl ?_
    refine v_iload_n dX0_strictLevel_8 rfl rfl ?_
    by_cases q9 : hasS f t 2 v
    · refine v_cvf dX0_strictLevel_9 cw_X0_39 ⟨tn_X0_spanHas, tl_X0_spanHas⟩ rfl (by assumption) ((c_spanHas G hp hL (k := 2) (by decide) v).yes ‹_›) (by rfl) (by rfl) (Nat.le_of_ble_eq_true rfl) (Nat.le_of_ble_eq_true rfl) (Nat.le_of_ble_eq_true rfl) (Nat.le_of_ble_eq_true rfl) (Nat.le_of_ble_eq_true rfl) rfl ?_
      refine v_if_eq (tgt := 17) dX0_strictLevel_12 (by decide) rfl (fun q => absurd q (by decide)) (fun _ => ?_)
      refine v_iload_n dX0_strictLevel_15 rfl rfl ?_
      exact v_iret dX0_strictLevel_16 rfl ⟨Nat.le_of_ble_eq_true rfl, Nat.le_of_ble_eq_true rfl⟩ (⟨by unfold strictO; (repeat' split) <;> first | rfl | contradiction, rfl⟩)
    · refine v_cvf dX0_strictLevel_9 cw_X0_39 ⟨tn_X0_spanHas, tl_X0_spanHas⟩ rfl (by assumption) ((c_spanHas G hp hL (k := 2) (by decide) v).no ‹_›) (by rfl) (by rfl) (Nat.le_of_ble_eq_true rfl) (Nat.le_of_ble_eq_true rfl) (Nat.le_of_ble_eq_true rfl) (Nat.le_of_ble_eq_true rfl) (Nat.le_of_ble_eq_true rfl) rfl ?_
      refine v_if_eq (tgt := 17) dX0_strictLevel_12 (by decide) rfl (fun _ => ?_) (fun q => absurd (by decide) q)
      refine v_iinc (v := nI 1) dX0_strictLevel_17 rfl (by decide) (Nat.le_of_ble_eq_true rfl) rfl ?_
      refine v_goto (tgt := 2) dX0_strictLevel_20 (by decide) ?_
      refine v_iload_n dX0_strictLevel_2 rfl rfl ?_
      refine v_if_lt (tgt := 23) dX0_strictLevel_3 (by decide) rfl (fun q => absurd q (by decide)) (fun _ => ?_)
      refine v_aload_n dX0_strictLevel_6 rfl rfl ?_
      refine v_iload_n dX0_strictLevel_7 rfl rfl ?_
      refine v_iload_n dX0_strictLevel_8 rfl rfl ?_
      by_cases q9 : hasS f t 1 v
      · refine v_cvf dX0_strictLevel_9 cw_X0_39 ⟨tn_X0_spanHas, tl_X0_spanHas⟩ rfl (by assumption) ((c_spanHas G hp hL (k := 1) (by decide) v).yes ‹_›) (by rfl) (by rfl) (Nat.le_of_ble_eq_true rfl) (Nat.le_of_ble_eq_true rfl) (Nat.le_of_ble_eq_true rfl) (Nat.le_of_ble_eq_true rfl) (Nat.le_of_ble_eq_true rfl) rfl ?_
        refine v_if_eq (tgt := 17) dX0_strictLevel_12 (by decide) rfl (fun q => absurd q (by decide)) (fun _ => ?_)
        refine v_iload_n dX0_strictLevel_15 rfl rfl ?_
        exact v_iret dX0_strictLevel_16 rfl ⟨Nat.le_of_ble_eq_true rfl, Nat.le_of_ble_eq_true rfl⟩ (⟨by unfold strictO; (repeat' split) <;> first | rfl | contradiction, rfl⟩)
      · refine v_cvf dX0_strictLevel_9 cw_X0_39 ⟨tn_X0_spanHas, tl_X0_spanHas⟩ rfl (by assumption) ((c_spanHas G hp hL (k := 1) (by decide) v).no ‹_›) (by rfl) (by rfl) (Nat.le_of_ble_eq_true rfl) (Nat.le_of_ble_eq_true rfl) (Nat.le_of_ble_eq_true rfl) (Nat.le_of_ble_eq_true rfl) (Nat.le_of_ble_eq_true rfl) rfl ?_
        refine v_if_eq (tgt := 17) dX0_strictLevel_12 (by decide) rfl (fun _ => ?_) (fun q => absurd (by decide) q)
        refine v_iinc (v := nI 0) dX0_strictLevel_17 rfl (by decide) (Nat.le_of_ble_eq_true rfl) rfl ?_
        refine v_goto (tgt := 2) dX0_strictLevel_20 (by decide) ?_
        refine v_iload_n dX0_strictLevel_2 rfl rfl ?_
        refine v_if_lt (tgt := 23) dX0_strictLevel_3 (by decide) rfl (fun q => absurd q (by decide)) (fun _ => ?_)
        refine v_aload_n dX0_strictLevel_6 rfl rfl ?_
        refine v_iload_n dX0_strictLevel_7 rfl rfl ?_
        refine v_iload_n dX0_strictLevel_8 rfl rfl ?_
        by_cases q9 : hasS f t 0 v
        · refine v_cvf dX0_strictLevel_9 cw_X0_39 ⟨tn_X0_spanHas, tl_X0_spanHas⟩ rfl (by assumption) ((c_spanHas G hp hL (k := 0) (by decide) v).yes ‹_›) (by rfl) (by rfl) (Nat.le_of_ble_eq_true rfl) (Nat.le_of_ble_eq_true rfl) (Nat.le_of_ble_eq_true rfl) (Nat.le_of_ble_eq_true rfl) (Nat.le_of_ble_eq_true rfl) rfl ?_
          refine v_if_eq (tgt := 17) dX0_strictLevel_12 (by decide) rfl (fun q => absurd q (by decide)) (fun _ => ?_)
          refine v_iload_n dX0_strictLevel_15 rfl rfl ?_
          exact v_iret dX0_strictLevel_16 rfl ⟨Nat.le_of_ble_eq_true rfl, Nat.le_of_ble_eq_true rfl⟩ (⟨by unfold strictO; (repeat' split) <;> first | rfl | contradiction, rfl⟩)
        · refine v_cvf dX0_strictLevel_9 cw_X0_39 ⟨tn_X0_spanHas, tl_X0_spanHas⟩ rfl (by assumption) ((c_spanHas G hp hL (k := 0) (by decide) v).no ‹_›) (by rfl) (by rfl) (Nat.le_of_ble_eq_true rfl) (Nat.le_of_ble_eq_true rfl) (Nat.le_of_ble_eq_true rfl) (Nat.le_of_ble_eq_true rfl) (Nat.le_of_ble_eq_true rfl) rfl ?_
          refine v_if_eq (tgt := 17) dX0_strictLevel_12 (by decide) rfl (fun _ => ?_) (fun q => absurd (by decide) q)
          refine v_iinc (v := (-1)) dX0_strictLevel_17 rfl (by decide) (Nat.le_of_ble_eq_true rfl) rfl ?_
          refine v_goto (tgt := 2) dX0_strictLevel_20 (by decide) ?_
          refine v_iload_n dX0_strictLevel_2 rfl rfl ?_
          refine v_if_lt (tgt := 23) dX0_strictLevel_3 (by decide) rfl (fun _ => ?_) (fun q => absurd (by decide) q)
          refine v_sipush (v := (-900)) dX0_strictLevel_23 (by decide) rfl ?_
          exact v_iret dX0_strictLevel_26 rfl ⟨Nat.le_of_ble_eq_true rfl, Nat.le_of_ble_eq_true rfl⟩ (⟨by unfold strictO; (repeat' split) <;> first | rfl | contradiction, rfl⟩)
theorem c_greatestBelow (hL : LN G hp a kd fc wt f t) (v : Int32) : Ct G mX0_greatestBelow 0 0 0 [.ref (G.2.2.2 + a), .int v] hp (Qf (some (.int (nI (belowN f t v)))) hp) := by
  obtain ⟨h1, h2, h3⟩ := hL
  refine Ct.start 1 (by decide) rfl (Nat.le_of_ble_eq_true rfl) ?_
  refine v_iconst (v := nI 3) dX0_greatestBelow_0 (by decide) rfl ?_
  refine v_istore_n dX0_greatestBelow_1 (Nat.le_of_ble_eq_true rfl) rfl ?_
  refine v_iload_n dX0_greatestBelow_2 rfl rfl ?_
  refine v_if_lt (tgt := 39) dX0_greatestBelow_3 (by decide) rfl (fun q => absurd q (by decide)) (fun _ => ?_)
  refine v_aload_n dX0_greatestBelow_6 rfl rfl ?_
  refine v_getf dX0_greatestBelow_7 fl_X0_18 (by assumption) (by rfl) rfl ?_
  refine v_iload_n dX0_greatestBelow_10 rfl rfl ?_
  refine v_iald 3 dX0_greatestBelow_11 (by assumption) rfl (by decide) (by decide) rfl ?_
  refine v_aload_n dX0_greatestBelow_12 rfl rfl ?_
  refine v_getf dX0_greatestBelow_13 fl_X0_22 (by assumption) (by rfl) rfl ?_
  refine v_iload_n dX0_greatestBelow_16 rfl rfl ?_
  refine v_iald 3 dX0_greatestBelow_17 (by assumption) rfl (by decide) (by decide) rfl ?_
  refine v_icmp_gtA (tgt := 33) dX0_greatestBelow_18 (by decide) rfl (fun c18 => ?_) (fun c18 => ?_)
  · refine v_iinc (v := nI 2) dX0_greatestBelow_33 rfl (by decide) (Nat.le_of_ble_eq_true rfl) rfl ?_
    refine v_goto (tgt := 2) dX0_greatestBelow_36 (by decide) ?_
    refine v_iload_n dX0_greatestBelow_2 rfl rfl ?_
    refine v_if_lt (tgt := 39) dX0_greatestBelow_3 (by decide) rfl (fun q => absurd q (by decide)) (fun _ => ?_)
    refine v_aload_n dX0_greatestBelow_6 rfl rfl ?_
    refine v_getf dX0_greatestBelow_7 fl_X0_18 (by assumption) (by rfl) rfl ?_
    refine v_iload_n dX0_greatestBelow_10 rfl rfl ?_
    refine v_iald 2 dX0_greatestBelow_11 (by assumption) rfl (by decide) (by decide) rfl ?_
    refine v_aload_n dX0_greatestBelow_12 rfl rfl ?_
    refine v_getf dX0_greatestBelow_13 fl_X0_22 (by assumption) (by rfl) rfl ?_
    refine v_iload_n dX0_greatestBelow_16 rfl rfl ?_
    refine v_iald 2 dX0_greatestBelow_17 (by assumption) rfl (by decide) (by decide) rfl ?_
    refine v_icmp_gtA (tgt := 33) dX0_greatestBelow_18 (by decide) rfl (fun c18 => ?_) (fun c18 => ?_)
    · refine v_iinc (v := nI 1) dX0_greatestBelow_33 rfl (by decide) (Nat.le_of_ble_eq_true rfl) rfl ?_
      refine v_goto (tgt := 2) dX0_greatestBelow_36 (by decide) ?_
      refine v_iload_n dX0_greatestBelow_2 rfl rfl ?_
      refine v_if_lt (tgt := 39) dX0_greatestBelow_3 (by decide) rfl (fun q => absurd q (by decide)) (fun _ => ?_)
      refine v_aload_n dX0_greatestBelow_6 rfl rfl ?_
      refine v_getf dX0_greatestBelow_7 fl_X0_18 (by assumption) (by rfl) rfl ?_
      refine v_iload_n dX0_greatestBelow_10 rfl rfl ?_
      refine v_iald 1 dX0_greatestBelow_11 (by assumption) rfl (by decide) (by decide) rfl ?_
      refine v_aload_n dX0_greatestBelow_12 rfl rfl ?_
      refine v_getf dX0_greatestBelow_13 fl_X0_22 (by assumption) (by rfl) rfl ?_
      refine v_iload_n dX0_greatestBelow_16 rfl rfl ?_
      refine v_iald 1 dX0_greatestBelow_17 (by assumption) rfl (by decide) (by decide) rfl ?_
      refine v_icmp_gtA (tgt := 33) dX0_greatestBelow_18 (by decide) rfl (fun c18 => ?_) (fun c18 => ?_)
      · refine v_iinc (v := nI 0) dX0_greatestBelow_33 rfl (by decide) (Nat.le_of_ble_eq_true rfl) rfl ?_
        refine v_goto (tgt := 2) dX0_greatestBelow_36 (by decide) ?_
        refine v_iload_n dX0_greatestBelow_2 rfl rfl ?_
        refine v_if_lt (tgt := 39) dX0_greatestBelow_3 (by decide) rfl (fun q => absurd q (by decide)) (fun _ => ?_)
        refine v_aload_n dX0_greatestBelow_6 rfl rfl ?_
        refine v_getf dX0_greatestBelow_7 fl_X0_18 (by assumption) (by rfl) rfl ?_
        refine v_iload_n dX0_greatestBelow_10 rfl rfl ?_
        refine v_iald 0 dX0_greatestBelow_11 (by assumption) rfl (by decide) (by decide) rfl ?_
        refine v_aload_n dX0_greatestBelow_12 rfl rfl ?_
        refine v_getf dX0_greatestBelow_13 fl_X0_22 (by assumption) (by rfl) rfl ?_
        refine v_iload_n dX0_greatestBelow_16 rfl rfl ?_
        refine v_iald 0 dX0_greatestBelow_17 (by assumption) rfl (by decide) (by decide) rfl ?_
        refine v_icmp_gtA (tgt := 33) dX0_greatestBelow_18 (by decide) rfl (fun c18 => ?_) (fun c18 => ?_)
        · refine v_iinc (v := (-1)) dX0_greatestBelow_33 rfl (by decide) (Nat.le_of_ble_eq_true rfl) rfl ?_
          refine v_goto (tgt := 2) dX0_greatestBelow_36 (by decide) ?_
          refine v_iload_n dX0_greatestBelow_2 rfl rfl ?_
          refine v_if_lt (tgt := 39) dX0_greatestBelow_3 (by decide) rfl (fun _ => ?_) (fun q => absurd (by decide) q)
          refine v_iconst (v := nI 0) dX0_greatestBelow_39 (by decide) rfl ?_
          exact v_iret dX0_greatestBelow_40 rfl ⟨Nat.le_of_ble_eq_true rfl, Nat.le_of_ble_eq_true rfl⟩ (⟨by grind [belowN], rfl⟩)
        · refine v_aload_n dX0_greatestBelow_21 rfl rfl ?_
          refine v_getf dX0_greatestBelow_22 fl_X0_22 (by assumption) (by rfl) rfl ?_
          refine v_iload_n dX0_greatestBelow_25 rfl rfl ?_
          refine v_iald 0 dX0_greatestBelow_26 (by assumption) rfl (by decide) (by decide) rfl ?_
          refine v_iload_n dX0_greatestBelow_27 rfl rfl ?_
          refine v_icmp_ge (tgt := 33) dX0_greatestBelow_28 (by decide) rfl (fun c28 => ?_) (fun c28 => ?_)
          · refine v_iinc (v := (-1)) dX0_greatestBelow_33 rfl (by decide) (Nat.le_of_ble_eq_true rfl) rfl ?_
            refine v_goto (tgt := 2) dX0_greatestBelow_36 (by decide) ?_
            refine v_iload_n dX0_greatestBelow_2 rfl rfl ?_
            refine v_if_lt (tgt := 39) dX0_greatestBelow_3 (by decide) rfl (fun _ => ?_) (fun q => absurd (by decide) q)
            refine v_iconst (v := nI 0) dX0_greatestBelow_39 (by decide) rfl ?_
            exact v_iret dX0_greatestBelow_40 rfl ⟨Nat.le_of_ble_eq_true rfl, Nat.le_of_ble_eq_true rfl⟩ (⟨by grind [belowN], rfl⟩)
          · refine v_iload_n dX0_greatestBelow_31 rfl rfl ?_
            exact v_iret dX0_greatestBelow_32 rfl ⟨Nat.le_of_ble_eq_true rfl, Nat.le_of_ble_eq_true rfl⟩ (⟨by grind [belowN], rfl⟩)
      · refine v_aload_n dX0_greatestBelow_21 rfl rfl ?_
        refine v_getf dX0_greatestBelow_22 fl_X0_22 (by assumption) (by rfl) rfl ?_
        refine v_iload_n dX0_greatestBelow_25 rfl rfl ?_
        refine v_iald 1 dX0_greatestBelow_26 (by assumption) rfl (by decide) (by decide) rfl ?_
        refine v_iload_n dX0_greatestBelow_27 rfl rfl ?_
        refine v_icmp_ge (tgt := 33) dX0_greatestBelow_28 (by decide) rfl (fun c28 => ?_) (fun c28 => ?_)
        · refine v_iinc (v := nI 0) dX0_greatestBelow_33 rfl (by decide) (Nat.le_of_ble_eq_true rfl) rfl ?_
          refine v_goto (tgt := 2) dX0_greatestBelow_36 (by decide) ?_
          refine v_iload_n dX0_greatestBelow_2 rfl rfl ?_
          refine v_if_lt (tgt := 39) dX0_greatestBelow_3 (by decide) rfl (fun q => absurd q (by decide)) (fun _ => ?_)
          refine v_aload_n dX0_greatestBelow_6 rfl rfl ?_
          refine v_getf dX0_greatestBelow_7 fl_X0_18 (by assumption) (by rfl) rfl ?_
          refine v_iload_n dX0_greatestBelow_10 rfl rfl ?_
          refine v_iald 0 dX0_greatestBelow_11 (by assumption) rfl (by decide) (by decide) rfl ?_
          refine v_aload_n dX0_greatestBelow_12 rfl rfl ?_
          refine v_getf dX0_greatestBelow_13 fl_X0_22 (by assumption) (by rfl) rfl ?_
          refine v_iload_n dX0_greatestBelow_16 rfl rfl ?_
          refine v_iald 0 dX0_greatestBelow_17 (by assumption) rfl (by decide) (by decide) rfl ?_
          refine v_icmp_gtA (tgt := 33) dX0_greatestBelow_18 (by decide) rfl (fun c18 => ?_) (fun c18 => ?_)
          · refine v_iinc (v := (-1)) dX0_greatestBelow_33 rfl (by decide) (Nat.le_of_ble_eq_true rfl) rfl ?_
            refine v_goto (tgt := 2) dX0_greatestBelow_36 (by decide) ?_
            refine v_iload_n dX0_greatestBelow_2 rfl rfl ?_
            refine v_if_lt (tgt := 39) dX0_greatestBelow_3 (by decide) rfl (fun _ => ?_) (fun q => absurd (by decide) q)
            refine v_iconst (v := nI 0) dX0_greatestBelow_39 (by decide) rfl ?_
            exact v_iret dX0_greatestBelow_40 rfl ⟨Nat.le_of_ble_eq_true rfl, Nat.le_of_ble_eq_true rfl⟩ (⟨by grind [belowN], rfl⟩)
          · refine v_aload_n dX0_greatestBelow_21 rfl rfl ?_
            refine v_getf dX0_greatestBelow_22 fl_X0_22 (by assumption) (by rfl) rfl ?_
            refine v_iload_n dX0_greatestBelow_25 rfl rfl ?_
            refine v_iald 0 dX0_greatestBelow_26 (by assumption) rfl (by decide) (by decide) rfl ?_
            refine v_iload_n dX0_greatestBelow_27 rfl rfl ?_
            refine v_icmp_ge (tgt := 33) dX0_greatestBelow_28 (by decide) rfl (fun c28 => ?_) (fun c28 => ?_)
            · refine v_iinc (v := (-1)) dX0_greatestBelow_33 rfl (by decide) (Nat.le_of_ble_eq_true rfl) rfl ?_
              refine v_goto (tgt := 2) dX0_greatestBelow_36 (by decide) ?_
              refine v_iload_n dX0_greatestBelow_2 rfl rfl ?_
              refine v_if_lt (tgt := 39) dX0_greatestBelow_3 (by decide) rfl (fun _ => ?_) (fun q => absurd (by decide) q)
              refine v_iconst (v := nI 0) dX0_greatestBelow_39 (by decide) rfl ?_
              exact v_iret dX0_greatestBelow_40 rfl ⟨Nat.le_of_ble_eq_true rfl, Nat.le_of_ble_eq_true rfl⟩ (⟨by grind [belowN], rfl⟩)
            · refine v_iload_n dX0_greatestBelow_31 rfl rfl ?_
              exact v_iret dX0_greatestBelow_32 rfl ⟨Nat.le_of_ble_eq_true rfl, Nat.le_of_ble_eq_true rfl⟩ (⟨by grind [belowN], rfl⟩)
        · refine v_iload_n dX0_greatestBelow_31 rfl rfl ?_
          exact v_iret dX0_greatestBelow_32 rfl ⟨Nat.le_of_ble_eq_true rfl, Nat.le_of_ble_eq_true rfl⟩ (⟨by grind [belowN], rfl⟩)
    · refine v_aload_n dX0_greatestBelow_21 rfl rfl ?_
      refine v_getf dX0_greatestBelow_22 fl_X0_22 (by assumption) (by rfl) rfl ?_
      refine v_iload_n dX0_greatestBelow_25 rfl rfl ?_
      refine v_iald 2 dX0_greatestBelow_26 (by assumption) rfl (by decide) (by decide) rfl ?_
      refine v_iload_n dX0_greatestBelow_27 rfl rfl ?_
      refine v_icmp_ge (tgt := 33) dX0_greatestBelow_28 (by decide) rfl (fun c28 => ?_) (fun c28 => ?_)
      · refine v_iinc (v := nI 1) dX0_greatestBelow_33 rfl (by decide) (Nat.le_of_ble_eq_true rfl) rfl ?_
        refine v_goto (tgt := 2) dX0_greatestBelow_36 (by decide) ?_
        refine v_iload_n dX0_greatestBelow_2 rfl rfl ?_
        refine v_if_lt (tgt := 39) dX0_greatestBelow_3 (by decide) rfl (fun q => absurd q (by decide)) (fun _ => ?_)
        refine v_aload_n dX0_greatestBelow_6 rfl rfl ?_
        refine v_getf dX0_greatestBelow_7 fl_X0_18 (by assumption) (by rfl) rfl ?_
        refine v_iload_n dX0_greatestBelow_10 rfl rfl ?_
        refine v_iald 1 dX0_greatestBelow_11 (by assumption) rfl (by decide) (by decide) rfl ?_
        refine v_aload_n dX0_greatestBelow_12 rfl rfl ?_
        refine v_getf dX0_greatestBelow_13 fl_X0_22 (by assumption) (by rfl) rfl ?_
        refine v_iload_n dX0_greatestBelow_16 rfl rfl ?_
        refine v_iald 1 dX0_greatestBelow_17 (by assumption) rfl (by decide) (by decide) rfl ?_
        refine v_icmp_gtA (tgt := 33) dX0_greatestBelow_18 (by decide) rfl (fun c18 => ?_) (fun c18 => ?_)
        · refine v_iinc (v := nI 0) dX0_greatestBelow_33 rfl (by decide) (Nat.le_of_ble_eq_true rfl) rfl ?_
          refine v_goto (tgt := 2) dX0_greatestBelow_36 (by decide) ?_
          refine v_iload_n dX0_greatestBelow_2 rfl rfl ?_
          refine v_if_lt (tgt := 39) dX0_greatestBelow_3 (by decide) rfl (fun q => absurd q (by decide)) (fun _ => ?_)
          refine v_aload_n dX0_greatestBelow_6 rfl rfl ?_
          refine v_getf dX0_greatestBelow_7 fl_X0_18 (by assumption) (by rfl) rfl ?_
          refine v_iload_n dX0_greatestBelow_10 rfl rfl ?_
          refine v_iald 0 dX0_greatestBelow_11 (by assumption) rfl (by decide) (by decide) rfl ?_
          refine v_aload_n dX0_greatestBelow_12 rfl rfl ?_
          refine v_getf dX0_greatestBelow_13 fl_X0_22 (by assumption) (by rfl) rfl ?_
          refine v_iload_n dX0_greatestBelow_16 rfl rfl ?_
          refine v_iald 0 dX0_greatestBelow_17 (by assumption) rfl (by decide) (by decide) rfl ?_
          refine v_icmp_gtA (tgt := 33) dX0_greatestBelow_18 (by decide) rfl (fun c18 => ?_) (fun c18 => ?_)
          · refine v_iinc (v := (-1)) dX0_greatestBelow_33 rfl (by decide) (Nat.le_of_ble_eq_true rfl) rfl ?_
            refine v_goto (tgt := 2) dX0_greatestBelow_36 (by decide) ?_
            refine v_iload_n dX0_greatestBelow_2 rfl rfl ?_
            refine v_if_lt (tgt := 39) dX0_greatestBelow_3 (by decide) rfl (fun _ => ?_) (fun q => absurd (by decide) q)
            refine v_iconst (v := nI 0) dX0_greatestBelow_39 (by decide) rfl ?_
            exact v_iret dX0_greatestBelow_40 rfl ⟨Nat.le_of_ble_eq_true rfl, Nat.le_of_ble_eq_true rfl⟩ (⟨by grind [belowN], rfl⟩)
          · refine v_aload_n dX0_greatestBelow_21 rfl rfl ?_
            refine v_getf dX0_greatestBelow_22 fl_X0_22 (by assumption) (by rfl) rfl ?_
            refine v_iload_n dX0_greatestBelow_25 rfl rfl ?_
            refine v_iald 0 dX0_greatestBelow_26 (by assumption) rfl (by decide) (by decide) rfl ?_
            refine v_iload_n dX0_greatestBelow_27 rfl rfl ?_
            refine v_icmp_ge (tgt := 33) dX0_greatestBelow_28 (by decide) rfl (fun c28 => ?_) (fun c28 => ?_)
            · refine v_iinc (v := (-1)) dX0_greatestBelow_33 rfl (by decide) (Nat.le_of_ble_eq_true rfl) rfl ?_
              refine v_goto (tgt := 2) dX0_greatestBelow_36 (by decide) ?_
              refine v_iload_n dX0_greatestBelow_2 rfl rfl ?_
              refine v_if_lt (tgt := 39) dX0_greatestBelow_3 (by decide) rfl (fun _ => ?_) (fun q => absurd (by decide) q)
              refine v_iconst (v := nI 0) dX0_greatestBelow_39 (by decide) rfl ?_
              exact v_iret dX0_greatestBelow_40 rfl ⟨Nat.le_of_ble_eq_true rfl, Nat.le_of_ble_eq_true rfl⟩ (⟨by grind [belowN], rfl⟩)
            · refine v_iload_n dX0_greatestBelow_31 rfl rfl ?_
              exact v_iret dX0_greatestBelow_32 rfl ⟨Nat.le_of_ble_eq_true rfl, Nat.le_of_ble_eq_true rfl⟩ (⟨by grind [belowN], rfl⟩)
        · refine v_aload_n dX0_greatestBelow_21 rfl rfl ?_
          refine v_getf dX0_greatestBelow_22 fl_X0_22 (by assumption) (by rfl) rfl ?_
          refine v_iload_n dX0_greatestBelow_25 rfl rfl ?_
          refine v_iald 1 dX0_greatestBelow_26 (by assumption) rfl (by decide) (by decide) rfl ?_
          refine v_iload_n dX0_greatestBelow_27 rfl rfl ?_
          refine v_icmp_ge (tgt := 33) dX0_greatestBelow_28 (by decide) rfl (fun c28 => ?_) (fun c28 => ?_)
          · refine v_iinc (v := nI 0) dX0_greatestBelow_33 rfl (by decide) (Nat.le_of_ble_eq_true rfl) rfl ?_
            refine v_goto (tgt := 2) dX0_greatestBelow_36 (by decide) ?_
            refine v_iload_n dX0_greatestBelow_2 rfl rfl ?_
            refine v_if_lt (tgt := 39) dX0_greatestBelow_3 (by decide) rfl (fun q => absurd q (by decide)) (fun _ => ?_)
            refine v_aload_n dX0_greatestBelow_6 rfl rfl ?_
            refine v_getf dX0_greatestBelow_7 fl_X0_18 (by assumption) (by rfl) rfl ?_
            refine v_iload_n dX0_greatestBelow_10 rfl rfl ?_
            refine v_iald 0 dX0_greatestBelow_11 (by assumption) rfl (by decide) (by decide) rfl ?_
            refine v_aload_n dX0_greatestBelow_12 rfl rfl ?_
            refine v_getf dX0_greatestBelow_13 fl_X0_22 (by assumption) (by rfl) rfl ?_
            refine v_iload_n dX0_greatestBelow_16 rfl rfl ?_
            refine v_iald 0 dX0_greatestBelow_17 (by assumption) rfl (by decide) (by decide) rfl ?_
            refine v_icmp_gtA (tgt := 33) dX0_greatestBelow_18 (by decide) rfl (fun c18 => ?_) (fun c18 => ?_)
            · refine v_iinc (v := (-1)) dX0_greatestBelow_33 rfl (by decide) (Nat.le_of_ble_eq_true rfl) rfl ?_
              refine v_goto (tgt := 2) dX0_greatestBelow_36 (by decide) ?_
              refine v_iload_n dX0_greatestBelow_2 rfl rfl ?_
              refine v_if_lt (tgt := 39) dX0_greatestBelow_3 (by decide) rfl (fun _ => ?_) (fun q => absurd (by decide) q)
              refine v_iconst (v := nI 0) dX0_greatestBelow_39 (by decide) rfl ?_
              exact v_iret dX0_greatestBelow_40 rfl ⟨Nat.le_of_ble_eq_true rfl, Nat.le_of_ble_eq_true rfl⟩ (⟨by grind [belowN], rfl⟩)
            · refine v_aload_n dX0_greatestBelow_21 rfl rfl ?_
              refine v_getf dX0_greatestBelow_22 fl_X0_22 (by assumption) (by rfl) rfl ?_
              refine v_iload_n dX0_greatestBelow_25 rfl rfl ?_
              refine v_iald 0 dX0_greatestBelow_26 (by assumption) rfl (by decide) (by decide) rfl ?_
              refine v_iload_n dX0_greatestBelow_27 rfl rfl ?_
              refine v_icmp_ge (tgt := 33) dX0_greatestBelow_28 (by decide) rfl (fun c28 => ?_) (fun c28 => ?_)
              · refine v_iinc (v := (-1)) dX0_greatestBelow_33 rfl (by decide) (Nat.le_of_ble_eq_true rfl) rfl ?_
                refine v_goto (tgt := 2) dX0_greatestBelow_36 (by decide) ?_
                refine v_iload_n dX0_greatestBelow_2 rfl rfl ?_
                refine v_if_lt (tgt := 39) dX0_greatestBelow_3 (by decide) rfl (fun _ => ?_) (fun q => absurd (by decide) q)
                refine v_iconst (v := nI 0) dX0_greatestBelow_39 (by decide) rfl ?_
                exact v_iret dX0_greatestBelow_40 rfl ⟨Nat.le_of_ble_eq_true rfl, Nat.le_of_ble_eq_true rfl⟩ (⟨by grind [belowN], rfl⟩)
              · refine v_iload_n dX0_greatestBelow_31 rfl rfl ?_
                exact v_iret dX0_greatestBelow_32 rfl ⟨Nat.le_of_ble_eq_true rfl, Nat.le_of_ble_eq_true rfl⟩ (⟨by grind [belowN], rfl⟩)
          · refine v_iload_n dX0_greatestBelow_31 rfl rfl ?_
            exact v_iret dX0_greatestBelow_32 rfl ⟨Nat.le_of_ble_eq_true rfl, Nat.le_of_ble_eq_true rfl⟩ (⟨by grind [belowN], rfl⟩)
      · refine v_iload_n dX0_greatestBelow_31 rfl rfl ?_
        exact v_iret dX0_greatestBelow_32 rfl ⟨Nat.le_of_ble_eq_true rfl, Nat.le_of_ble_eq_true rfl⟩ (⟨by grind [belowN], rfl⟩)
  · refine v_aload_n dX0_greatestBelow_21 rfl rfl ?_
    refine v_getf dX0_greatestBelow_22 fl_X0_22 (by assumption) (by rfl) rfl ?_
    refine v_iload_n dX0_greatestBelow_25 rfl rfl ?_
    refine v_iald 3 dX0_greatestBelow_26 (by assumption) rfl (by decide) (by decide) rfl ?_
    refine v_iload_n dX0_greatestBelow_27 rfl rfl ?_
    refine v_icmp_ge (tgt := 33) dX0_greatestBelow_28 (by decide) rfl (fun c28 => ?_) (fun c28 => ?_)
    · refine v_iinc (v := nI 2) dX0_greatestBelow_33 rfl (by decide) (Nat.le_of_ble_eq_true rfl) rfl ?_
      refine v_goto (tgt := 2) dX0_greatestBelow_36 (by decide) ?_
      refine v_iload_n dX0_greatestBelow_2 rfl rfl ?_
      refine v_if_lt (tgt := 39) dX0_greatestBelow_3 (by decide) rfl (fun q => absurd q (by decide)) (fun _ => ?_)
      refine v_aload_n dX0_greatestBelow_6 rfl rfl ?_
      refine v_getf dX0_greatestBelow_7 fl_X0_18 (by assumption) (by rfl) rfl ?_
      refine v_iload_n dX0_greatestBelow_10 rfl rfl ?_
      refine v_iald 2 dX0_greatestBelow_11 (by assumption) rfl (by decide) (by decide) rfl ?_
      refine v_aload_n dX0_greatestBelow_12 rfl rfl ?_
      refine v_getf dX0_greatestBelow_13 fl_X0_22 (by assumption) (by rfl) rfl ?_
      refine v_iload_n dX0_greatestBelow_16 rfl rfl ?_
      refine v_iald 2 dX0_greatestBelow_17 (by assumption) rfl (by decide) (by decide) rfl ?_
      refine v_icmp_gtA (tgt := 33) dX0_greatestBelow_18 (by decide) rfl (fun c18 => ?_) (fun c18 => ?_)
      · refine v_iinc (v := nI 1) dX0_greatestBelow_33 rfl (by decide) (Nat.le_of_ble_eq_true rfl) rfl ?_
        refine v_goto (tgt := 2) dX0_greatestBelow_36 (by decide) ?_
        refine v_iload_n dX0_greatestBelow_2 rfl rfl ?_
        refine v_if_lt (tgt := 39) dX0_greatestBelow_3 (by decide) rfl (fun q => absurd q (by decide)) (fun _ => ?_)
        refine v_aload_n dX0_greatestBelow_6 rfl rfl ?_
        refine v_getf dX0_greatestBelow_7 fl_X0_18 (by assumption) (by rfl) rfl ?_
        refine v_iload_n dX0_greatestBelow_10 rfl rfl ?_
        refine v_iald 1 dX0_greatestBelow_11 (by assumption) rfl (by decide) (by decide) rfl ?_
        refine v_aload_n dX0_greatestBelow_12 rfl rfl ?_
        refine v_getf dX0_greatestBelow_13 fl_X0_22 (by assumption) (by rfl) rfl ?_
        refine v_iload_n dX0_greatestBelow_16 rfl rfl ?_
        refine v_iald 1 dX0_greatestBelow_17 (by assumption) rfl (by decide) (by decide) rfl ?_
        refine v_icmp_gtA (tgt := 33) dX0_greatestBelow_18 (by decide) rfl (fun c18 => ?_) (fun c18 => ?_)
        · refine v_iinc (v := nI 0) dX0_greatestBelow_33 rfl (by decide) (Nat.le_of_ble_eq_true rfl) rfl ?_
          refine v_goto (tgt := 2) dX0_greatestBelow_36 (by decide) ?_
          refine v_iload_n dX0_greatestBelow_2 rfl rfl ?_
          refine v_if_lt (tgt := 39) dX0_greatestBelow_3 (by decide) rfl (fun q => absurd q (by decide)) (fun _ => ?_)
          refine v_aload_n dX0_greatestBelow_6 rfl rfl ?_
          refine v_getf dX0_greatestBelow_7 fl_X0_18 (by assumption) (by rfl) rfl ?_
          refine v_iload_n dX0_greatestBelow_10 rfl rfl ?_
          refine v_iald 0 dX0_greatestBelow_11 (by assumption) rfl (by decide) (by decide) rfl ?_
          refine v_aload_n dX0_greatestBelow_12 rfl rfl ?_
          refine v_getf dX0_greatestBelow_13 fl_X0_22 (by assumption) (by rfl) rfl ?_
          refine v_iload_n dX0_greatestBelow_16 rfl rfl ?_
          refine v_iald 0 dX0_greatestBelow_17 (by assumption) rfl (by decide) (by decide) rfl ?_
          refine v_icmp_gtA (tgt := 33) dX0_greatestBelow_18 (by decide) rfl (fun c18 => ?_) (fun c18 => ?_)
          · refine v_iinc (v := (-1)) dX0_greatestBelow_33 rfl (by decide) (Nat.le_of_ble_eq_true rfl) rfl ?_
            refine v_goto (tgt := 2) dX0_greatestBelow_36 (by decide) ?_
            refine v_iload_n dX0_greatestBelow_2 rfl rfl ?_
            refine v_if_lt (tgt := 39) dX0_greatestBelow_3 (by decide) rfl (fun _ => ?_) (fun q => absurd (by decide) q)
            refine v_iconst (v := nI 0) dX0_greatestBelow_39 (by decide) rfl ?_
            exact v_iret dX0_greatestBelow_40 rfl ⟨Nat.le_of_ble_eq_true rfl, Nat.le_of_ble_eq_true rfl⟩ (⟨by grind [belowN], rfl⟩)
          · refine v_aload_n dX0_greatestBelow_21 rfl rfl ?_
            refine v_getf dX0_greatestBelow_22 fl_X0_22 (by assumption) (by rfl) rfl ?_
            refine v_iload_n dX0_greatestBelow_25 rfl rfl ?_
            refine v_iald 0 dX0_greatestBelow_26 (by assumption) rfl (by decide) (by decide) rfl ?_
            refine v_iload_n dX0_greatestBelow_27 rfl rfl ?_
            refine v_icmp_ge (tgt := 33) dX0_greatestBelow_28 (by decide) rfl (fun c28 => ?_) (fun c28 => ?_)
            · refine v_iinc (v := (-1)) dX0_greatestBelow_33 rfl (by decide) (Nat.le_of_ble_eq_true rfl) rfl ?_
              refine v_goto (tgt := 2) dX0_greatestBelow_36 (by decide) ?_
              refine v_iload_n dX0_greatestBelow_2 rfl rfl ?_
              refine v_if_lt (tgt := 39) dX0_greatestBelow_3 (by decide) rfl (fun _ => ?_) (fun q => absurd (by decide) q)
              refine v_iconst (v := nI 0) dX0_greatestBelow_39 (by decide) rfl ?_
              exact v_iret dX0_greatestBelow_40 rfl ⟨Nat.le_of_ble_eq_true rfl, Nat.le_of_ble_eq_true rfl⟩ (⟨by grind [belowN], rfl⟩)
            · refine v_iload_n dX0_greatestBelow_31 rfl rfl ?_
              exact v_iret dX0_greatestBelow_32 rfl ⟨Nat.le_of_ble_eq_true rfl, Nat.le_of_ble_eq_true rfl⟩ (⟨by grind [belowN], rfl⟩)
        · refine v_aload_n dX0_greatestBelow_21 rfl rfl ?_
          refine v_getf dX0_greatestBelow_22 fl_X0_22 (by assumption) (by rfl) rfl ?_
          refine v_iload_n dX0_greatestBelow_25 rfl rfl ?_
          refine v_iald 1 dX0_greatestBelow_26 (by assumption) rfl (by decide) (by decide) rfl ?_
          refine v_iload_n dX0_greatestBelow_27 rfl rfl ?_
          refine v_icmp_ge (tgt := 33) dX0_greatestBelow_28 (by decide) rfl (fun c28 => ?_) (fun c28 => ?_)
          · refine v_iinc (v := nI 0) dX0_greatestBelow_33 rfl (by decide) (Nat.le_of_ble_eq_true rfl) rfl ?_
            refine v_goto (tgt := 2) dX0_greatestBelow_36 (by decide) ?_
            refine v_iload_n dX0_greatestBelow_2 rfl rfl ?_
            refine v_if_lt (tgt := 39) dX0_greatestBelow_3 (by decide) rfl (fun q => absurd q (by decide)) (fun _ => ?_)
            refine v_aload_n dX0_greatestBelow_6 rfl rfl ?_
            refine v_getf dX0_greatestBelow_7 fl_X0_18 (by assumption) (by rfl) rfl ?_
            refine v_iload_n dX0_greatestBelow_10 rfl rfl ?_
            refine v_iald 0 dX0_greatestBelow_11 (by assumption) rfl (by decide) (by decide) rfl ?_
            refine v_aload_n dX0_greatestBelow_12 rfl rfl ?_
            refine v_getf dX0_greatestBelow_13 fl_X0_22 (by assumption) (by rfl) rfl ?_
            refine v_iload_n dX0_greatestBelow_16 rfl rfl ?_
            refine v_iald 0 dX0_greatestBelow_17 (by assumption) rfl (by decide) (by decide) rfl ?_
            refine v_icmp_gtA (tgt := 33) dX0_greatestBelow_18 (by decide) rfl (fun c18 => ?_) (fun c18 => ?_)
            · refine v_iinc (v := (-1)) dX0_greatestBelow_33 rfl (by decide) (Nat.le_of_ble_eq_true rfl) rfl ?_
              refine v_goto (tgt := 2) dX0_greatestBelow_36 (by decide) ?_
              refine v_iload_n dX0_greatestBelow_2 rfl rfl ?_
              refine v_if_lt (tgt := 39) dX0_greatestBelow_3 (by decide) rfl (fun _ => ?_) (fun q => absurd (by decide) q)
              refine v_iconst (v := nI 0) dX0_greatestBelow_39 (by decide) rfl ?_
              exact v_iret dX0_greatestBelow_40 rfl ⟨Nat.le_of_ble_eq_true rfl, Nat.le_of_ble_eq_true rfl⟩ (⟨by grind [belowN], rfl⟩)
            · refine v_aload_n dX0_greatestBelow_21 rfl rfl ?_
              refine v_getf dX0_greatestBelow_22 fl_X0_22 (by assumption) (by rfl) rfl ?_
              refine v_iload_n dX0_greatestBelow_25 rfl rfl ?_
              refine v_iald 0 dX0_greatestBelow_26 (by assumption) rfl (by decide) (by decide) rfl ?_
              refine v_iload_n dX0_greatestBelow_27 rfl rfl ?_
              refine v_icmp_ge (tgt := 33) dX0_greatestBelow_28 (by decide) rfl (fun c28 => ?_) (fun c28 => ?_)
              · refine v_iinc (v := (-1)) dX0_greatestBelow_33 rfl (by decide) (Nat.le_of_ble_eq_true rfl) rfl ?_
                refine v_goto (tgt := 2) dX0_greatestBelow_36 (by decide) ?_
                refine v_iload_n dX0_greatestBelow_2 rfl rfl ?_
                refine v_if_lt (tgt := 39) dX0_greatestBelow_3 (by decide) rfl (fun _ => ?_) (fun q => absurd (by decide) q)
                refine v_iconst (v := nI 0) dX0_greatestBelow_39 (by decide) rfl ?_
                exact v_iret dX0_greatestBelow_40 rfl ⟨Nat.le_of_ble_eq_true rfl, Nat.le_of_ble_eq_true rfl⟩ (⟨by grind [belowN], rfl⟩)
              · refine v_iload_n dX0_greatestBelow_31 rfl rfl ?_
                exact v_iret dX0_greatestBelow_32 rfl ⟨Nat.le_of_ble_eq_true rfl, Nat.le_of_ble_eq_true rfl⟩ (⟨by grind [belowN], rfl⟩)
          · refine v_iload_n dX0_greatestBelow_31 rfl rfl ?_
            exact v_iret dX0_greatestBelow_32 rfl ⟨Nat.le_of_ble_eq_true rfl, Nat.le_of_ble_eq_true rfl⟩ (⟨by grind [belowN], rfl⟩)
      · refine v_aload_n dX0_greatestBelow_21 rfl rfl ?_
        refine v_getf dX0_greatestBelow_22 fl_X0_22 (by assumption) (by rfl) rfl ?_
        refine v_iload_n dX0_greatestBelow_25 rfl rfl ?_
        refine v_iald 2 dX0_greatestBelow_26 (by assumption) rfl (by decide) (by decide) rfl ?_
        refine v_iload_n dX0_greatestBelow_27 rfl rfl ?_
        refine v_icmp_ge (tgt := 33) dX0_greatestBelow_28 (by decide) rfl (fun c28 => ?_) (fun c28 => ?_)
        · refine v_iinc (v := nI 1) dX0_greatestBelow_33 rfl (by decide) (Nat.le_of_ble_eq_true rfl) rfl ?_
          refine v_goto (tgt := 2) dX0_greatestBelow_36 (by decide) ?_
          refine v_iload_n dX0_greatestBelow_2 rfl rfl ?_
          refine v_if_lt (tgt := 39) dX0_greatestBelow_3 (by decide) rfl (fun q => absurd q (by decide)) (fun _ => ?_)
          refine v_aload_n dX0_greatestBelow_6 rfl rfl ?_
          refine v_getf dX0_greatestBelow_7 fl_X0_18 (by assumption) (by rfl) rfl ?_
          refine v_iload_n dX0_greatestBelow_10 rfl rfl ?_
          refine v_iald 1 dX0_greatestBelow_11 (by assumption) rfl (by decide) (by decide) rfl ?_
          refine v_aload_n dX0_greatestBelow_12 rfl rfl ?_
          refine v_getf dX0_greatestBelow_13 fl_X0_22 (by assumption) (by rfl) rfl ?_
          refine v_iload_n dX0_greatestBelow_16 rfl rfl ?_
          refine v_iald 1 dX0_greatestBelow_17 (by assumption) rfl (by decide) (by decide) rfl ?_
          refine v_icmp_gtA (tgt := 33) dX0_greatestBelow_18 (by decide) rfl (fun c18 => ?_) (fun c18 => ?_)
          · refine v_iinc (v := nI 0) dX0_greatestBelow_33 rfl (by decide) (Nat.le_of_ble_eq_true rfl) rfl ?_
            refine v_goto (tgt := 2) dX0_greatestBelow_36 (by decide) ?_
            refine v_iload_n dX0_greatestBelow_2 rfl rfl ?_
            refine v_if_lt (tgt := 39) dX0_greatestBelow_3 (by decide) rfl (fun q => absurd q (by decide)) (fun _ => ?_)
            refine v_aload_n dX0_greatestBelow_6 rfl rfl ?_
            refine v_getf dX0_greatestBelow_7 fl_X0_18 (by assumption) (by rfl) rfl ?_
            refine v_iload_n dX0_greatestBelow_10 rfl rfl ?_
            refine v_iald 0 dX0_greatestBelow_11 (by assumption) rfl (by decide) (by decide) rfl ?_
            refine v_aload_n dX0_greatestBelow_12 rfl rfl ?_
            refine v_getf dX0_greatestBelow_13 fl_X0_22 (by assumption) (by rfl) rfl ?_
            refine v_iload_n dX0_greatestBelow_16 rfl rfl ?_
            refine v_iald 0 dX0_greatestBelow_17 (by assumption) rfl (by decide) (by decide) rfl ?_
            refine v_icmp_gtA (tgt := 33) dX0_greatestBelow_18 (by decide) rfl (fun c18 => ?_) (fun c18 => ?_)
            · refine v_iinc (v := (-1)) dX0_greatestBelow_33 rfl (by decide) (Nat.le_of_ble_eq_true rfl) rfl ?_
              refine v_goto (tgt := 2) dX0_greatestBelow_36 (by decide) ?_
              refine v_iload_n dX0_greatestBelow_2 rfl rfl ?_
              refine v_if_lt (tgt := 39) dX0_greatestBelow_3 (by decide) rfl (fun _ => ?_) (fun q => absurd (by decide) q)
              refine v_iconst (v := nI 0) dX0_greatestBelow_39 (by decide) rfl ?_
              exact v_iret dX0_greatestBelow_40 rfl ⟨Nat.le_of_ble_eq_true rfl, Nat.le_of_ble_eq_true rfl⟩ (⟨by grind [belowN], rfl⟩)
            · refine v_aload_n dX0_greatestBelow_21 rfl rfl ?_
              refine v_getf dX0_greatestBelow_22 fl_X0_22 (by assumption) (by rfl) rfl ?_
              refine v_iload_n dX0_greatestBelow_25 rfl rfl ?_
              refine v_iald 0 dX0_greatestBelow_26 (by assumption) rfl (by decide) (by decide) rfl ?_
              refine v_iload_n dX0_greatestBelow_27 rfl rfl ?_
              refine v_icmp_ge (tgt := 33) dX0_greatestBelow_28 (by decide) rfl (fun c28 => ?_) (fun c28 => ?_)
              · refine v_iinc (v := (-1)) dX0_greatestBelow_33 rfl (by decide) (Nat.le_of_ble_eq_true rfl) rfl ?_
                refine v_goto (tgt := 2) dX0_greatestBelow_36 (by decide) ?_
                refine v_iload_n dX0_greatestBelow_2 rfl rfl ?_
                refine v_if_lt (tgt := 39) dX0_greatestBelow_3 (by decide) rfl (fun _ => ?_) (fun q => absurd (by decide) q)
                refine v_iconst (v := nI 0) dX0_greatestBelow_39 (by decide) rfl ?_
                exact v_iret dX0_greatestBelow_40 rfl ⟨Nat.le_of_ble_eq_true rfl, Nat.le_of_ble_eq_true rfl⟩ (⟨by grind [belowN], rfl⟩)
              · refine v_iload_n dX0_greatestBelow_31 rfl rfl ?_
                exact v_iret dX0_greatestBelow_32 rfl ⟨Nat.le_of_ble_eq_true rfl, Nat.le_of_ble_eq_true rfl⟩ (⟨by grind [belowN], rfl⟩)
          · refine v_aload_n dX0_greatestBelow_21 rfl rfl ?_
            refine v_getf dX0_greatestBelow_22 fl_X0_22 (by assumption) (by rfl) rfl ?_
            refine v_iload_n dX0_greatestBelow_25 rfl rfl ?_
            refine v_iald 1 dX0_greatestBelow_26 (by assumption) rfl (by decide) (by decide) rfl ?_
            refine v_iload_n dX0_greatestBelow_27 rfl rfl ?_
            refine v_icmp_ge (tgt := 33) dX0_greatestBelow_28 (by decide) rfl (fun c28 => ?_) (fun c28 => ?_)
            · refine v_iinc (v := nI 0) dX0_greatestBelow_33 rfl (by decide) (Nat.le_of_ble_eq_true rfl) rfl ?_
              refine v_goto (tgt := 2) dX0_greatestBelow_36 (by decide) ?_
              refine v_iload_n dX0_greatestBelow_2 rfl rfl ?_
              refine v_if_lt (tgt := 39) dX0_greatestBelow_3 (by decide) rfl (fun q => absurd q (by decide)) (fun _ => ?_)
              refine v_aload_n dX0_greatestBelow_6 rfl rfl ?_
              refine v_getf dX0_greatestBelow_7 fl_X0_18 (by assumption) (by rfl) rfl ?_
              refine v_iload_n dX0_greatestBelow_10 rfl rfl ?_
              refine v_iald 0 dX0_greatestBelow_11 (by assumption) rfl (by decide) (by decide) rfl ?_
              refine v_aload_n dX0_greatestBelow_12 rfl rfl ?_
              refine v_getf dX0_greatestBelow_13 fl_X0_22 (by assumption) (by rfl) rfl ?_
              refine v_iload_n dX0_greatestBelow_16 rfl rfl ?_
              refine v_iald 0 dX0_greatestBelow_17 (by assumption) rfl (by decide) (by decide) rfl ?_
              refine v_icmp_gtA (tgt := 33) dX0_greatestBelow_18 (by decide) rfl (fun c18 => ?_) (fun c18 => ?_)
              · refine v_iinc (v := (-1)) dX0_greatestBelow_33 rfl (by decide) (Nat.le_of_ble_eq_true rfl) rfl ?_
                refine v_goto (tgt := 2) dX0_greatestBelow_36 (by decide) ?_
                refine v_iload_n dX0_greatestBelow_2 rfl rfl ?_
                refine v_if_lt (tgt := 39) dX0_greatestBelow_3 (by decide) rfl (fun _ => ?_) (fun q => absurd (by decide) q)
                refine v_iconst (v := nI 0) dX0_greatestBelow_39 (by decide) rfl ?_
                exact v_iret dX0_greatestBelow_40 rfl ⟨Nat.le_of_ble_eq_true rfl, Nat.le_of_ble_eq_true rfl⟩ (⟨by grind [belowN], rfl⟩)
              · refine v_aload_n dX0_greatestBelow_21 rfl rfl ?_
                refine v_getf dX0_greatestBelow_22 fl_X0_22 (by assumption) (by rfl) rfl ?_
                refine v_iload_n dX0_greatestBelow_25 rfl rfl ?_
                refine v_iald 0 dX0_greatestBelow_26 (by assumption) rfl (by decide) (by decide) rfl ?_
                refine v_iload_n dX0_greatestBelow_27 rfl rfl ?_
                refine v_icmp_ge (tgt := 33) dX0_greatestBelow_28 (by decide) rfl (fun c28 => ?_) (fun c28 => ?_)
                · refine v_iinc (v := (-1)) dX0_greatestBelow_33 rfl (by decide) (Nat.le_of_ble_eq_true rfl) rfl ?_
                  refine v_goto (tgt := 2) dX0_greatestBelow_36 (by decide) ?_
                  refine v_iload_n dX0_greatestBelow_2 rfl rfl ?_
                  refine v_if_lt (tgt := 39) dX0_greatestBelow_3 (by decide) rfl (fun _ => ?_) (fun q => absurd (by decide) q)
                  refine v_iconst (v := nI 0) dX0_greatestBelow_39 (by decide) rfl ?_
                  exact v_iret dX0_greatestBelow_40 rfl ⟨Nat.le_of_ble_eq_true rfl, Nat.le_of_ble_eq_true rfl⟩ (⟨by grind [belowN], rfl⟩)
                · refine v_iload_n dX0_greatestBelow_31 rfl rfl ?_
                  exact v_iret dX0_greatestBelow_32 rfl ⟨Nat.le_of_ble_eq_true rfl, Nat.le_of_ble_eq_true rfl⟩ (⟨by grind [belowN], rfl⟩)
            · refine v_iload_n dX0_greatestBelow_31 rfl rfl ?_
              exact v_iret dX0_greatestBelow_32 rfl ⟨Nat.le_of_ble_eq_true rfl, Nat.le_of_ble_eq_true rfl⟩ (⟨by grind [belowN], rfl⟩)
        · refine v_iload_n dX0_greatestBelow_31 rfl rfl ?_
          exact v_iret dX0_greatestBelow_32 rfl ⟨Nat.le_of_ble_eq_true rfl, Nat.le_of_ble_eq_true rfl⟩ (⟨by grind [belowN], rfl⟩)
    · refine v_iload_n dX0_greatestBelow_31 rfl rfl ?_
      exact v_iret dX0_greatestBelow_32 rfl ⟨Nat.le_of_ble_eq_true rfl, Nat.le_of_ble_eq_true rfl⟩ (⟨by grind [belowN], rfl⟩)
theorem c_kindLevel (hL : LN G hp a kd fc wt f t) (v : Int32) : Ct G mX0_kindLevel 1 0 0 [.ref (G.2.2.2 + a), .int (nI (filledN f t v)), .int v] hp (Qf (some (.int (nI (kindN f t v)))) hp) := by
  have hL' := hL
  obtain ⟨h1, h2, h3⟩ := hL'
  have hlt := filledN_lt f t v
  refine Ct.start 1 (by decide) rfl (Nat.le_of_ble_eq_true rfl) ?_
  refine v_aload_n dX0_kindLevel_0 rfl rfl ?_
  refine v_iload_n dX0_kindLevel_1 rfl rfl ?_
  refine v_iload_n dX0_kindLevel_2 rfl rfl ?_
  by_cases q3 : hasS f t (filledN f t v) v
  · refine v_cvf dX0_kindLevel_3 cw_X0_39 ⟨tn_X0_spanHas, tl_X0_spanHas⟩ rfl (by assumption) ((c_spanHas G hp hL hlt v).yes ‹_›) (by rfl) (by rfl) (Nat.le_of_ble_eq_true rfl) (Nat.le_of_ble_eq_true rfl) (Nat.le_of_ble_eq_true rfl) (Nat.le_of_ble_eq_true rfl) (Nat.le_of_ble_eq_true rfl) rfl ?_
    refine v_if_eq (tgt := 23) dX0_kindLevel_6 (by decide) rfl (fun q => absurd q (by decide)) (fun _ => ?_)
    refine v_aload_n dX0_kindLevel_9 rfl rfl ?_
    refine v_getf dX0_kindLevel_10 fl_X0_22 (by assumption) (by rfl) rfl ?_
    refine v_iload_n dX0_kindLevel_13 rfl rfl ?_
    refine v_iald _ dX0_kindLevel_14 (by assumption) rfl (by omega) (by decide) rfl ?_
    refine v_iload_n dX0_kindLevel_15 rfl rfl ?_
    refine v_icmp_ne (tgt := 23) dX0_kindLevel_16 (by decide) rfl (fun c16 => ?_) (fun c16 => ?_)
    · refine v_iconst (v := nI 0) dX0_kindLevel_23 (by decide) rfl ?_
      refine v_istore_n dX0_kindLevel_24 (Nat.le_of_ble_eq_true rfl) rfl ?_
      refine v_iload_n dX0_kindLevel_25 rfl rfl ?_
      refine v_if_eq (tgt := 39) dX0_kindLevel_26 (by decide) rfl (fun _ => ?_) (fun q => absurd (by decide) q)
      refine v_iload_n dX0_kindLevel_39 rfl rfl ?_
      exact v_iret dX0_kindLevel_40 rfl ⟨Nat.le_of_ble_eq_true rfl, Nat.le_of_ble_eq_true rfl⟩ (⟨by (by_cases hl : lastS f t v) <;> first | (rw [kindN, if_pos hl]; done) | (rw [kindN, if_neg hl]; done) | exact absurd (And.intro q3 c16) hl | exact absurd hl.1 q3 | exact absurd hl.2 c16, rfl⟩)
    · refine v_iconst (v := nI 1) dX0_kindLevel_19 (by decide) rfl ?_
      refine v_goto (tgt := 24) dX0_kindLevel_20 (by decide) ?_
      refine v_istore_n dX0_kindLevel_24 (Nat.le_of_ble_eq_true rfl) rfl ?_
      refine v_iload_n dX0_kindLevel_25 rfl rfl ?_
      refine v_if_eq (tgt := 39) dX0_kindLevel_26 (by decide) rfl (fun q => absurd q (by decide)) (fun _ => ?_)
      refine v_iconst (v := nI 3) dX0_kindLevel_29 (by decide) rfl ?_
      refine v_iload_n dX0_kindLevel_30 rfl rfl ?_
      refine v_iconst (v := nI 1) dX0_kindLevel_31 (by decide) rfl ?_
      refine v_iaddN dX0_kindLevel_32 rfl ?_
      refine v_csf dX0_kindLevel_33 cw_X0_43 ts_J9_min_7cf53 ((c_min G hp (nI 3) (nI (filledN f t v + 1))).is (min_lv _ hlt)) (by rfl) (by rfl) (Nat.le_of_ble_eq_true rfl) (Nat.le_of_ble_eq_true rfl) (Nat.le_of_ble_eq_true rfl) (Nat.le_of_ble_eq_true rfl) (Nat.le_of_ble_eq_true rfl) rfl ?_
      refine v_goto (tgt := 40) dX0_kindLevel_36 (by decide) ?_
      exact v_iret dX0_kindLevel_40 rfl ⟨Nat.le_of_ble_eq_true rfl, Nat.le_of_ble_eq_true rfl⟩ (⟨by (by_cases hl : lastS f t v) <;> first | (rw [kindN, if_pos hl]; done) | (rw [kindN, if_neg hl]; done) | exact absurd (And.intro q3 c16) hl | exact absurd hl.1 q3 | exact absurd hl.2 c16, rfl⟩)
  · refine v_cvf dX0_kindLevel_3 cw_X0_39 ⟨tn_X0_spanHas, tl_X0_spanHas⟩ rfl (by assumption) ((c_spanHas G hp hL hlt v).no ‹_›) (by rfl) (by rfl) (Nat.le_of_ble_eq_true rfl) (Nat.le_of_ble_eq_true rfl) (Nat.le_of_ble_eq_true rfl) (Nat.le_of_ble_eq_true rfl) (Nat.le_of_ble_eq_true rfl) rfl ?_
    refine v_if_eq (tgt := 23) dX0_kindLevel_6 (by decide) rfl (fun _ => ?_) (fun q => absurd (by decide) q)
    refine v_iconst (v := nI 0) dX0_kindLevel_23 (by decide) rfl ?_
    refine v_istore_n dX0_kindLevel_24 (Nat.le_of_ble_eq_true rfl) rfl ?_
    refine v_iload_n dX0_kindLevel_25 rfl rfl ?_
    refine v_if_eq (tgt := 39) dX0_kindLevel_26 (by decide) rfl (fun _ => ?_) (fun q => absurd (by decide) q)
    refine v_iload_n dX0_kindLevel_39 rfl rfl ?_
    exact v_iret dX0_kindLevel_40 rfl ⟨Nat.le_of_ble_eq_true rfl, Nat.le_of_ble_eq_true rfl⟩ (⟨by (by_cases hl : lastS f t v) <;> first | (rw [kindN, if_pos hl]; done) | (rw [kindN, if_neg hl]; done) | exact absurd (And.intro q3 c16) hl | exact absurd hl.1 q3 | exact absurd hl.2 c16, rfl⟩)
theorem c_levelFor (hL : LN G hp a kd fc wt f t) (v : Int32) : Ct G mX0_levelFor 4 0 0 [.ref (G.2.2.2 + a), .int v] hp (Qf (some (.int (oI (levelO kd f t v)))) hp) := by
  have h1 := hL.1
  refine Ct.start 2 (by decide) rfl (Nat.le_of_ble_eq_true rfl) ?_
  refine v_aload_n dX0_levelFor_0 rfl rfl ?_
  refine v_iload_n dX0_levelFor_1 rfl rfl ?_
  refine v_cvf dX0_levelFor_2 cw_X0_28 ⟨tn_X0_strictLevel, tl_X0_strictLevel⟩ rfl (by assumption) (c_strictLevel G hp hL v) (by rfl) (by rfl) (Nat.le_of_ble_eq_true rfl) (Nat.le_of_ble_eq_true rfl) (Nat.le_of_ble_eq_true rfl) (Nat.le_of_ble_eq_true rfl) (Nat.le_of_ble_eq_true rfl) rfl ?_
  refine v_istore_n dX0_levelFor_5 (Nat.le_of_ble_eq_true rfl) rfl ?_
  refine v_aload_n dX0_levelFor_6 rfl rfl ?_
  refine v_getf dX0_levelFor_7 fl_X0_9 (by assumption) (by rfl) rfl ?_
  refine v_if_ne (tgt := 15) dX0_levelFor_10 (by decide) rfl (fun c10 => ?_) (fun c10 => ?_)
  · refine v_iload_n dX0_levelFor_15 rfl rfl ?_
    refine v_sipush (v := (-900)) dX0_levelFor_16 (by decide) rfl ?_
    refine v_icmp_ne (tgt := 30) dX0_levelFor_19 (by decide) rfl (fun c19 => ?_) (fun c19 => ?_)
    · refine v_iload_n dX0_levelFor_30 rfl rfl ?_
      refine v_top (y := nI (filledN f t v)) (filled_some c19) ?_
      refine v_istore_n dX0_levelFor_31 (Nat.le_of_ble_eq_true rfl) rfl ?_
      refine v_aload_n dX0_levelFor_32 rfl rfl ?_
      refine v_getf dX0_levelFor_33 fl_X0_9 (by assumption) (by rfl) rfl ?_
      refine v_iconst (v := nI 1) dX0_levelFor_36 (by decide) rfl ?_
      refine v_icmp_ne (tgt := 44) dX0_levelFor_37 (by decide) rfl (fun c37 => ?_) (fun c37 => ?_)
      · refine v_aload_n dX0_levelFor_44 rfl rfl ?_
        refine v_iload_n dX0_levelFor_45 rfl rfl ?_
        refine v_iload_n dX0_levelFor_46 rfl rfl ?_
        refine v_cvf dX0_levelFor_47 cw_X0_35 ⟨tn_X0_kindLevel, tl_X0_kindLevel⟩ rfl (by assumption) (c_kindLevel G hp hL v) (by rfl) (by rfl) (Nat.le_of_ble_eq_true rfl) (Nat.le_of_ble_eq_true rfl) (Nat.le_of_ble_eq_true rfl) (Nat.le_of_ble_eq_true rfl) (Nat.le_of_ble_eq_true rfl) rfl ?_
        exact v_iret dX0_levelFor_50 rfl ⟨Nat.le_of_ble_eq_true rfl, Nat.le_of_ble_eq_true rfl⟩ (⟨by first | (rw [levelO, if_pos c10]; done) | (rw [levelO, if_neg c10, if_pos c37]; rfl) | (rw [levelO, if_neg c10, if_neg c37]; rfl), rfl⟩)
      · refine v_iload_n dX0_levelFor_40 rfl rfl ?_
        refine v_goto (tgt := 50) dX0_levelFor_41 (by decide) ?_
        exact v_iret dX0_levelFor_50 rfl ⟨Nat.le_of_ble_eq_true rfl, Nat.le_of_ble_eq_true rfl⟩ (⟨by first | (rw [levelO, if_pos c10]; done) | (rw [levelO, if_neg c10, if_pos c37]; rfl) | (rw [levelO, if_neg c10, if_neg c37]; rfl), rfl⟩)
    · refine v_aload_n dX0_levelFor_22 rfl rfl ?_
      refine v_iload_n dX0_levelFor_23 rfl rfl ?_
      refine v_cvf dX0_levelFor_24 cw_X0_32 ⟨tn_X0_greatestBelow, tl_X0_greatestBelow⟩ rfl (by assumption) (c_greatestBelow G hp hL v) (by rfl) (by rfl) (Nat.le_of_ble_eq_true rfl) (Nat.le_of_ble_eq_true rfl) (Nat.le_of_ble_eq_true rfl) (Nat.le_of_ble_eq_true rfl) (Nat.le_of_ble_eq_true rfl) rfl ?_
      refine v_top (y := nI (filledN f t v)) (by rw [filled_none c19]) ?_
      refine v_goto (tgt := 31) dX0_levelFor_27 (by decide) ?_
      refine v_istore_n dX0_levelFor_31 (Nat.le_of_ble_eq_true rfl) rfl ?_
      refine v_aload_n dX0_levelFor_32 rfl rfl ?_
      refine v_getf dX0_levelFor_33 fl_X0_9 (by assumption) (by rfl) rfl ?_
      refine v_iconst (v := nI 1) dX0_levelFor_36 (by decide) rfl ?_
      refine v_icmp_ne (tgt := 44) dX0_levelFor_37 (by decide) rfl (fun c37 => ?_) (fun c37 => ?_)
      · refine v_aload_n dX0_levelFor_44 rfl rfl ?_
        refine v_iload_n dX0_levelFor_45 rfl rfl ?_
        refine v_iload_n dX0_levelFor_46 rfl rfl ?_
        refine v_cvf dX0_levelFor_47 cw_X0_35 ⟨tn_X0_kindLevel, tl_X0_kindLevel⟩ rfl (by assumption) (c_kindLevel G hp hL v) (by rfl) (by rfl) (Nat.le_of_ble_eq_true rfl) (Nat.le_of_ble_eq_true rfl) (Nat.le_of_ble_eq_true rfl) (Nat.le_of_ble_eq_true rfl) (Nat.le_of_ble_eq_true rfl) rfl ?_
        exact v_iret dX0_levelFor_50 rfl ⟨Nat.le_of_ble_eq_true rfl, Nat.le_of_ble_eq_true rfl⟩ (⟨by first | (rw [levelO, if_pos c10]; done) | (rw [levelO, if_neg c10, if_pos c37]; rfl) | (rw [levelO, if_neg c10, if_neg c37]; rfl), rfl⟩)
      · refine v_iload_n dX0_levelFor_40 rfl rfl ?_
        refine v_goto (tgt := 50) dX0_levelFor_41 (by decide) ?_
        exact v_iret dX0_levelFor_50 rfl ⟨Nat.le_of_ble_eq_true rfl, Nat.le_of_ble_eq_true rfl⟩ (⟨by first | (rw [levelO, if_pos c10]; done) | (rw [levelO, if_neg c10, if_pos c37]; rfl) | (rw [levelO, if_neg c10, if_neg c37]; rfl), rfl⟩)
  · refine v_iload_n dX0_levelFor_13 rfl rfl ?_
    exact v_iret dX0_levelFor_14 rfl ⟨Nat.le_of_ble_eq_true rfl, Nat.le_of_ble_eq_true rfl⟩ (⟨by first | (rw [levelO, if_pos c10]; done) | (rw [levelO, if_neg c10, if_pos c37]; rfl) | (rw [levelO, if_neg c10, if_neg c37]; rfl), rfl⟩)
def trcI (kd : Int32) : Int32 := if kd = 0 then nI 1 else if kd = nI 1 then nI 11 else nI 111
theorem c_traceOfAsking (hL : LN G hp a kd fc wt f t) : Ct G mX0_traceOfAsking 0 0 0 [.ref (G.2.2.2 + a)] hp (Qf (some (.int (trcI kd))) hp) := by
  have h1 := hL.1
  refine Ct.start 0 (by decide) rfl (Nat.le_of_ble_eq_true rfl) ?_
  refine v_aload_n dX0_traceOfAsking_0 rfl rfl ?_
  refine v_getf dX0_traceOfAsking_1 fl_X0_9 (by assumption) (by rfl) rfl ?_
  refine v_if_ne (tgt := 9) dX0_traceOfAsking_4 (by decide) rfl (fun c4 => ?_) (fun c4 => ?_)
  · refine v_aload_n dX0_traceOfAsking_9 rfl rfl ?_
    refine v_getf dX0_traceOfAsking_10 fl_X0_9 (by assumption) (by rfl) rfl ?_
    refine v_iconst (v := nI 1) dX0_traceOfAsking_13 (by decide) rfl ?_
    refine v_icmp_ne (tgt := 22) dX0_traceOfAsking_14 (by decide) rfl (fun c14 => ?_) (fun c14 => ?_)
    · refine v_bipush (v := nI 111) dX0_traceOfAsking_22 (by decide) rfl ?_
      exact v_iret dX0_traceOfAsking_24 rfl ⟨Nat.le_of_ble_eq_true rfl, Nat.le_of_ble_eq_true rfl⟩ (⟨by grind [trcI], rfl⟩)
    · refine v_bipush (v := nI 11) dX0_traceOfAsking_17 (by decide) rfl ?_
      refine v_goto (tgt := 24) dX0_traceOfAsking_19 (by decide) ?_
      exact v_iret dX0_traceOfAsking_24 rfl ⟨Nat.le_of_ble_eq_true rfl, Nat.le_of_ble_eq_true rfl⟩ (⟨by grind [trcI], rfl⟩)
  · refine v_iconst (v := nI 1) dX0_traceOfAsking_7 (by decide) rfl ?_
    exact v_iret dX0_traceOfAsking_8 rfl ⟨Nat.le_of_ble_eq_true rfl, Nat.le_of_ble_eq_true rfl⟩ (⟨by grind [trcI], rfl⟩)
/-- how many SPANS have v -/
noncomputable def spC (f t : Nat → Int32) (v : Int32) : Nat → Nat := cnt (fun k => hasS f t k v)
theorem c_countSpansWith (hL : LN G hp a kd fc wt f t) (v : Int32) : Ct G mX0_countSpansWith 1 0 0 [.ref (G.2.2.2 + a), .int v] hp (Qf (some (.int (nI (spC f t v 4)))) hp) := by
  have h1 := hL.1
  have key : ∀ k, k ≤ 4 → Vm G mX0_countSpansWith 1 0 0 (Qf (some (.int (nI (spC f t v 4)))) hp) 4 [some (.ref (G.2.2.2 + a)), some (.int v), some (.int (nI (spC f t v k))), some (.int (nI k))] [] hp 0 0 := by
    refine loop_up ?_ (fun k hk ih => ?_)
    · refine v_iload_n dX0_countSpansWith_4 rfl rfl ?_
      refine v_iconst (v := nI 4) dX0_countSpansWith_5 (by decide) rfl ?_
      refine v_icmp_ge (tgt := 27) dX0_countSpansWith_6 (by decide) rfl (fun _ => ?_) (fun q => absurd (by decide) q)
      refine v_iload_n dX0_countSpansWith_27 rfl rfl ?_
      exact v_iret dX0_countSpansWith_28 rfl ⟨Nat.le_of_ble_eq_true rfl, Nat.le_of_ble_eq_true rfl⟩ (⟨rfl, rfl⟩)
    · have hc := cnt_le (fun k => hasS f t k v) k
      refine v_iload_n dX0_countSpansWith_4 rfl rfl ?_
      refine v_iconst (v := nI 4) dX0_countSpansWith_5 (by decide) rfl ?_
      refine v_icmp_geN (tgt := 27) dX0_countSpansWith_6 (by decide) rfl (by omega) (by omega) (fun c6 => ?_) (fun c6 => ?_)
      · exact absurd c6 (by omega)
      · refine v_aload_n dX0_countSpansWith_9 rfl rfl ?_
        refine v_iload_n dX0_countSpansWith_10 rfl rfl ?_
        refine v_iload_n dX0_countSpansWith_11 rfl rfl ?_
        by_cases q12 : hasS f t k v
        · refine v_cvf dX0_countSpansWith_12 cw_X0_39 ⟨tn_X0_spanHas, tl_X0_spanHas⟩ rfl (by assumption) ((c_spanHas G hp hL hk v).yes ‹_›) (by rfl) (by rfl) (Nat.le_of_ble_eq_true rfl) (Nat.le_of_ble_eq_true rfl) (Nat.le_of_ble_eq_true rfl) (Nat.le_of_ble_eq_true rfl) (Nat.le_of_ble_eq_true rfl) rfl ?_
          refine v_if_eq (tgt := 21) dX0_countSpansWith_15 (by decide) rfl (fun q => absurd q (by decide)) (fun _ => ?_)
          refine v_iinc1 dX0_countSpansWith_18 rfl (Nat.le_of_ble_eq_true rfl) rfl ?_
          refine v_iinc1 dX0_countSpansWith_21 rfl (Nat.le_of_ble_eq_true rfl) rfl ?_
          refine v_goto (tgt := 4) dX0_countSpansWith_24 (by decide) ?_
          first | (rw [show spC f t v (k + 1) = spC f t v k + 1 from cnt_t ‹_›] at ih; exact ih) | (rw [show spC f t v (k + 1) = spC f t v k from cnt_f ‹_›] at ih; exact ih)
        · refine v_cvf dX0_countSpansWith_12 cw_X0_39 ⟨tn_X0_spanHas, tl_X0_spanHas⟩ rfl (by assumption) ((c_spanHas G hp hL hk v).no ‹_›) (by rfl) (by rfl) (Nat.le_of_ble_eq_true rfl) (Nat.le_of_ble_eq_true rfl) (Nat.le_of_ble_eq_true rfl) (Nat.le_of_ble_eq_true rfl) (Nat.le_of_ble_eq_true rfl) rfl ?_
          refine v_if_eq (tgt := 21) dX0_countSpansWith_15 (by decide) rfl (fun _ => ?_) (fun q => absurd (by decide) q)
          refine v_iinc1 dX0_countSpansWith_21 rfl (Nat.le_of_ble_eq_true rfl) rfl ?_
          refine v_goto (tgt := 4) dX0_countSpansWith_24 (by decide) ?_
          first | (rw [show spC f t v (k + 1) = spC f t v k + 1 from cnt_t ‹_›] at ih; exact ih) | (rw [show spC f t v (k + 1) = spC f t v k from cnt_f ‹_›] at ih; exact ih)
  refine Ct.start 2 (by decide) rfl (Nat.le_of_ble_eq_true rfl) ?_
  refine v_iconst (v := nI 0) dX0_countSpansWith_0 (by decide) rfl ?_
  refine v_istore_n dX0_countSpansWith_1 (Nat.le_of_ble_eq_true rfl) rfl ?_
  refine v_iconst (v := nI 0) dX0_countSpansWith_2 (by decide) rfl ?_
  refine v_istore_n dX0_countSpansWith_3 (Nat.le_of_ble_eq_true rfl) rfl ?_
  exact key 0 (by decide)
end LINE

