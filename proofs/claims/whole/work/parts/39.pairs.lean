/-! WHAT EACH CALL KEEPS, AND EACH CALL OF THE LAW AS A PAIR: the class, then the reference, one answer -/
theorem i_setLine {s : ST} (hI : Inv s) {j : Nat} {k c w : Int32} (hk : InR k 3) (hc : InR c 4) (hw : InR w 10) : Inv (setLine s j k c w) := by
  refine ⟨fun i hi => ?_, hI.2⟩
  show InR (upd s.kd j k i) 3 ∧ InR (upd s.fc j c i) 4 ∧ InR (upd s.wt j w i) 10
  by_cases e : i = j
  · subst e
    rw [upd_s, upd_s, upd_s]
    exact ⟨hk, hc, hw⟩
  · rw [upd_n e, upd_n e, upd_n e]
    exact hI.1 i hi
theorem i_setMr {s : ST} (hI : Inv s) {w m : Nat} {v : Int32} (hv : v = -900 ∨ InR v 4) : Inv (setMr s w m v) := by
  refine ⟨hI.1, fun i hi q hq => ?_, hI.2.2⟩
  have h := hI.2.1 i hi q hq
  show updF s.mr w (upd (s.mr w) m v) i q = -900 ∨ InR (updF s.mr w (upd (s.mr w) m v) i q) 4
  by_cases e : i = w
  · subst e
    rw [updF_s]
    by_cases e2 : q = m
    · subst e2
      rw [upd_s]
      exact hv
    · rw [upd_n e2]
      exact h
  · rw [updF_n e]
    exact h
theorem i_setTr {s : ST} (hI : Inv s) {w : Nat} {v : Int32} (hv : v = -900 ∨ InR v 4) : Inv (setTr s w v) := by
  refine ⟨hI.1, hI.2.1, fun i hi => ?_, hI.2.2.2⟩
  have h := hI.2.2.1 i hi
  show upd s.tr w v i = -900 ∨ InR (upd s.tr w v i) 4
  by_cases e : i = w
  · subst e
    rw [upd_s]
    exact hv
  · rw [upd_n e]
    exact h
theorem wM0_at : ∀ q, q < 3 → wM0 q = -900 := by decide
theorem i_addW {s : ST} (hI : Inv s) (hn : s.n < 12) (a b c d : Int32) : Inv (addW s a b c d) := by
  refine ⟨hI.1, fun i hi q hq => ?_, fun i hi => ?_, ?_⟩
  · have hi2 : i < s.n + 1 := hi
    show updF s.mr s.n wM0 i q = -900 ∨ InR (updF s.mr s.n wM0 i q) 4
    by_cases e : i = s.n
    · subst e
      rw [updF_s]
      exact Or.inl (wM0_at q hq)
    · rw [updF_n e]
      exact hI.2.1 i (by omega) q hq
  · have hi2 : i < s.n + 1 := hi
    show upd s.tr s.n (-900) i = -900 ∨ InR (upd s.tr s.n (-900) i) 4
    by_cases e : i = s.n
    · subst e
      rw [upd_s]
      exact Or.inl rfl
    · rw [upd_n e]
      exact hI.2.2.1 i (by omega)
  · show s.n + 1 ≤ 12
    omega
theorem i_beS {s : ST} (hI : Inv s) {a : Nat} (ha : a < 8) (b : Nat) : Inv (beS s a b) := by
  refine ⟨fun i hi => ?_, hI.2⟩
  show InR (upd s.kd b (s.kd a) i) 3 ∧ InR (upd s.fc b (s.fc a) i) 4 ∧ InR (upd s.wt b (s.wt a) i) 10
  by_cases e : i = b
  · subst e
    rw [upd_s, upd_s, upd_s]
    exact hI.1 a ha
  · rw [upd_n e, upd_n e, upd_n e]
    exact hI.1 i hi
theorem i_cp0 {s : ST} (hI : Inv s) : ∀ k, k ≤ 4 → Inv (cp0 s k)
  | 0, _ => hI
  | k + 1, h => i_beS (i_cp0 hI k (by omega)) (by omega) _
theorem i_cp1 {s : ST} (hI : Inv s) : ∀ k, k ≤ 4 → Inv (cp1 s k)
  | 0, _ => hI
  | k + 1, h => i_beS (i_cp1 hI k (by omega)) (by omega) _
theorem i_swS {s : ST} (hI : Inv s) : Inv (swS s) := by
  refine ⟨fun i hi => hI.1 (sj i) ?_, hI.2⟩
  unfold sj
  split <;> omega
theorem i_cpS {s : ST} (hI : Inv s) (w : Nat) : Inv (cpS s w) := by
  unfold cpS
  by_cases h0 : w = 0
  · rw [if_pos h0]
    exact i_cp0 hI 4 (by decide)
  · rw [if_neg h0]
    by_cases h1 : w = 1
    · rw [if_pos h1]
      exact i_cp1 hI 4 (by decide)
    · rw [if_neg h1]
      exact i_swS hI
theorem i_s0 : Inv s0 := by
  refine ⟨fun j hj => ⟨?_, ?_, ?_⟩, fun w hw => absurd (show w < 0 from hw) (by omega), fun w hw => absurd (show w < 0 from hw) (by omega), by decide⟩
  · show InR (nI 0) 3
    exact inR_nI (by decide) (by decide)
  · show InR (nI (j % 4)) 4
    exact inR_nI (by omega) (by decide)
  · show InR (nI 1) 10
    exact inR_nI (by decide) (by decide)
section KEEP
variable {G : GG} {hp h : List va_E} {s s' : ST} {x : XT} {y : YT}
theorem px_frM (hX : PX G s x hp) (hF : FrM hp h) : PX G s x h := by
  obtain ⟨h0, h1, hgl, h2, hgw, h3, h4, h5, h6, hln, hwk, hn, hlen⟩ := hX
  have hf := hF.1
  refine ⟨(hf _ (by omega)).trans h0, (hf _ (by omega)).trans h1, hgl, (hf _ (by omega)).trans h2, hgw, (hf _ (by omega)).trans h3, (hf _ (by omega)).trans h4, (hf _ (by omega)).trans h5, (hf _ (by omega)).trans h6, fun j hj => (hln j hj).frame (fun i q1 q2 => hf i ?_), fun w hw => (hwk w hw).frame (fun i q1 q2 => hf i (by omega)), hn, hF.2.trans hlen⟩
  have := la_in x.1 hj
  omega
theorem pm_frX (hM : PM G s y hp) (hF : FrX hp h) : PM G s y h := by
  obtain ⟨h0, h1, h2, h3, h4, h5, h6, h7, h8, h9, h10⟩ := hM.pr
  exact PM.of ⟨(hF _ (by omega) (by omega)).trans h0, (hF _ (by omega) (by omega)).trans h1, (hF _ (by omega) (by omega)).trans h2, (hF _ (by omega) (by omega)).trans h3, (hF _ (by omega) (by omega)).trans h4, (hF _ (by omega) (by omega)).trans h5, (hF _ (by omega) (by omega)).trans h6, (hF _ (by omega) (by omega)).trans h7, (hF _ (by omega) (by omega)).trans h8, (hF _ (by omega) (by omega)).trans h9, (hF _ (by omega) (by omega)).trans h10⟩ hM.pp
theorem gl0_at (G : GG) {j : Nat} (hj : j < 8) : gl0 G j = some (G.2.2.2 + la false j) := by
  have h : j = 0 ∨ j = 1 ∨ j = 2 ∨ j = 3 ∨ j = 4 ∨ j = 5 ∨ j = 6 ∨ j = 7 := by omega
  rcases h with rfl | rfl | rfl | rfl | rfl | rfl | rfl | rfl <;> rfl
theorem px_s0 (hf : ∀ i, i < 31 → h[i]? = (H31 G)[i]?) (hl : h.length = 42) : PX G s0 (false, gl0 G, fun _ => none, fun _ => 0, fun _ => 0, fun _ => 0, fun _ => 0) h := by
  refine ⟨hf 0 (by decide), hf 1 (by decide), fun j hj => gl0_at G hj, hf 2 (by decide), fun w hw => absurd (show w < 0 from hw) (by omega), hf 3 (by decide), hf 4 (by decide), hf 5 (by decide), hf 6 (by decide), fun j hj => ?_, fun w hw => absurd (show w < 0 from hw) (by omega), by decide, hl⟩
  have h8 : j = 0 ∨ j = 1 ∨ j = 2 ∨ j = 3 ∨ j = 4 ∨ j = 5 ∨ j = 6 ∨ j = 7 := by omega
  rcases h8 with rfl | rfl | rfl | rfl | rfl | rfl | rfl | rfl <;> exact ⟨hf _ (Nat.le_of_ble_eq_true rfl), hf _ (Nat.le_of_ble_eq_true rfl), hf _ (Nat.le_of_ble_eq_true rfl)⟩
/-- the class holds s', the reference s -/
def Mid (G : GG) (s' s : ST) (h : List va_E) : Prop := (∃ x, PX G s' x h) ∧ ∃ y, PM G s y h
def Pair (G : GG) (s : ST) (hp : List va_E) (Nx Nm : MI) (dx dm mc ms : Nat) (As : List Value) : Prop := ∃ (v : Int32) (s' : ST), Inv s' ∧ Ct G Nx dx mc ms (.ref (G.2.2.2 + 0) :: As) hp (fun r h => r = some (.int v) ∧ Mid G s' s h) ∧ ∀ h, Mid G s' s h → Ct G Nm dm 0 0 (.ref (G.2.2.2 + 31) :: As) h (fun r h' => r = some (.int v) ∧ Mid G s' s' h')
variable {Nx Nm : MI} {dx dm mc ms : Nat} {As : List Value} {v : Int32}
theorem toX (hX : PX G s x hp) (h : Ct G Nx dx mc ms As hp (Qf (some (.int v)) hp)) : Ct G Nx dx mc ms As hp (QX G hp v s) := h.weaken (fun r h q => by
  obtain ⟨e1, e2⟩ := q
  subst e2
  exact ⟨e1, ⟨x, hX⟩, fun _ _ _ => rfl⟩)
theorem toM (hM : PM G s y hp) (h : Ct G Nx dx mc ms As hp (Qf (some (.int v)) hp)) : Ct G Nx dx mc ms As hp (QM G hp v s) := h.weaken (fun r h q => by
  obtain ⟨e1, e2⟩ := q
  subst e2
  exact ⟨e1, ⟨y, hM⟩, fun _ _ => rfl, rfl⟩)
theorem Pair.of (hM0 : PM G s y hp) (hI : Inv s') (hx : Ct G Nx dx mc ms (.ref (G.2.2.2 + 0) :: As) hp (QX G hp v s')) (hm : ∀ h y, PM G s y h → Ct G Nm dm 0 0 (.ref (G.2.2.2 + 31) :: As) h (QM G h v s')) : Pair G s hp Nx Nm dx dm mc ms As := by
  refine ⟨v, s', hI, hx.weaken (fun r h q => ⟨q.1, q.2.1, y, pm_frX hM0 q.2.2⟩), fun h hmid => ?_⟩
  obtain ⟨⟨x', hX'⟩, y', hM'⟩ := hmid
  exact (hm h y' hM').weaken (fun r h' q => ⟨q.1, ⟨x', px_frM hX' q.2.2⟩, q.2.1⟩)
theorem op_line (hS : Mid G s s hp) (hI : Inv s) (u z k c w : Int32) : Pair G s hp mX2_line mX3_line 2 2 0 0 [.int u, .int z, .int k, .int c, .int w] := by
  obtain ⟨⟨x, hX⟩, y, hM0⟩ := hS
  by_cases h : (InR u 2 ∧ InR z 4) ∧ InR k 3 ∧ InR c 4 ∧ InR w 10
  · obtain ⟨⟨h1, h2⟩, h3, h4, h5⟩ := h
    obtain ⟨a, ha, ea⟩ := inR_of (by decide) h1
    subst ea
    obtain ⟨b, hb, eb⟩ := inR_of (by decide) h2
    subst eb
    exact Pair.of hM0 (i_setLine hI h3 h4 h5) (x_line_y G hp hX ha hb h3 h4 h5) (fun h2 y2 hM => mm_line_y G h2 hM ha hb h3 h4 h5)
  · exact Pair.of hM0 hI (toX hX (x_line_n G hp hX h)) (fun h2 y2 hM => toM hM (mm_line_n G h2 h))
theorem op_span (hS : Mid G s s hp) (hI : Inv s) (u z k c w : Int32) : Pair G s hp mX2_span mX3_span 2 2 0 0 [.int u, .int z, .int k, .int c, .int w] := by
  obtain ⟨⟨x, hX⟩, y, hM0⟩ := hS
  by_cases h : (InR u 2 ∧ InR z 4) ∧ InR k 4 ∧ InR c 10 ∧ InR w 10
  · obtain ⟨⟨h1, h2⟩, h3, h4, h5⟩ := h
    obtain ⟨a, ha, ea⟩ := inR_of (by decide) h1
    subst ea
    obtain ⟨b, hb, eb⟩ := inR_of (by decide) h2
    subst eb
    obtain ⟨i, hi, ei⟩ := inR_of (by decide) h3
    subst ei
    exact Pair.of hM0 (s' := setSpan s (a * 4 + b) i c w) hI (x_span_y G hp hX ha hb hi h4 h5) (fun h2 y2 hM => mm_span_y G h2 hM ha hb hi h4 h5)
  · exact Pair.of hM0 hI (toX hX (x_span_n G hp hX h)) (fun h2 y2 hM => toM hM (mm_span_n G h2 h))
theorem op_about (hS : Mid G s s hp) (hI : Inv s) (u z w : Int32) : Pair G s hp mX2_about mX3_about 2 2 0 0 [.int u, .int z, .int w] := by
  obtain ⟨⟨x, hX⟩, y, hM0⟩ := hS
  by_cases h : (InR u 2 ∧ InR z 4) ∧ InR w 11
  · obtain ⟨⟨h1, h2⟩, h3⟩ := h
    obtain ⟨a, ha, ea⟩ := inR_of (by decide) h1
    subst ea
    obtain ⟨b, hb, eb⟩ := inR_of (by decide) h2
    subst eb
    obtain ⟨i, hi, ei⟩ := inR_of (by decide) h3
    subst ei
    exact Pair.of hM0 hI (toX hX (x_about_y G hp hX ha hb hi)) (fun h2 y2 hM => toM hM (mm_about_y G h2 hM ha hb hi))
  · exact Pair.of hM0 hI (toX hX (x_about_n G hp hX h)) (fun h2 y2 hM => toM hM (mm_about_n G h2 h))
theorem op_level (hS : Mid G s s hp) (hI : Inv s) (u z w : Int32) : Pair G s hp mX2_level mX3_level 5 5 0 0 [.int u, .int z, .int w] := by
  obtain ⟨⟨x, hX⟩, y, hM0⟩ := hS
  by_cases h : (InR u 2 ∧ InR z 4) ∧ InR w 10
  · obtain ⟨⟨h1, h2⟩, h3⟩ := h
    obtain ⟨a, ha, ea⟩ := inR_of (by decide) h1
    subst ea
    obtain ⟨b, hb, eb⟩ := inR_of (by decide) h2
    subst eb
    exact Pair.of hM0 (s' := setTc s (s.tc + (trcI (s.kd (a * 4 + b))).toInt64)) hI (x_level_y G hp hX ha hb h3) (fun h2 y2 hM => mm_level_y G h2 hM hI ha hb h3)
  · exact Pair.of hM0 hI (toX hX (x_level_n G hp hX h)) (fun h2 y2 hM => toM hM (mm_level_n G h2 h))
theorem op_sense (hS : Mid G s s hp) (hI : Inv s) (u z w : Int32) : Pair G s hp mX2_sense mX3_sense 3 3 0 0 [.int u, .int z, .int w] := by
  obtain ⟨⟨x, hX⟩, y, hM0⟩ := hS
  by_cases h : (InR u 2 ∧ InR z 4) ∧ InR w 2
  · obtain ⟨⟨h1, h2⟩, h3⟩ := h
    obtain ⟨a, ha, ea⟩ := inR_of (by decide) h1
    subst ea
    obtain ⟨b, hb, eb⟩ := inR_of (by decide) h2
    subst eb
    obtain ⟨i, hi, ei⟩ := inR_of (by decide) h3
    subst ei
    exact Pair.of hM0 hI (toX hX (x_sense_y G hp hX ha hb hi)) (fun h2 y2 hM => toM hM (mm_sense_y G h2 hM ha hb hi))
  · exact Pair.of hM0 hI (toX hX (x_sense_n G hp hX h)) (fun h2 y2 hM => toM hM (mm_sense_n G h2 h))
theorem op_sensible (hS : Mid G s s hp) (hI : Inv s) (u z : Int32) : Pair G s hp mX2_sensible mX3_sensible 7 6 0 0 [.int u, .int z] := by
  obtain ⟨⟨x, hX⟩, y, hM0⟩ := hS
  by_cases h : InR u 2 ∧ InR z 4
  · obtain ⟨h1, h2⟩ := h
    obtain ⟨a, ha, ea⟩ := inR_of (by decide) h1
    subst ea
    obtain ⟨b, hb, eb⟩ := inR_of (by decide) h2
    subst eb
    exact Pair.of hM0 hI (toX hX (x_sensible_y G hp hX ha hb)) (fun h2 y2 hM => toM hM (mm_sensible_y G h2 hM hI ha hb))
  · exact Pair.of hM0 hI (toX hX (x_sensible_n G hp hX h)) (fun h2 y2 hM => toM hM (mm_sensible_n G h2 h))
theorem op_work (hS : Mid G s s hp) (hI : Inv s) (a b c d : Int32) : Pair G s hp mX2_work mX3_work 2 1 3 10 [.int a, .int b, .int c, .int d] := by
  obtain ⟨⟨x, hX⟩, y, hM0⟩ := hS
  by_cases h : InR a 10 ∧ InR b 10 ∧ InR c 10 ∧ InR d 10
  · obtain ⟨ha, hb, hc, hd⟩ := h
    by_cases hn : s.n < 12
    · exact Pair.of hM0 (i_addW hI hn a b c d) (x_work_y G hp hX hn ha hb hc hd) (fun h2 y2 hM => mm_work_y G h2 hM hn ha hb hc hd)
    · have hn2 : s.n = 12 := by have := hI.2.2.2; omega
      exact Pair.of hM0 hI (toX hX (x_work_full G hp hX hn2 ha hb hc hd)) (fun h2 y2 hM => toM hM (mm_work_full G h2 hM hn2 ha hb hc hd))
  · exact Pair.of hM0 hI (toX hX (x_work_n G hp h)) (fun h2 y2 hM => toM hM (mm_work_n G h2 h))
theorem op_fact (hS : Mid G s s hp) (hI : Inv s) (u z v : Int32) : Pair G s hp mX2_fact mX3_fact 2 2 0 0 [.int u, .int z, .int v] := by
  obtain ⟨⟨x, hX⟩, y, hM0⟩ := hS
  by_cases h : InR u s.n ∧ InR z 4 ∧ InR v 10
  · obtain ⟨h1, h2, h3⟩ := h
    obtain ⟨a, ha, ea⟩ := inR_of (by have := hI.2.2.2; omega) h1
    subst ea
    obtain ⟨b, hb, eb⟩ := inR_of (by decide) h2
    subst eb
    exact Pair.of hM0 (s' := setWf s a b v) hI (x_fact_y G hp hX ha hb h3) (fun h2 y2 hM => mm_fact_y G h2 hM ha hb h3)
  · exact Pair.of hM0 hI (toX hX (x_fact_n G hp hX h)) (fun h2 y2 hM => toM hM (mm_fact_n G h2 hM h))
theorem op_points (hS : Mid G s s hp) (hI : Inv s) (u z : Int32) : Pair G s hp mX2_points mX3_points 6 6 0 0 [.int u, .int z] := by
  obtain ⟨⟨x, hX⟩, y, hM0⟩ := hS
  by_cases h : InR u 2 ∧ InR z s.n
  · obtain ⟨h1, h2⟩ := h
    obtain ⟨a, ha, ea⟩ := inR_of (by decide) h1
    subst ea
    obtain ⟨b, hb, eb⟩ := inR_of (by have := hI.2.2.2; omega) h2
    subst eb
    exact Pair.of hM0 hI (toX hX (x_points_y G hp hX hI ha hb)) (fun h2 y2 hM => toM hM (mm_points_y G h2 hM hI ha hb))
  · exact Pair.of hM0 hI (toX hX (x_points_n G hp hX h)) (fun h2 y2 hM => toM hM (mm_points_n G h2 hM h))
theorem op_mark (hS : Mid G s s hp) (hI : Inv s) (u z v : Int32) : Pair G s hp mX2_mark mX3_mark 2 2 0 0 [.int u, .int z, .int v] := by
  obtain ⟨⟨x, hX⟩, y, hM0⟩ := hS
  by_cases h : InR u 3 ∧ InR z s.n ∧ (v = -900 ∨ InR v 4)
  · obtain ⟨h1, h2, h3⟩ := h
    obtain ⟨a, ha, ea⟩ := inR_of (by decide) h1
    subst ea
    obtain ⟨b, hb, eb⟩ := inR_of (by have := hI.2.2.2; omega) h2
    subst eb
    exact Pair.of hM0 (i_setMr hI h3) (x_mark_y G hp hX ha hb h3) (fun h2 y2 hM => mm_mark_y G h2 hM ha hb h3)
  · exact Pair.of hM0 hI (toX hX (x_mark_n G hp hX h)) (fun h2 y2 hM => toM hM (mm_mark_n G h2 hM h))
theorem op_given (hS : Mid G s s hp) (hI : Inv s) (u z : Int32) : Pair G s hp mX2_given mX3_given 2 2 0 0 [.int u, .int z] := by
  obtain ⟨⟨x, hX⟩, y, hM0⟩ := hS
  by_cases h : InR u 3 ∧ InR z s.n
  · obtain ⟨h1, h2⟩ := h
    obtain ⟨a, ha, ea⟩ := inR_of (by decide) h1
    subst ea
    obtain ⟨b, hb, eb⟩ := inR_of (by have := hI.2.2.2; omega) h2
    subst eb
    exact Pair.of hM0 hI (toX hX (x_given_y G hp hX ha hb)) (fun h2 y2 hM => toM hM (mm_given_y G h2 hM ha hb))
  · exact Pair.of hM0 hI (toX hX (x_given_n G hp hX h)) (fun h2 y2 hM => toM hM (mm_given_n G h2 hM h))
theorem op_like (hS : Mid G s s hp) (hI : Inv s) (u z p : Int32) : Pair G s hp mX2_like mX3_like 4 2 0 0 [.int u, .int z, .int p] := by
  obtain ⟨⟨x, hX⟩, y, hM0⟩ := hS
  by_cases h : (InR u 3 ∧ InR z 3 ∧ ¬ u = z) ∧ InR p 3
  · obtain ⟨⟨h1, h2, hn⟩, h3⟩ := h
    obtain ⟨a, ha, ea⟩ := inR_of (by decide) h1
    subst ea
    obtain ⟨b, hb, eb⟩ := inR_of (by decide) h2
    subst eb
    obtain ⟨i, hi, ei⟩ := inR_of (by decide) h3
    subst ei
    have hab : a ≠ b := fun e => hn (by rw [e])
    exact Pair.of hM0 hI (toX hX (x_like_y G hp hX ha hb hab hi)) (fun h2 y2 hM => toM hM (mm_like_y G h2 hM ha hb hab hi))
  · exact Pair.of hM0 hI (toX hX (x_like_n G hp hX h)) (fun h2 y2 hM => toM hM (mm_like_n G h2 h))
theorem op_parts (hS : Mid G s s hp) (hI : Inv s) (u z : Int32) : Pair G s hp mX2_parts mX3_parts 2 2 0 0 [.int u, .int z] := by
  obtain ⟨⟨x, hX⟩, y, hM0⟩ := hS
  by_cases h : InR u 3 ∧ InR z 3 ∧ ¬ u = z
  · obtain ⟨h1, h2, hn⟩ := h
    obtain ⟨a, ha, ea⟩ := inR_of (by decide) h1
    subst ea
    obtain ⟨b, hb, eb⟩ := inR_of (by decide) h2
    subst eb
    have hab : a ≠ b := fun e => hn (by rw [e])
    exact Pair.of hM0 hI (toX hX (x_parts_y G hp hX ha hb hab)) (fun h2 y2 hM => toM hM (mm_parts_y G h2 hM hI ha hb hab))
  · exact Pair.of hM0 hI (toX hX (x_parts_n G hp h)) (fun h2 y2 hM => toM hM (mm_parts_n G h2 h))
theorem op_anchor (hS : Mid G s s hp) (hI : Inv s) (u v : Int32) : Pair G s hp mX2_anchor mX3_anchor 2 2 0 0 [.int u, .int v] := by
  obtain ⟨⟨x, hX⟩, y, hM0⟩ := hS
  by_cases h : InR u s.n ∧ (v = -900 ∨ InR v 4)
  · obtain ⟨h1, h2⟩ := h
    obtain ⟨a, ha, ea⟩ := inR_of (by have := hI.2.2.2; omega) h1
    subst ea
    exact Pair.of hM0 (i_setTr hI h2) (x_anchor_y G hp hX ha h2) (fun g2 y2 hM => mm_anchor_y G g2 hM ha h2)
  · exact Pair.of hM0 hI (toX hX (x_anchor_n G hp hX h)) (fun h2 y2 hM => toM hM (mm_anchor_n G h2 hM h))
theorem op_off (hS : Mid G s s hp) (hI : Inv s) (u z : Int32) : Pair G s hp mX2_off mX3_off 2 2 0 0 [.int u, .int z] := by
  obtain ⟨⟨x, hX⟩, y, hM0⟩ := hS
  by_cases h : InR u 3 ∧ InR z 3
  · obtain ⟨h1, h2⟩ := h
    obtain ⟨a, ha, ea⟩ := inR_of (by decide) h1
    subst ea
    obtain ⟨b, hb, eb⟩ := inR_of (by decide) h2
    subst eb
    exact Pair.of hM0 hI (toX hX (x_off_y G hp hX ha hb)) (fun h2 y2 hM => mm_off_y G h2 hM hI ha hb)
  · exact Pair.of hM0 hI (toX hX (x_off_n G hp h)) (fun h2 y2 hM => toM hM (mm_off_n G h2 h))
theorem op_fair (hS : Mid G s s hp) (hI : Inv s) (u z : Int32) : Pair G s hp mX2_fair mX3_fair 2 2 0 0 [.int u, .int z] := by
  obtain ⟨⟨x, hX⟩, y, hM0⟩ := hS
  by_cases h : InR u 3 ∧ InR z s.n
  · obtain ⟨h1, h2⟩ := h
    obtain ⟨a, ha, ea⟩ := inR_of (by decide) h1
    subst ea
    obtain ⟨b, hb, eb⟩ := inR_of (by have := hI.2.2.2; omega) h2
    subst eb
    exact Pair.of hM0 hI (toX hX (x_fair_y G hp hX ha hb)) (fun h2 y2 hM => mm_fair_y G h2 hM hI ha hb)
  · exact Pair.of hM0 hI (toX hX (x_fair_n G hp hX h)) (fun h2 y2 hM => toM hM (mm_fair_n G h2 hM h))
theorem op_drift (hS : Mid G s s hp) (hI : Inv s) (u z : Int32) : Pair G s hp mX2_drift mX3_drift 10 2 0 0 [.int u, .int z] := by
  obtain ⟨⟨x, hX⟩, y, hM0⟩ := hS
  by_cases h : InR u 3 ∧ InR z 3
  · obtain ⟨h1, h2⟩ := h
    obtain ⟨a, ha, ea⟩ := inR_of (by decide) h1
    subst ea
    obtain ⟨b, hb, eb⟩ := inR_of (by decide) h2
    subst eb
    exact Pair.of hM0 hI (x_drift_y G hp hX ha hb) (fun h2 y2 hM => by rw [← dfM_eq hI ha b]; exact mm_drift_y G h2 hM ha hb)
  · exact Pair.of hM0 hI (toX hX (x_drift_n G hp h)) (fun h2 y2 hM => toM hM (mm_drift_n G h2 h))
theorem op_moves (hS : Mid G s s hp) (hI : Inv s) (u : Int32) : Pair G s hp mX2_moves mX3_moves 6 6 0 0 [.int u] := by
  obtain ⟨⟨x, hX⟩, y, hM0⟩ := hS
  by_cases h : InR u 2
  · have h1 := h
    obtain ⟨a, ha, ea⟩ := inR_of (by decide) h1
    subst ea
    exact Pair.of hM0 hI (x_moves_y G hp hX hI ha) (fun h2 y2 hM => toM hM (mm_moves_y G h2 hM hI ha))
  · exact Pair.of hM0 hI (toX hX (x_moves_n G hp h)) (fun h2 y2 hM => toM hM (mm_moves_n G h2 h))
theorem op_copy (hS : Mid G s s hp) (hI : Inv s) (u : Int32) : Pair G s hp mX2_copy mX3_copy 1 1 0 0 [.int u] := by
  obtain ⟨⟨x, hX⟩, y, hM0⟩ := hS
  by_cases h : InR u 3
  · have h1 := h
    obtain ⟨a, ha, ea⟩ := inR_of (by decide) h1
    subst ea
    exact Pair.of hM0 (i_cpS hI a) (x_copy_y G hp hX ha) (fun h2 y2 hM => mm_copy_y G h2 hM ha)
  · exact Pair.of hM0 hI (toX hX (x_copy_n G hp h)) (fun h2 y2 hM => toM hM (mm_copy_n G h2 h))
theorem op_count (hS : Mid G s s hp) (hI : Inv s) (u : Int32) : Pair G s hp mX2_count mX3_count 8 6 0 0 [.int u] := by
  obtain ⟨⟨x, hX⟩, y, hM0⟩ := hS
  by_cases h : InR u 5
  · have h1 := h
    obtain ⟨a, ha, ea⟩ := inR_of (by decide) h1
    subst ea
    exact Pair.of hM0 hI (toX hX (x_count_y G hp hX ha)) (fun h2 y2 hM => toM hM (mm_count_y G h2 hM hI ha))
  · exact Pair.of hM0 hI (toX hX (x_count_n G hp h)) (fun h2 y2 hM => toM hM (mm_count_n G h2 h))
end KEEP
