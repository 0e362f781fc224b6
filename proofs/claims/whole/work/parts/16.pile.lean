/-! THE CLASS: what a write leaves of the picture; the pile gathered, its odds -/
theorem LN.frame {G : GG} {hp h : List va_E} {a : Nat} {kd fc wt : Int32} {f t : Nat → Int32} (hL : LN G hp a kd fc wt f t) (he : ∀ i, a ≤ i → i ≤ a + 2 → h[i]? = hp[i]?) : LN G h a kd fc wt f t := ⟨(he a (by omega) (by omega)).trans hL.1, (he (a + 1) (by omega) (by omega)).trans hL.2.1, (he (a + 2) (by omega) (by omega)).trans hL.2.2⟩
theorem WK.frame {G : GG} {hp h : List va_E} {a : Nat} {f m : Nat → Int32} {tr : Int32} (hL : WK G hp a f m tr) (he : ∀ i, a ≤ i → i ≤ a + 2 → h[i]? = hp[i]?) : WK G h a f m tr := ⟨(he a (by omega) (by omega)).trans hL.1, (he (a + 1) (by omega) (by omega)).trans hL.2.1, (he (a + 2) (by omega) (by omega)).trans hL.2.2⟩
theorem la_in (sw : Bool) {j : Nat} (hj : j < 8) : 7 ≤ la sw j ∧ la sw j + 2 < 31 := by
  unfold la
  split
  · split
    · omega
    · omega
  · omega
theorem la_apart (sw : Bool) {i j : Nat} (hi : i < 8) (hj : j < 8) (h : i ≠ j) : la sw i + 3 ≤ la sw j ∨ la sw j + 3 ≤ la sw i := by
  unfold la
  split
  · split
    · split
      · omega
      · omega
    · split
      · omega
      · omega
  · omega
theorem set_ne {hp : List va_E} {i j : Nat} {e : va_E} (h : j ≠ i) : (hp.set i e)[j]? = hp[j]? := List.getElem?_set_ne (Ne.symm h)
def FrX (hp h : List va_E) : Prop := ∀ i, 31 ≤ i → i < 42 → h[i]? = hp[i]?
theorem FrX.rf {hp : List va_E} : FrX hp hp := fun _ _ _ => rfl
theorem FrX.set {hp h : List va_E} (hF : FrX hp h) {i : Nat} {e : va_E} (hi : i < 31 ∨ 42 ≤ i) : FrX hp (h.set i e) := fun j h1 h2 => (set_ne (by omega)).trans (hF j h1 h2)
theorem FrX.trans {a b c : List va_E} (h1 : FrX a b) (h2 : FrX b c) : FrX a c := fun i q1 q2 => (h2 i q1 q2).trans (h1 i q1 q2)
section PXS
variable {G : GG} {hp : List va_E} {s : ST} {x : XT}
theorem PX.setPl (hX : PX G s x hp) (f : Nat → Int32) : PX G s (x.1, x.2.1, x.2.2.1, f, x.2.2.2.2) (hp.set 3 (aI G 6 f)) := by
  obtain ⟨h0, h1, hgl, h2, hgw, h3, h4, h5, h6, hln, hwk, hn, hlen⟩ := hX
  exact ⟨(set_ne (by decide)).trans h0, (set_ne (by decide)).trans h1, hgl, (set_ne (by decide)).trans h2, hgw, set_get h3, (set_ne (by decide)).trans h4, (set_ne (by decide)).trans h5, (set_ne (by decide)).trans h6, fun j hj => (hln j hj).frame (fun i q1 q2 => set_ne (by have := la_in x.1 hj; omega)), fun w hw => (hwk w hw).frame (fun i q1 q2 => set_ne (by omega)), hn, by rw [List.length_set]; exact hlen⟩
theorem PX.setUn (hX : PX G s x hp) (f : Nat → Int32) : PX G s (x.1, x.2.1, x.2.2.1, x.2.2.2.1, f, x.2.2.2.2.2) (hp.set 4 (aI G 4 f)) := by
  obtain ⟨h0, h1, hgl, h2, hgw, h3, h4, h5, h6, hln, hwk, hn, hlen⟩ := hX
  exact ⟨(set_ne (by decide)).trans h0, (set_ne (by decide)).trans h1, hgl, (set_ne (by decide)).trans h2, hgw, (set_ne (by decide)).trans h3, set_get h4, (set_ne (by decide)).trans h5, (set_ne (by decide)).trans h6, fun j hj => (hln j hj).frame (fun i q1 q2 => set_ne (by have := la_in x.1 hj; omega)), fun w hw => (hwk w hw).frame (fun i q1 q2 => set_ne (by omega)), hn, by rw [List.length_set]; exact hlen⟩
theorem PX.setOp (hX : PX G s x hp) (f : Nat → Int32) : PX G s (x.1, x.2.1, x.2.2.1, x.2.2.2.1, x.2.2.2.2.1, f, x.2.2.2.2.2.2) (hp.set 5 (aI G 12 f)) := by
  obtain ⟨h0, h1, hgl, h2, hgw, h3, h4, h5, h6, hln, hwk, hn, hlen⟩ := hX
  exact ⟨(set_ne (by decide)).trans h0, (set_ne (by decide)).trans h1, hgl, (set_ne (by decide)).trans h2, hgw, (set_ne (by decide)).trans h3, (set_ne (by decide)).trans h4, set_get h5, (set_ne (by decide)).trans h6, fun j hj => (hln j hj).frame (fun i q1 q2 => set_ne (by have := la_in x.1 hj; omega)), fun w hw => (hwk w hw).frame (fun i q1 q2 => set_ne (by omega)), hn, by rw [List.length_set]; exact hlen⟩
theorem PX.setNp (hX : PX G s x hp) (f : Nat → Int32) : PX G s (x.1, x.2.1, x.2.2.1, x.2.2.2.1, x.2.2.2.2.1, x.2.2.2.2.2.1, f) (hp.set 6 (aI G 12 f)) := by
  obtain ⟨h0, h1, hgl, h2, hgw, h3, h4, h5, h6, hln, hwk, hn, hlen⟩ := hX
  exact ⟨(set_ne (by decide)).trans h0, (set_ne (by decide)).trans h1, hgl, (set_ne (by decide)).trans h2, hgw, (set_ne (by decide)).trans h3, (set_ne (by decide)).trans h4, (set_ne (by decide)).trans h5, set_get h6, fun j hj => (hln j hj).frame (fun i q1 q2 => set_ne (by have := la_in x.1 hj; omega)), fun w hw => (hwk w hw).frame (fun i q1 q2 => set_ne (by omega)), hn, by rw [List.length_set]; exact hlen⟩
end PXS
/-- a MARKER's first marks, six at most -/
noncomputable def pilL (s : ST) (m : Nat) : Nat → List Int32
  | 0 => []
  | k + 1 => @ite _ (mkdP s m k ∧ (pilL s m k).length < 6) (Classical.propDecidable _) (pilL s m k ++ [s.mr k m]) (pilL s m k)
theorem pilL_t {s : ST} {m k : Nat} (h : mkdP s m k ∧ (pilL s m k).length < 6) : pilL s m (k + 1) = pilL s m k ++ [s.mr k m] := if_pos h
theorem pilL_f {s : ST} {m k : Nat} (h : ¬ (mkdP s m k ∧ (pilL s m k).length < 6)) : pilL s m (k + 1) = pilL s m k := if_neg h
theorem pilL_le (s : ST) (m : Nat) : ∀ k, (pilL s m k).length ≤ 6
  | 0 => by simp [pilL]
  | k + 1 => by
    have h1 := pilL_le s m k
    by_cases h : mkdP s m k ∧ (pilL s m k).length < 6
    · rw [pilL_t h, List.length_append]; have := h.2; simp; omega
    · rw [pilL_f h]; exact h1
theorem pilL_full {s : ST} {m k : Nat} (h : 6 ≤ (pilL s m k).length) : ∀ j, pilL s m (k + j) = pilL s m k
  | 0 => rfl
  | j + 1 => by
    have h1 := pilL_full h j
    rw [show k + (j + 1) = (k + j) + 1 from rfl, pilL_f (fun q => by have := q.2; rw [h1] at this; omega), h1]
def PilP (p : Nat → Int32) (L : List Int32) : Prop := ∀ j, j < L.length → p j = L.getD j 0
theorem PilP.push {p : Nat → Int32} {L : List Int32} (h : PilP p L) (v : Int32) : PilP (upd p L.length v) (L ++ [v]) := by
  intro j hj
  rw [List.length_append] at hj
  by_cases e : j = L.length
  · subst e
    simp [upd]
  · have hl : j < L.length := by simp at hj; omega
    rw [show upd p L.length v j = p j from if_neg e, h j hl, List.getD_eq_getElem?_getD, List.getD_eq_getElem?_getD, List.getElem?_append_left hl]
section CLASS4
variable (G : GG) (hp : List va_E) {s : ST} {x : XT}
theorem c_gatherPile (hX : PX G s x hp) {m : Nat} (hm : m < 3) : Ct G mX2_gatherPile 1 0 0 [.ref (G.2.2.2 + 0), .int (nI m)] hp (fun r h => r = some (.int (nI (pilL s m s.n).length)) ∧ ∃ p, h = hp.set 3 (aI G 6 p) ∧ PilP p (pilL s m s.n)) := by
  have key : ∀ k, k ≤ s.n → ∀ p, PilP p (pilL s m k) → Vm G mX2_gatherPile 1 0 0 (fun r h => r = some (.int (nI (pilL s m s.n).length)) ∧ ∃ p, h = hp.set 3 (aI G 6 p) ∧ PilP p (pilL s m s.n)) 4 [some (.ref (G.2.2.2 + 0)), some (.int (nI m)), some (.int (nI (pilL s m k).length)), some (.int (nI k))] [] (hp.set 3 (aI G 6 p)) 0 0 := by
    refine loop_up ?_ (fun k hk ih => ?_)
    · intro p hp0
      obtain ⟨h0, h1, hgl, h2, hgw, h3, h4, h5, h6, hln, hwk, hn, hlen⟩ := hX.setPl p
      refine v_iload_n dX2_gatherPile_4 rfl rfl ?_
      refine v_aload_n dX2_gatherPile_5 rfl rfl ?_
      refine v_getf dX2_gatherPile_6 fl_X2_21 (by assumption) (by rfl) rfl ?_
      refine v_icmp_geN (tgt := 57) dX2_gatherPile_9 (by decide) rfl (by omega) (by omega) (fun c9 => ?_) (fun c9 => ?_)
      · refine v_iload_n dX2_gatherPile_57 rfl rfl ?_
        exact v_iret dX2_gatherPile_58 rfl ⟨Nat.le_of_ble_eq_true rfl, Nat.le_of_ble_eq_true rfl⟩ (⟨rfl, p, rfl, hp0⟩)
      · exact absurd c9 (by omega)
    · intro p hp0
      have hX' := hX.setPl p
      obtain ⟨h0, h1, hgl, h2, hgw, h3, h4, h5, h6, hln, hwk, hn, hlen⟩ := hX.setPl p
      have hW := hwk k hk
      obtain ⟨l1, l2, l3⟩ := hwk k hk
      have hle := pilL_le s m k
      have hfull : 6 ≤ (pilL s m k).length → pilL s m s.n = pilL s m k := fun q => by
        have := pilL_full q (s.n - k)
        rwa [show k + (s.n - k) = s.n by omega] at this
      refine v_iload_n dX2_gatherPile_4 rfl rfl ?_
      refine v_aload_n dX2_gatherPile_5 rfl rfl ?_
      refine v_getf dX2_gatherPile_6 fl_X2_21 (by assumption) (by rfl) rfl ?_
      refine v_icmp_geN (tgt := 57) dX2_gatherPile_9 (by decide) rfl (by omega) (by omega) (fun c9 => ?_) (fun c9 => ?_)
      · exact absurd c9 (by omega)
      · refine v_iload_n dX2_gatherPile_12 rfl rfl ?_
        refine v_bipush (v := nI 6) dX2_gatherPile_13 (by decide) rfl ?_
        refine v_icmp_geN (tgt := 57) dX2_gatherPile_15 (by decide) rfl (by omega) (by omega) (fun c15 => ?_) (fun c15 => ?_)
        · refine v_iload_n dX2_gatherPile_57 rfl rfl ?_
          exact v_iret dX2_gatherPile_58 rfl ⟨Nat.le_of_ble_eq_true rfl, Nat.le_of_ble_eq_true rfl⟩ (⟨by rw [hfull c15], p, rfl, by rw [hfull c15]; exact hp0⟩)
        · refine v_aload_n dX2_gatherPile_18 rfl rfl ?_
          refine v_getf dX2_gatherPile_19 fl_X2_17 (by assumption) (by rfl) rfl ?_
          refine v_iload_n dX2_gatherPile_22 rfl rfl ?_
          refine v_aaldW _ dX2_gatherPile_23 (by assumption) rfl (by omega) (by decide) (by rw [hgw _ (by omega)]) rfl ?_
          refine v_iload_n dX2_gatherPile_24 rfl rfl ?_
          by_cases q25 : mkdP s m k
          · refine v_cvf dX2_gatherPile_25 cw_X2_144 ⟨tn_X1_isMarkedBy, tl_X1_isMarkedBy⟩ rfl (by assumption) ((c_isMarkedBy G _ hW hm).yes ‹_›) (by rfl) (by rfl) (Nat.le_of_ble_eq_true rfl) (Nat.le_of_ble_eq_true rfl) (Nat.le_of_ble_eq_true rfl) (Nat.le_of_ble_eq_true rfl) (Nat.le_of_ble_eq_true rfl) rfl ?_
            refine v_if_eq (tgt := 51) dX2_gatherPile_28 (by decide) rfl (fun q => absurd q (by decide)) (fun _ => ?_)
            refine v_aload_n dX2_gatherPile_31 rfl rfl ?_
            refine v_getf dX2_gatherPile_32 fl_X2_29 (by assumption) (by rfl) rfl ?_
            refine v_iload_n dX2_gatherPile_35 rfl rfl ?_
            refine v_aload_n dX2_gatherPile_36 rfl rfl ?_
            refine v_getf dX2_gatherPile_37 fl_X2_17 (by assumption) (by rfl) rfl ?_
            refine v_iload_n dX2_gatherPile_40 rfl rfl ?_
            refine v_aaldW _ dX2_gatherPile_41 (by assumption) rfl (by omega) (by decide) (by rw [hgw _ (by omega)]) rfl ?_
            refine v_getf dX2_gatherPile_42 fl_X2_107 (by assumption) (by rfl) rfl ?_
            refine v_iload_n dX2_gatherPile_45 rfl rfl ?_
            refine v_iald _ dX2_gatherPile_46 (by assumption) rfl (by omega) (by decide) rfl ?_
            refine v_iast _ dX2_gatherPile_47 (by assumption) rfl (by omega) (by decide) rfl ?_
            refine v_iinc1 dX2_gatherPile_48 rfl (Nat.le_of_ble_eq_true rfl) rfl ?_
            refine v_iinc1 dX2_gatherPile_51 rfl (Nat.le_of_ble_eq_true rfl) rfl ?_
            refine v_goto (tgt := 4) dX2_gatherPile_54 (by decide) ?_
            first | (rw [pilL_f (k := k) (fun h => absurd h.1 q25)] at ih; exact ih p hp0) | (rw [pilL_t (k := k) ⟨q25, c15⟩, List.length_append] at ih; refine v_hp (List.set_set ..) ?_; exact ih _ (hp0.push _))
          · refine v_cvf dX2_gatherPile_25 cw_X2_144 ⟨tn_X1_isMarkedBy, tl_X1_isMarkedBy⟩ rfl (by assumption) ((c_isMarkedBy G _ hW hm).no ‹_›) (by rfl) (by rfl) (Nat.le_of_ble_eq_true rfl) (Nat.le_of_ble_eq_true rfl) (Nat.le_of_ble_eq_true rfl) (Nat.le_of_ble_eq_true rfl) (Nat.le_of_ble_eq_true rfl) rfl ?_
            refine v_if_eq (tgt := 51) dX2_gatherPile_28 (by decide) rfl (fun _ => ?_) (fun q => absurd (by decide) q)
            refine v_iinc1 dX2_gatherPile_51 rfl (Nat.le_of_ble_eq_true rfl) rfl ?_
            refine v_goto (tgt := 4) dX2_gatherPile_54 (by decide) ?_
            first | (rw [pilL_f (k := k) (fun h => absurd h.1 q25)] at ih; exact ih p hp0) | (rw [pilL_t (k := k) ⟨q25, c15⟩, List.length_append] at ih; refine v_hp (List.set_set ..) ?_; exact ih _ (hp0.push _))
  refine Ct.start 2 (by decide) rfl (Nat.le_of_ble_eq_true rfl) ?_
  refine v_iconst (v := nI 0) dX2_gatherPile_0 (by decide) rfl ?_
  refine v_istore_n dX2_gatherPile_1 (Nat.le_of_ble_eq_true rfl) rfl ?_
  refine v_iconst (v := nI 0) dX2_gatherPile_2 (by decide) rfl ?_
  refine v_istore_n dX2_gatherPile_3 (Nat.le_of_ble_eq_true rfl) rfl ?_
  exact v_hp (set_same hX.2.2.2.2.2.1).symm (key 0 (Nat.zero_le _) _ (fun j hj => absurd hj (by simp [pilL])))
theorem dbI_congr {m : Nat} {u v : Nat → Int32} (h : ∀ j, j < 4 → u j = v j) : ∀ k, k ≤ 4 → dbI m u k = dbI m v k
  | 0, _ => rfl
  | k + 1, hk => by rw [dbI, dbI, dbI_congr h k (by omega), h k (by omega)]
theorem coI_congr : ∀ (t : Nat) (u v : Nat → Int32) (w : Int32), (∀ j, j < 4 → u j = v j) → coI t u w = coI t v w
  | 0, _, _, _, _ => rfl
  | t + 1, u, v, w, h => by
    have hk : ∀ k, k ≤ 4 → coT (coI t) u w k = coT (coI t) v w k := by
      intro k
      induction k with
      | zero => intro _; rfl
      | succ k ih =>
        intro hk
        have e : ∀ j, j < 4 → upd u k (u k - nI 1) j = upd v k (v k - nI 1) j := fun j hj => by
          unfold upd
          split
          · rw [h k (by omega)]
          · exact h j hj
        rw [coT, coT, ih (by omega), dbI_congr e 4 (by omega), coI_congr t _ _ _ e, h k (by omega)]
    exact hk 4 (by omega)
theorem innI_congr {a : Int32} {p q : Nat → Int32} {l : Nat} : ∀ e, p l = q l → (∀ j, j < e → p j = q j) → innI a p l e = innI a q l e
  | 0, _, _ => rfl
  | e + 1, hl, h => by rw [innI, innI, innI_congr e hl (fun j hj => h j (by omega)), hl, h e (by omega)]
theorem drI_congr {p q : Nat → Int32} : ∀ z, (∀ j, j < z → p j = q j) → drI p z = drI q z
  | 0, _ => rfl
  | z + 1, h => by rw [drI, drI, drI_congr z (fun j hj => h j (by omega)), innI_congr z (h z (by omega)) (fun j hj => h j (by omega))]
/-- how often each mark lies in the pile -/
noncomputable def unI (p : Nat → Int32) (z : Nat) (v : Nat) : Int32 := nI (cnt (fun i => p i = nI v) z)
theorem c_oddsOfPile (hX : PX G s x hp) {z : Nat} (hz : z ≤ 6) (w : Int32) : Ct G mX2_oddsOfPile 9 0 0 [.ref (G.2.2.2 + 0), .int (nI z), .int w] hp (fun r h => r = some (.int (coI z (unI x.2.2.2.1 z) w)) ∧ ∃ u, h = hp.set 4 (aI G 4 u)) := by
  have key : ∀ k, k ≤ 4 → ∀ u, (∀ j, j < k → u j = unI x.2.2.2.1 z j) → Vm G mX2_oddsOfPile 9 0 0 (fun r h => r = some (.int (coI z (unI x.2.2.2.1 z) w)) ∧ ∃ u, h = hp.set 4 (aI G 4 u)) 2 [some (.ref (G.2.2.2 + 0)), some (.int (nI z)), some (.int w), some (.int (nI k))] [] (hp.set 4 (aI G 4 u)) 0 0 := by
    refine loop_up ?_ (fun k hk ih => ?_)
    · intro u hu
      obtain ⟨h0, h1, hgl, h2, hgw, h3, h4, h5, h6, hln, hwk, hn, hlen⟩ := hX.setUn u
      refine v_iload_n dX2_oddsOfPile_2 rfl rfl ?_
      refine v_iconst (v := nI 4) dX2_oddsOfPile_3 (by decide) rfl ?_
      refine v_icmp_geN (tgt := 25) dX2_oddsOfPile_4 (by decide) rfl (by omega) (by omega) (fun c4 => ?_) (fun c4 => ?_)
      · refine v_aload_n dX2_oddsOfPile_25 rfl rfl ?_
        refine v_getf dX2_oddsOfPile_26 fl_X2_33 (by assumption) (by rfl) rfl ?_
        refine v_iload_n dX2_oddsOfPile_29 rfl rfl ?_
        refine v_iload_n dX2_oddsOfPile_30 rfl rfl ?_
        refine v_csf dX2_oddsOfPile_31 cw_X2_198 ts_X2_countOrders (c_countOrders G z _ u w (by omega) h4) (by rfl) (by rfl) (Nat.le_of_ble_eq_true rfl) (by simp only [rmOf]; omega) (by simp only [rmOf]; omega) (by simp only [rmOf]; omega) (by simp only [rmOf]; omega) rfl ?_
        exact v_iret dX2_oddsOfPile_34 rfl ⟨Nat.le_of_ble_eq_true rfl, Nat.le_of_ble_eq_true rfl⟩ (⟨by rw [coI_congr z u _ w hu], u, rfl⟩)
      · exact absurd c4 (by omega)
    · intro u hu
      have hX' := hX.setUn u
      obtain ⟨h0, h1, hgl, h2, hgw, h3, h4, h5, h6, hln, hwk, hn, hlen⟩ := hX.setUn u
      refine v_iload_n dX2_oddsOfPile_2 rfl rfl ?_
      refine v_iconst (v := nI 4) dX2_oddsOfPile_3 (by decide) rfl ?_
      refine v_icmp_geN (tgt := 25) dX2_oddsOfPile_4 (by decide) rfl (by omega) (by omega) (fun c4 => ?_) (fun c4 => ?_)
      · exact absurd c4 (by omega)
      · refine v_aload_n dX2_oddsOfPile_7 rfl rfl ?_
        refine v_getf dX2_oddsOfPile_8 fl_X2_33 (by assumption) (by rfl) rfl ?_
        refine v_iload_n dX2_oddsOfPile_11 rfl rfl ?_
        refine v_aload_n dX2_oddsOfPile_12 rfl rfl ?_
        refine v_iload_n dX2_oddsOfPile_13 rfl rfl ?_
        refine v_iload_n dX2_oddsOfPile_14 rfl rfl ?_
        refine v_cvf dX2_oddsOfPile_15 cw_X2_195 ⟨tn_X2_countInPile, tl_X2_countInPile⟩ rfl (by assumption) (c_countInPile G _ hX' hz k) (by rfl) (by rfl) (Nat.le_of_ble_eq_true rfl) (Nat.le_of_ble_eq_true rfl) (Nat.le_of_ble_eq_true rfl) (Nat.le_of_ble_eq_true rfl) (Nat.le_of_ble_eq_true rfl) rfl ?_
        refine v_iast _ dX2_oddsOfPile_18 (by assumption) rfl (by omega) (by decide) rfl ?_
        refine v_iinc1 dX2_oddsOfPile_19 rfl (Nat.le_of_ble_eq_true rfl) rfl ?_
        refine v_goto (tgt := 2) dX2_oddsOfPile_22 (by decide) ?_
        exact v_hp (List.set_set ..) (ih _ (fun j hj => by
                  by_cases e : j = k
                  · subst e; exact if_pos rfl
                  · exact (if_neg e).trans (hu j (by omega))))
  refine Ct.start 1 (by decide) rfl (Nat.le_of_ble_eq_true rfl) ?_
  refine v_iconst (v := nI 0) dX2_oddsOfPile_0 (by decide) rfl ?_
  refine v_istore_n dX2_oddsOfPile_1 (Nat.le_of_ble_eq_true rfl) rfl ?_
  exact v_hp (set_same hX.2.2.2.2.2.2.1).symm (key 0 (Nat.zero_le _) _ (fun j hj => absurd hj (by omega)))
end CLASS4

