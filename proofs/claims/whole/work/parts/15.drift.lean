/-! THE CLASS: a ratio in least form; the pile, its drift and odds -/
theorem rem0 (u : Int32) {d : Nat} (hd : d < 2 ^ 31) : u - u / nI d * nI d = 0 ↔ d ∣ u.toInt.natAbs := by
  rw [← Int32.toInt_inj, rem_toInt, nI_toInt hd, ← Int.ofNat_dvd_left]
  exact ⟨fun h => Int.dvd_of_tmod_eq_zero h, fun h => Int.tmod_eq_zero_of_dvd h⟩
/-- the upper (part 0) or lower part of a ratio in least form -/
def ratI (u : Int32) (l : Nat) (part : Int32) : Int32 := if l = 0 then -200 else if part = 0 then u / nI (Nat.gcd u.toInt.natAbs l) else nI (l / Nat.gcd u.toInt.natAbs l)
theorem upd_back (u : Nat → Int32) (k : Nat) (y : Int32) : upd (upd u k y) k (u k) = u := by
  funext j
  by_cases h : j = k
  · subst h; simp [upd]
  · simp [upd, h]
theorem set_same {hp : List va_E} {i : Nat} {e : va_E} (h : hp[i]? = some e) : hp.set i e = hp := by
  apply List.ext_getElem?
  intro j
  by_cases hj : i = j
  · subst hj
    rw [List.getElem?_set_self (List.getElem?_eq_some_iff.mp h).1, h]
  · rw [List.getElem?_set_ne hj]
theorem set_get {hp : List va_E} {i : Nat} {e e' : va_E} (h : hp[i]? = some e) : (hp.set i e')[i]? = some e' := List.getElem?_set_self (List.getElem?_eq_some_iff.mp h).1
section CLASS3
variable (G : GG) (hp : List va_E) {s : ST} {x : XT}
theorem c_partOfRatio (u part : Int32) {l : Nat} (hl : l < 2 ^ 31) : Ct G mX2_partOfRatio 0 0 0 [.int u, .int (nI l), .int part] hp (Qf (some (.int (ratI u l part))) hp) := by
  have key : 0 < l → ∀ j d, d = Nat.gcd u.toInt.natAbs l + j → d ≤ l → Vm G mX2_partOfRatio 0 0 0 (Qf (some (.int (ratI u l part))) hp) 10 [some (.int u), some (.int (nI l)), some (.int part), some (.int (nI d))] [] hp 0 0 := by
    intro hl0
    have hg0 : 0 < Nat.gcd u.toInt.natAbs l := Nat.gcd_pos_of_pos_right _ hl0
    have hgu := Nat.gcd_dvd_left u.toInt.natAbs l
    have hgl := Nat.gcd_dvd_right u.toInt.natAbs l
    have hgd : ∀ d, d ∣ u.toInt.natAbs → d ∣ l → d ≤ Nat.gcd u.toInt.natAbs l := fun d h1 h2 => Nat.le_of_dvd hg0 (Nat.dvd_gcd h1 h2)
    have hend : ∀ q : Int32, ratI u l q = if q = 0 then u / nI (Nat.gcd u.toInt.natAbs l) else nI (l / Nat.gcd u.toInt.natAbs l) := fun q => by rw [ratI, if_neg (by omega)]
    generalize Nat.gcd u.toInt.natAbs l = g at *
    intro j
    induction j with
    | zero =>
      intro d hd hdl
      obtain rfl : d = g := by omega
      refine v_iload_n dX2_partOfRatio_10 rfl rfl ?_
      refine v_iconst (v := nI 1) dX2_partOfRatio_11 (by decide) rfl ?_
      refine v_icmp_leN (tgt := 33) dX2_partOfRatio_12 (by decide) rfl (by omega) (by omega) (fun c12 => ?_) (fun c12 => ?_)
      · refine v_iload_n dX2_partOfRatio_33 rfl rfl ?_
        refine v_if_ne (tgt := 41) dX2_partOfRatio_34 (by decide) rfl (fun c34 => ?_) (fun c34 => ?_)
        · refine v_iload_n dX2_partOfRatio_41 rfl rfl ?_
          refine v_iload_n dX2_partOfRatio_42 rfl rfl ?_
          refine v_idivN dX2_partOfRatio_43 (by omega) (by omega) (by omega) rfl ?_
          exact v_iret dX2_partOfRatio_44 rfl ⟨Nat.le_of_ble_eq_true rfl, Nat.le_of_ble_eq_true rfl⟩ (⟨by first | (rw [hend, if_pos ‹_›]; done) | (rw [hend, if_neg ‹_›]; done), rfl⟩)
        · refine v_iload_n dX2_partOfRatio_37 rfl rfl ?_
          refine v_goto (tgt := 42) dX2_partOfRatio_38 (by decide) ?_
          refine v_iload_n dX2_partOfRatio_42 rfl rfl ?_
          refine v_idiv dX2_partOfRatio_43 (nI_ne0 (by omega) (by omega)) rfl ?_
          exact v_iret dX2_partOfRatio_44 rfl ⟨Nat.le_of_ble_eq_true rfl, Nat.le_of_ble_eq_true rfl⟩ (⟨by first | (rw [hend, if_pos ‹_›]; done) | (rw [hend, if_neg ‹_›]; done), rfl⟩)
      · refine v_iload_n dX2_partOfRatio_15 rfl rfl ?_
        refine v_iload_n dX2_partOfRatio_16 rfl rfl ?_
        refine v_irem dX2_partOfRatio_17 (nI_ne0 (by omega) (by omega)) rfl ?_
        refine v_if_ne (tgt := 27) dX2_partOfRatio_18 (by decide) rfl (fun c18 => ?_) (fun c18 => ?_)
        · first | exact absurd ((rem0 u (by omega)).mpr hgu) c18 | exact absurd (Nat.mod_eq_zero_of_dvd hgl) c24
        · refine v_iload_n dX2_partOfRatio_21 rfl rfl ?_
          refine v_iload_n dX2_partOfRatio_22 rfl rfl ?_
          refine v_iremN dX2_partOfRatio_23 (by omega) (by omega) (by omega) rfl ?_
          refine v_if_eqN (tgt := 33) dX2_partOfRatio_24 (by decide) rfl (by omega) (fun c24 => ?_) (fun c24 => ?_)
          · refine v_iload_n dX2_partOfRatio_33 rfl rfl ?_
            refine v_if_ne (tgt := 41) dX2_partOfRatio_34 (by decide) rfl (fun c34 => ?_) (fun c34 => ?_)
            · refine v_iload_n dX2_partOfRatio_41 rfl rfl ?_
              refine v_iload_n dX2_partOfRatio_42 rfl rfl ?_
              refine v_idivN dX2_partOfRatio_43 (by omega) (by omega) (by omega) rfl ?_
              exact v_iret dX2_partOfRatio_44 rfl ⟨Nat.le_of_ble_eq_true rfl, Nat.le_of_ble_eq_true rfl⟩ (⟨by first | (rw [hend, if_pos ‹_›]; done) | (rw [hend, if_neg ‹_›]; done), rfl⟩)
            · refine v_iload_n dX2_partOfRatio_37 rfl rfl ?_
              refine v_goto (tgt := 42) dX2_partOfRatio_38 (by decide) ?_
              refine v_iload_n dX2_partOfRatio_42 rfl rfl ?_
              refine v_idiv dX2_partOfRatio_43 (nI_ne0 (by omega) (by omega)) rfl ?_
              exact v_iret dX2_partOfRatio_44 rfl ⟨Nat.le_of_ble_eq_true rfl, Nat.le_of_ble_eq_true rfl⟩ (⟨by first | (rw [hend, if_pos ‹_›]; done) | (rw [hend, if_neg ‹_›]; done), rfl⟩)
          · first | exact absurd ((rem0 u (by omega)).mpr hgu) c18 | exact absurd (Nat.mod_eq_zero_of_dvd hgl) c24
    | succ j ih =>
      intro d hd hdl
      obtain ⟨d, rfl⟩ : ∃ e, d = e + 1 := ⟨d - 1, by omega⟩
      refine v_iload_n dX2_partOfRatio_10 rfl rfl ?_
      refine v_iconst (v := nI 1) dX2_partOfRatio_11 (by decide) rfl ?_
      refine v_icmp_leN (tgt := 33) dX2_partOfRatio_12 (by decide) rfl (by omega) (by omega) (fun c12 => ?_) (fun c12 => ?_)
      · exact absurd c12 (by omega)
      · refine v_iload_n dX2_partOfRatio_15 rfl rfl ?_
        refine v_iload_n dX2_partOfRatio_16 rfl rfl ?_
        refine v_irem dX2_partOfRatio_17 (nI_ne0 (by omega) (by omega)) rfl ?_
        refine v_if_ne (tgt := 27) dX2_partOfRatio_18 (by decide) rfl (fun c18 => ?_) (fun c18 => ?_)
        · refine v_iincM dX2_partOfRatio_27 rfl (Nat.le_of_ble_eq_true rfl) rfl ?_
          refine v_goto (tgt := 10) dX2_partOfRatio_30 (by decide) ?_
          exact ih d (by omega) (by omega)
        · have hm : l % (d + 1) < d + 1 := Nat.mod_lt _ (by omega)
          refine v_iload_n dX2_partOfRatio_21 rfl rfl ?_
          refine v_iload_n dX2_partOfRatio_22 rfl rfl ?_
          refine v_iremN dX2_partOfRatio_23 (by omega) (by omega) (by omega) rfl ?_
          refine v_if_eqN (tgt := 33) dX2_partOfRatio_24 (by decide) rfl (by omega) (fun c24 => ?_) (fun c24 => ?_)
          · exact absurd (hgd _ ((rem0 u (by omega)).mp c18) (Nat.dvd_of_mod_eq_zero c24)) (by omega)
          · refine v_iincM dX2_partOfRatio_27 rfl (Nat.le_of_ble_eq_true rfl) rfl ?_
            refine v_goto (tgt := 10) dX2_partOfRatio_30 (by decide) ?_
            exact ih d (by omega) (by omega)
  refine Ct.start 1 (by decide) rfl (Nat.le_of_ble_eq_true rfl) ?_
  refine v_iload_n dX2_partOfRatio_0 rfl rfl ?_
  refine v_if_gtN (tgt := 8) dX2_partOfRatio_1 (by decide) rfl (by omega) (fun c1 => ?_) (fun c1 => ?_)
  · refine v_iload_n dX2_partOfRatio_8 rfl rfl ?_
    refine v_istore_n dX2_partOfRatio_9 (Nat.le_of_ble_eq_true rfl) rfl ?_
    exact key c1 (l - Nat.gcd u.toInt.natAbs l) l (by have := Nat.le_of_dvd c1 (Nat.gcd_dvd_right u.toInt.natAbs l); omega) (Nat.le_refl _)
  · refine v_sipush (v := (-200)) dX2_partOfRatio_4 (by decide) rfl ?_
    exact v_iret dX2_partOfRatio_7 rfl ⟨Nat.le_of_ble_eq_true rfl, Nat.le_of_ble_eq_true rfl⟩ (⟨by rw [ratI, if_pos ‹_›], rfl⟩)
theorem c_countInPile (hX : PX G s x hp) {z : Nat} (hz : z ≤ 6) (v : Nat) : Ct G mX2_countInPile 0 0 0 [.ref (G.2.2.2 + 0), .int (nI z), .int (nI v)] hp (Qf (some (.int (nI (cnt (fun i => x.2.2.2.1 i = nI v) z)))) hp) := by
  obtain ⟨h0, h1, hgl, h2, hgw, h3, h4, h5, h6, hln, hwk, hn, hlen⟩ := hX
  have key : ∀ k, k ≤ z → Vm G mX2_countInPile 0 0 0 (Qf (some (.int (nI (cnt (fun i => x.2.2.2.1 i = nI v) z)))) hp) 5 [some (.ref (G.2.2.2 + 0)), some (.int (nI z)), some (.int (nI v)), some (.int (nI (cnt (fun i => x.2.2.2.1 i = nI v) k))), some (.int (nI k))] [] hp 0 0 := by
    refine loop_up ?_ (fun k hk ih => ?_)
    · refine v_iload dX2_countInPile_5 rfl rfl ?_
      refine v_iload_n dX2_countInPile_7 rfl rfl ?_
      refine v_icmp_geN (tgt := 31) dX2_countInPile_8 (by decide) rfl (by omega) (by omega) (fun c8 => ?_) (fun c8 => ?_)
      · refine v_iload_n dX2_countInPile_31 rfl rfl ?_
        exact v_iret dX2_countInPile_32 rfl ⟨Nat.le_of_ble_eq_true rfl, Nat.le_of_ble_eq_true rfl⟩ (⟨rfl, rfl⟩)
      · exact absurd c8 (by omega)
    · refine v_iload dX2_countInPile_5 rfl rfl ?_
      refine v_iload_n dX2_countInPile_7 rfl rfl ?_
      refine v_icmp_geN (tgt := 31) dX2_countInPile_8 (by decide) rfl (by omega) (by omega) (fun c8 => ?_) (fun c8 => ?_)
      · exact absurd c8 (by omega)
      · refine v_aload_n dX2_countInPile_11 rfl rfl ?_
        refine v_getf dX2_countInPile_12 fl_X2_29 (by assumption) (by rfl) rfl ?_
        refine v_iload dX2_countInPile_15 rfl rfl ?_
        refine v_iald _ dX2_countInPile_17 (by assumption) rfl (by omega) (by decide) rfl ?_
        refine v_iload_n dX2_countInPile_18 rfl rfl ?_
        refine v_icmp_ne (tgt := 25) dX2_countInPile_19 (by decide) rfl (fun c19 => ?_) (fun c19 => ?_)
        · refine v_iinc1 dX2_countInPile_25 rfl (Nat.le_of_ble_eq_true rfl) rfl ?_
          refine v_goto (tgt := 5) dX2_countInPile_28 (by decide) ?_
          first | (rw [cnt_t (p := fun i => x.2.2.2.1 i = nI v) (n := k) ‹_›] at ih; exact ih) | (rw [cnt_f (p := fun i => x.2.2.2.1 i = nI v) (n := k) ‹_›] at ih; exact ih)
        · refine v_iinc1 dX2_countInPile_22 rfl (Nat.le_of_ble_eq_true rfl) rfl ?_
          refine v_iinc1 dX2_countInPile_25 rfl (Nat.le_of_ble_eq_true rfl) rfl ?_
          refine v_goto (tgt := 5) dX2_countInPile_28 (by decide) ?_
          first | (rw [cnt_t (p := fun i => x.2.2.2.1 i = nI v) (n := k) ‹_›] at ih; exact ih) | (rw [cnt_f (p := fun i => x.2.2.2.1 i = nI v) (n := k) ‹_›] at ih; exact ih)
  refine Ct.start 2 (by decide) rfl (Nat.le_of_ble_eq_true rfl) ?_
  refine v_iconst (v := nI 0) dX2_countInPile_0 (by decide) rfl ?_
  refine v_istore_n dX2_countInPile_1 (Nat.le_of_ble_eq_true rfl) rfl ?_
  refine v_iconst (v := nI 0) dX2_countInPile_2 (by decide) rfl ?_
  refine v_istore dX2_countInPile_3 (Nat.le_of_ble_eq_true rfl) rfl ?_
  exact key 0 (Nat.zero_le _)
/-- RISES less FALLS -/
def innI (a : Int32) (p : Nat → Int32) (l : Nat) : Nat → Int32
  | 0 => a
  | e + 1 => innI a p l e + cmpI (p l) (p e)
def drI (p : Nat → Int32) : Nat → Int32
  | 0 => nI 0
  | l + 1 => innI (drI p l) p l l
theorem c_driftOfPile (hX : PX G s x hp) {z : Nat} (hz : z ≤ 6) : Ct G mX2_driftOfPile 1 0 0 [.ref (G.2.2.2 + 0), .int (nI z)] hp (Qf (some (.int (drI x.2.2.2.1 z))) hp) := by
  obtain ⟨h0, h1, hgl, h2, hgw, h3, h4, h5, h6, hln, hwk, hn, hlen⟩ := hX
  generalize x.2.2.2.1 = p at *
  have inner : ∀ l, l < z → (∀ l4 : Option Value, Vm G mX2_driftOfPile 1 0 0 (Qf (some (.int (drI p z))) hp) 4 [some (.ref (G.2.2.2 + 0)), some (.int (nI z)), some (.int (drI p (l + 1))), some (.int (nI (l + 1))), l4] [] hp 0 0) → ∀ k, k ≤ l → Vm G mX2_driftOfPile 1 0 0 (Qf (some (.int (drI p z))) hp) 12 [some (.ref (G.2.2.2 + 0)), some (.int (nI z)), some (.int (innI (drI p l) p l k)), some (.int (nI l)), some (.int (nI k))] [] hp 0 0 := by
    intro l hl hout
    refine loop_up ?_ (fun k hk ih => ?_)
    · refine v_iload dX2_driftOfPile_12 rfl rfl ?_
      refine v_iload_n dX2_driftOfPile_14 rfl rfl ?_
      refine v_icmp_geN (tgt := 43) dX2_driftOfPile_15 (by decide) rfl (by omega) (by omega) (fun c15 => ?_) (fun c15 => ?_)
      · refine v_iinc1 dX2_driftOfPile_43 rfl (Nat.le_of_ble_eq_true rfl) rfl ?_
        refine v_goto (tgt := 4) dX2_driftOfPile_46 (by decide) ?_
        exact hout _
      · exact absurd c15 (by omega)
    · refine v_iload dX2_driftOfPile_12 rfl rfl ?_
      refine v_iload_n dX2_driftOfPile_14 rfl rfl ?_
      refine v_icmp_geN (tgt := 43) dX2_driftOfPile_15 (by decide) rfl (by omega) (by omega) (fun c15 => ?_) (fun c15 => ?_)
      · exact absurd c15 (by omega)
      · refine v_iload_n dX2_driftOfPile_18 rfl rfl ?_
        refine v_aload_n dX2_driftOfPile_19 rfl rfl ?_
        refine v_getf dX2_driftOfPile_20 fl_X2_29 (by assumption) (by rfl) rfl ?_
        refine v_iload_n dX2_driftOfPile_23 rfl rfl ?_
        refine v_iald _ dX2_driftOfPile_24 (by assumption) rfl (by omega) (by decide) rfl ?_
        refine v_aload_n dX2_driftOfPile_25 rfl rfl ?_
        refine v_getf dX2_driftOfPile_26 fl_X2_29 (by assumption) (by rfl) rfl ?_
        refine v_iload dX2_driftOfPile_29 rfl rfl ?_
        refine v_iald _ dX2_driftOfPile_31 (by assumption) rfl (by omega) (by decide) rfl ?_
        refine v_csf dX2_driftOfPile_32 cw_X2_190 ts_J6_compare_7cf53 (c_compare G hp (p l) (p k)) (by rfl) (by rfl) (Nat.le_of_ble_eq_true rfl) (Nat.le_of_ble_eq_true rfl) (Nat.le_of_ble_eq_true rfl) (Nat.le_of_ble_eq_true rfl) (Nat.le_of_ble_eq_true rfl) rfl ?_
        refine v_iadd dX2_driftOfPile_35 rfl ?_
        refine v_istore_n dX2_driftOfPile_36 (Nat.le_of_ble_eq_true rfl) rfl ?_
        refine v_iinc1 dX2_driftOfPile_37 rfl (Nat.le_of_ble_eq_true rfl) rfl ?_
        refine v_goto (tgt := 12) dX2_driftOfPile_40 (by decide) ?_
        exact ih
  cases z with
  | zero =>
    refine Ct.start 3 (by decide) rfl (Nat.le_of_ble_eq_true rfl) ?_
    refine v_iconst (v := nI 0) dX2_driftOfPile_0 (by decide) rfl ?_
    refine v_istore_n dX2_driftOfPile_1 (Nat.le_of_ble_eq_true rfl) rfl ?_
    refine v_iconst (v := nI 1) dX2_driftOfPile_2 (by decide) rfl ?_
    refine v_istore_n dX2_driftOfPile_3 (Nat.le_of_ble_eq_true rfl) rfl ?_
    refine v_iload_n dX2_driftOfPile_4 rfl rfl ?_
    refine v_iload_n dX2_driftOfPile_5 rfl rfl ?_
    refine v_icmp_ge (tgt := 49) dX2_driftOfPile_6 (by decide) rfl (fun _ => ?_) (fun q => absurd (by decide) q)
    refine v_iload_n dX2_driftOfPile_49 rfl rfl ?_
    exact v_iret dX2_driftOfPile_50 rfl ⟨Nat.le_of_ble_eq_true rfl, Nat.le_of_ble_eq_true rfl⟩ (⟨rfl, rfl⟩)
  | succ z =>
    have key : ∀ k, k ≤ z → ∀ (l4 : Option Value), Vm G mX2_driftOfPile 1 0 0 (Qf (some (.int (drI p (z + 1)))) hp) 4 [some (.ref (G.2.2.2 + 0)), some (.int (nI (z + 1))), some (.int (drI p (k + 1))), some (.int (nI (k + 1))), l4] [] hp 0 0 := by
      refine loop_up ?_ (fun k hk ih => ?_)
      · intro l4
        refine v_iload_n dX2_driftOfPile_4 rfl rfl ?_
        refine v_iload_n dX2_driftOfPile_5 rfl rfl ?_
        refine v_icmp_geN (tgt := 49) dX2_driftOfPile_6 (by decide) rfl (by omega) (by omega) (fun c6 => ?_) (fun c6 => ?_)
        · refine v_iload_n dX2_driftOfPile_49 rfl rfl ?_
          exact v_iret dX2_driftOfPile_50 rfl ⟨Nat.le_of_ble_eq_true rfl, Nat.le_of_ble_eq_true rfl⟩ (⟨rfl, rfl⟩)
        · exact absurd c6 (by omega)
      · intro l4
        refine v_iload_n dX2_driftOfPile_4 rfl rfl ?_
        refine v_iload_n dX2_driftOfPile_5 rfl rfl ?_
        refine v_icmp_geN (tgt := 49) dX2_driftOfPile_6 (by decide) rfl (by omega) (by omega) (fun c6 => ?_) (fun c6 => ?_)
        · exact absurd c6 (by omega)
        · refine v_iconst (v := nI 0) dX2_driftOfPile_9 (by decide) rfl ?_
          refine v_istore dX2_driftOfPile_10 (Nat.le_of_ble_eq_true rfl) rfl ?_
          exact inner (k + 1) (by omega) ih 0 (Nat.zero_le _)
    refine Ct.start 3 (by decide) rfl (Nat.le_of_ble_eq_true rfl) ?_
    refine v_iconst (v := nI 0) dX2_driftOfPile_0 (by decide) rfl ?_
    refine v_istore_n dX2_driftOfPile_1 (Nat.le_of_ble_eq_true rfl) rfl ?_
    refine v_iconst (v := nI 1) dX2_driftOfPile_2 (by decide) rfl ?_
    refine v_istore_n dX2_driftOfPile_3 (Nat.le_of_ble_eq_true rfl) rfl ?_
    exact key 0 (Nat.zero_le _) _
def dbI (m : Nat) (u : Nat → Int32) : Nat → Int32
  | 0 => nI 0
  | l + 1 => dbI m u l + u l * cmpI (nI l) (nI m)
theorem c_driftBehind {b : Nat} {u : Nat → Int32} (hu : hp[b]? = some (aI G 4 u)) (m : Nat) : Ct G mX2_driftBehind 1 0 0 [.int (nI m), .ref (G.2.2.2 + b)] hp (Qf (some (.int (dbI m u 4))) hp) := by
  have key : ∀ k, k ≤ 4 → Vm G mX2_driftBehind 1 0 0 (Qf (some (.int (dbI m u 4))) hp) 4 [some (.int (nI m)), some (.ref (G.2.2.2 + b)), some (.int (dbI m u k)), some (.int (nI k))] [] hp 0 0 := by
    refine loop_up ?_ (fun k hk ih => ?_)
    · refine v_iload_n dX2_driftBehind_4 rfl rfl ?_
      refine v_aload_n dX2_driftBehind_5 rfl rfl ?_
      refine v_alen dX2_driftBehind_6 (by assumption) rfl ?_
      refine v_icmp_geN (tgt := 28) dX2_driftBehind_7 (by decide) rfl (by omega) (by omega) (fun c7 => ?_) (fun c7 => ?_)
      · refine v_iload_n dX2_driftBehind_28 rfl rfl ?_
        exact v_iret dX2_driftBehind_29 rfl ⟨Nat.le_of_ble_eq_true rfl, Nat.le_of_ble_eq_true rfl⟩ (⟨rfl, rfl⟩)
      · exact absurd c7 (by omega)
    · refine v_iload_n dX2_driftBehind_4 rfl rfl ?_
      refine v_aload_n dX2_driftBehind_5 rfl rfl ?_
      refine v_alen dX2_driftBehind_6 (by assumption) rfl ?_
      refine v_icmp_geN (tgt := 28) dX2_driftBehind_7 (by decide) rfl (by omega) (by omega) (fun c7 => ?_) (fun c7 => ?_)
      · exact absurd c7 (by omega)
      · refine v_iload_n dX2_driftBehind_10 rfl rfl ?_
        refine v_aload_n dX2_driftBehind_11 rfl rfl ?_
        refine v_iload_n dX2_driftBehind_12 rfl rfl ?_
        refine v_iald _ dX2_driftBehind_13 (by assumption) rfl (by omega) (by decide) rfl ?_
        refine v_iload_n dX2_driftBehind_14 rfl rfl ?_
        refine v_iload_n dX2_driftBehind_15 rfl rfl ?_
        refine v_csf dX2_driftBehind_16 cw_X2_190 ts_J6_compare_7cf53 (c_compare G hp (nI k) (nI m)) (by rfl) (by rfl) (Nat.le_of_ble_eq_true rfl) (Nat.le_of_ble_eq_true rfl) (Nat.le_of_ble_eq_true rfl) (Nat.le_of_ble_eq_true rfl) (Nat.le_of_ble_eq_true rfl) rfl ?_
        refine v_imul dX2_driftBehind_19 rfl ?_
        refine v_iadd dX2_driftBehind_20 rfl ?_
        refine v_istore_n dX2_driftBehind_21 (Nat.le_of_ble_eq_true rfl) rfl ?_
        refine v_iinc1 dX2_driftBehind_22 rfl (Nat.le_of_ble_eq_true rfl) rfl ?_
        refine v_goto (tgt := 4) dX2_driftBehind_25 (by decide) ?_
        exact ih
  refine Ct.start 2 (by decide) rfl (Nat.le_of_ble_eq_true rfl) ?_
  refine v_iconst (v := nI 0) dX2_driftBehind_0 (by decide) rfl ?_
  refine v_istore_n dX2_driftBehind_1 (Nat.le_of_ble_eq_true rfl) rfl ?_
  refine v_iconst (v := nI 0) dX2_driftBehind_2 (by decide) rfl ?_
  refine v_istore_n dX2_driftBehind_3 (Nat.le_of_ble_eq_true rfl) rfl ?_
  exact key 0 (by decide)
def coT (rec : (Nat → Int32) → Int32 → Int32) (u : Nat → Int32) (w : Int32) : Nat → Int32
  | 0 => nI 0
  | k + 1 => if u k ≤ 0 then coT rec u w k else coT rec u w k + u k * rec (upd u k (u k - nI 1)) (w - dbI k (upd u k (u k - nI 1)) 4)
theorem coT_t {rec : (Nat → Int32) → Int32 → Int32} {u : Nat → Int32} {w : Int32} {k : Nat} (h : u k ≤ 0) : coT rec u w (k + 1) = coT rec u w k := if_pos h
theorem coT_f {rec : (Nat → Int32) → Int32 → Int32} {u : Nat → Int32} {w : Int32} {k : Nat} (h : ¬ u k ≤ 0) : coT rec u w (k + 1) = coT rec u w k + u k * rec (upd u k (u k - nI 1)) (w - dbI k (upd u k (u k - nI 1)) 4) := if_neg h
def coI : Nat → (Nat → Int32) → Int32 → Int32
  | 0, _, w => if w ≤ 0 then nI 1 else nI 0
  | t + 1, u, w => coT (coI t) u w 4
theorem c_countOrders {b : Nat} : ∀ (t : Nat) (hp : List va_E) (u : Nat → Int32) (w : Int32), t < 1000 → hp[b]? = some (aI G 4 u) → Ct G mX2_countOrders (t + 2) 0 0 [.ref (G.2.2.2 + b), .int (nI t), .int w] hp (Qf (some (.int (coI t u w))) hp) := by
  intro t
  induction t with
  | zero =>
    intro hp u w ht hu
    refine Ct.start 3 (by decide) rfl (Nat.le_of_ble_eq_true rfl) ?_
    refine v_iload_n dX2_countOrders_0 rfl rfl ?_
    refine v_if_gt (tgt := 14) dX2_countOrders_1 (by decide) rfl (fun q => absurd q (by decide)) (fun _ => ?_)
    refine v_iload_n dX2_countOrders_4 rfl rfl ?_
    refine v_if_gtA (tgt := 12) dX2_countOrders_5 (by decide) rfl (fun c5 => ?_) (fun c5 => ?_)
    · refine v_iconst (v := nI 0) dX2_countOrders_12 (by decide) rfl ?_
      exact v_iret dX2_countOrders_13 rfl ⟨Nat.le_of_ble_eq_true rfl, Nat.le_of_ble_eq_true rfl⟩ (⟨by first | (rw [coI, if_pos ‹_›]; done) | (rw [coI, if_neg ‹_›]; done), rfl⟩)
    · refine v_iconst (v := nI 1) dX2_countOrders_8 (by decide) rfl ?_
      refine v_goto (tgt := 13) dX2_countOrders_9 (by decide) ?_
      exact v_iret dX2_countOrders_13 rfl ⟨Nat.le_of_ble_eq_true rfl, Nat.le_of_ble_eq_true rfl⟩ (⟨by first | (rw [coI, if_pos ‹_›]; done) | (rw [coI, if_neg ‹_›]; done), rfl⟩)
  | succ t rih =>
    intro hp u w ht hu
    have key : ∀ k, k ≤ 4 → ∀ l5 : Option Value, Vm G mX2_countOrders (t + 1 + 2) 0 0 (Qf (some (.int (coI (t + 1) u w))) hp) 19 [some (.ref (G.2.2.2 + b)), some (.int (nI (t + 1))), some (.int w), some (.int (coT (coI t) u w k)), some (.int (nI k)), l5] [] hp 0 0 := by
      refine loop_up ?_ (fun k hk ih => ?_)
      · intro l5
        refine v_iload dX2_countOrders_19 rfl rfl ?_
        refine v_aload_n dX2_countOrders_21 rfl rfl ?_
        refine v_alen dX2_countOrders_22 (by assumption) rfl ?_
        refine v_icmp_geN (tgt := 78) dX2_countOrders_23 (by decide) rfl (by omega) (by omega) (fun c23 => ?_) (fun c23 => ?_)
        · refine v_iload_n dX2_countOrders_78 rfl rfl ?_
          exact v_iret dX2_countOrders_79 rfl ⟨Nat.le_of_ble_eq_true rfl, Nat.le_of_ble_eq_true rfl⟩ (⟨rfl, rfl⟩)
        · exact absurd c23 (by omega)
      · intro l5
        refine v_iload dX2_countOrders_19 rfl rfl ?_
        refine v_aload_n dX2_countOrders_21 rfl rfl ?_
        refine v_alen dX2_countOrders_22 (by assumption) rfl ?_
        refine v_icmp_geN (tgt := 78) dX2_countOrders_23 (by decide) rfl (by omega) (by omega) (fun c23 => ?_) (fun c23 => ?_)
        · exact absurd c23 (by omega)
        · refine v_aload_n dX2_countOrders_26 rfl rfl ?_
          refine v_iload dX2_countOrders_27 rfl rfl ?_
          refine v_iald _ dX2_countOrders_29 (by assumption) rfl (by omega) (by decide) rfl ?_
          refine v_istore dX2_countOrders_30 (Nat.le_of_ble_eq_true rfl) rfl ?_
          refine v_iload dX2_countOrders_32 rfl rfl ?_
          refine v_if_le (tgt := 72) dX2_countOrders_34 (by decide) rfl (fun c34 => ?_) (fun c34 => ?_)
          · first | (refine v_hp (hp' := hp) (by rw [List.set_set, upd_back]; exact set_same hu) ?_) | skip
            refine v_iinc1 dX2_countOrders_72 rfl (Nat.le_of_ble_eq_true rfl) rfl ?_
            refine v_goto (tgt := 19) dX2_countOrders_75 (by decide) ?_
            first | (rw [coT_t (k := k) ‹_›] at ih; exact ih _) | (rw [coT_f (k := k) ‹_›] at ih; exact ih _)
          · refine v_aload_n dX2_countOrders_37 rfl rfl ?_
            refine v_iload dX2_countOrders_38 rfl rfl ?_
            refine v_iload dX2_countOrders_40 rfl rfl ?_
            refine v_iconst (v := nI 1) dX2_countOrders_42 (by decide) rfl ?_
            refine v_isub dX2_countOrders_43 rfl ?_
            refine v_iast _ dX2_countOrders_44 (by assumption) rfl (by omega) (by decide) rfl ?_
            have hu' := set_get (e' := aI G 4 (upd u k (u k - nI 1))) hu
            refine v_iload_n dX2_countOrders_45 rfl rfl ?_
            refine v_iload dX2_countOrders_46 rfl rfl ?_
            refine v_aload_n dX2_countOrders_48 rfl rfl ?_
            refine v_iload_n dX2_countOrders_49 rfl rfl ?_
            refine v_iconst (v := nI 1) dX2_countOrders_50 (by decide) rfl ?_
            refine v_isubN dX2_countOrders_51 (by omega) rfl ?_
            refine v_iload_n dX2_countOrders_52 rfl rfl ?_
            refine v_iload dX2_countOrders_53 rfl rfl ?_
            refine v_aload_n dX2_countOrders_55 rfl rfl ?_
            refine v_csf dX2_countOrders_56 cw_X2_202 ts_X2_driftBehind (c_driftBehind G _ hu' k) (by rfl) (by rfl) (Nat.le_of_ble_eq_true rfl) (by simp only [rmOf]; omega) (by simp only [rmOf]; omega) (by simp only [rmOf]; omega) (by simp only [rmOf]; omega) rfl ?_
            refine v_isub dX2_countOrders_59 rfl ?_
            refine v_csf dX2_countOrders_60 cw_X2_198 ts_X2_countOrders (rih _ _ _ (by omega) hu') (by rfl) (by rfl) (Nat.le_of_ble_eq_true rfl) (by simp only [rmOf]; omega) (by simp only [rmOf]; omega) (by simp only [rmOf]; omega) (by simp only [rmOf]; omega) rfl ?_
            refine v_imul dX2_countOrders_63 rfl ?_
            refine v_iadd dX2_countOrders_64 rfl ?_
            refine v_istore_n dX2_countOrders_65 (Nat.le_of_ble_eq_true rfl) rfl ?_
            refine v_aload_n dX2_countOrders_66 rfl rfl ?_
            refine v_iload dX2_countOrders_67 rfl rfl ?_
            refine v_iload dX2_countOrders_69 rfl rfl ?_
            refine v_iast _ dX2_countOrders_71 (by assumption) rfl (by omega) (by decide) rfl ?_
            first | (refine v_hp (hp' := hp) (by rw [List.set_set, upd_back]; exact set_same hu) ?_) | skip
            refine v_iinc1 dX2_countOrders_72 rfl (Nat.le_of_ble_eq_true rfl) rfl ?_
            refine v_goto (tgt := 19) dX2_countOrders_75 (by decide) ?_
            first | (rw [coT_t (k := k) ‹_›] at ih; exact ih _) | (rw [coT_f (k := k) ‹_›] at ih; exact ih _)
    refine Ct.start 3 (by decide) rfl (Nat.le_of_ble_eq_true rfl) ?_
    refine v_iload_n dX2_countOrders_0 rfl rfl ?_
    refine v_if_gtN (tgt := 14) dX2_countOrders_1 (by decide) rfl (by omega) (fun c1 => ?_) (fun c1 => ?_)
    · refine v_iconst (v := nI 0) dX2_countOrders_14 (by decide) rfl ?_
      refine v_istore_n dX2_countOrders_15 (Nat.le_of_ble_eq_true rfl) rfl ?_
      refine v_iconst (v := nI 0) dX2_countOrders_16 (by decide) rfl ?_
      refine v_istore dX2_countOrders_17 (Nat.le_of_ble_eq_true rfl) rfl ?_
      exact key 0 (by decide) _
    · exact absurd c1 (by omega)
end CLASS3

