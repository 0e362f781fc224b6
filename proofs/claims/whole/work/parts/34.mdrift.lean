-- LOOK: by first | assumption | exact set_get (by assumption) | exact (set_ne (by decide)).trans (by assumption) | exact set_get (set_get (by assumption))
/-! THE REFERENCE: the pile, its drift, all its orders -/
theorem cmp_gt {a b : Int32} (h : ¬ a ≤ b) : cmpI a b = nI 1 := by
  have h1 := Int32.lt_iff_toInt_lt.mp (Int32.not_le.mp h)
  rw [cmpI, if_pos (Int32.le_iff_toInt_le.mpr (by omega)), if_neg (fun e => h (by rw [e]; exact Int32.le_iff_toInt_le.mpr (Int.le_refl _)))]
theorem cmp_eq {a b : Int32} (h : a ≤ b) (h' : b ≤ a) : cmpI a b = nI 0 := by
  have h1 := Int32.le_iff_toInt_le.mp h
  have h2 := Int32.le_iff_toInt_le.mp h'
  rw [cmpI, if_pos h', if_pos (Int32.toInt_inj.mp (by omega))]
theorem cmp_lt {a b : Int32} (h : ¬ b ≤ a) : cmpI a b = -1 := if_neg h
/-- x comes in at place n -/
def insL : Nat → Int32 → List Int32 → List Int32
  | 0, x, l => x :: l
  | _ + 1, x, [] => [x]
  | n + 1, x, a :: l => a :: insL n x l
theorem insL_len : ∀ (n : Nat) (x : Int32) (l : List Int32), (insL n x l).length = l.length + 1
  | 0, _, _ => rfl
  | _ + 1, _, [] => rfl
  | n + 1, x, a :: l => by simp only [insL, List.length_cons, insL_len n x l]
theorem insL_at : ∀ (n : Nat) (x : Int32) (l : List Int32) (j : Nat), n ≤ l.length → (insL n x l).getD j 0 = if j < n then l.getD j 0 else if j = n then x else l.getD (j - 1) 0
  | 0, x, l, 0, _ => rfl
  | 0, x, l, j + 1, _ => by simp [insL]
  | n + 1, x, [], j, h => absurd h (by simp)
  | n + 1, x, a :: l, 0, _ => by simp [insL]
  | n + 1, x, a :: l, j + 1, h => by
    have ih := insL_at n x l j (by simpa using h)
    simp only [insL, List.getD_cons_succ]
    rw [ih]
    by_cases h1 : j < n
    · rw [if_pos h1, if_pos (by omega)]
    · rw [if_neg h1, if_neg (show ¬ j + 1 < n + 1 by omega)]
      by_cases h2 : j = n
      · rw [if_pos h2, if_pos (show j + 1 = n + 1 by omega)]
      · rw [if_neg h2, if_neg (show ¬ j + 1 = n + 1 by omega)]
        obtain ⟨j, rfl⟩ : ∃ i, j = i + 1 := ⟨j - 1, by omega⟩
        rfl
/-- the row and the rest of the number, after i of the pile -/
def tkL (p : Nat → Int32) (num : Nat) : Nat → List Int32 × Nat
  | 0 => ([], num)
  | i + 1 => (insL ((tkL p num i).2 % (i + 1)) (p i) (tkL p num i).1, (tkL p num i).2 / (i + 1))
theorem tkL_len (p : Nat → Int32) (num : Nat) : ∀ i, (tkL p num i).1.length = i
  | 0 => rfl
  | i + 1 => by simp only [tkL, insL_len, tkL_len p num i]
theorem tkL_le (p : Nat → Int32) (num : Nat) : ∀ i, (tkL p num i).2 ≤ num
  | 0 => Nat.le_refl _
  | i + 1 => Nat.le_trans (Nat.div_le_self _ _) (tkL_le p num i)
def facN : Nat → Nat
  | 0 => 1
  | n + 1 => (n + 1) * facN n
theorem facN_le : ∀ n, n ≤ 6 → 0 < facN n ∧ facN n ≤ 720 := by decide
/-- RISES less FALLS of a list -/
def drL (L : List Int32) : Int32 := drI (fun j => L.getD j 0) L.length
section MDRIFT
variable (G : GG) (hp : List va_E) {s : ST} {y : YT}
theorem m_collect (hM : PM G s y hp) {m : Nat} (hm : m < 3) : Ct G mX3_collect 0 0 0 [.ref (G.2.2.2 + 31), .int (nI m)] hp (fun r h => r = none ∧ ∃ y', PM G s y' h ∧ FrM hp h ∧ y'.2.2.2.2.2 = nI (pilL s m s.n).length ∧ PilP y'.2.2.1.1 (pilL s m s.n)) := by
  have key : ∀ k, k ≤ s.n → ∀ y h, PM G s y h → FrM hp h → y.2.2.2.2.2 = nI (pilL s m k).length → PilP y.2.2.1.1 (pilL s m k) → Vm G mX3_collect 0 0 0 (fun r h => r = none ∧ ∃ y', PM G s y' h ∧ FrM hp h ∧ y'.2.2.2.2.2 = nI (pilL s m s.n).length ∧ PilP y'.2.2.1.1 (pilL s m s.n)) 7 [some (.ref (G.2.2.2 + 31)), some (.int (nI m)), some (.int (nI k))] [] h 0 0 := by
    refine loop_up ?_ (fun k hk ih => ?_)
    · intro y h hM hF hmn hpl
      obtain ⟨m0, m1, m2, m3, m4, m5, m6, m7, m8, m9, m10⟩ := hM.pr
      obtain ⟨hK, hF', hWf, hMk, hTr, hn⟩ := hM.pp
      refine v_iload_n dX3_collect_7 rfl rfl ?_
      refine v_aload_n dX3_collect_8 rfl rfl ?_
      refine v_getf dX3_collect_9 fl_X3_77 (by first | assumption | exact set_get (by assumption) | exact (set_ne (by decide)).trans (by assumption) | exact set_get (set_get (by assumption))) (by rfl) rfl ?_
      refine v_icmp_geN (tgt := 77) dX3_collect_12 (by decide) rfl (by omega) (by omega) (fun c12 => ?_) (fun c12 => ?_)
      · exact v_vret dX3_collect_77 rfl ⟨Nat.le_of_ble_eq_true rfl, Nat.le_of_ble_eq_true rfl⟩ (⟨rfl, y, hM, hF, hmn, hpl⟩)
      · exact absurd c12 (by omega)
    · intro y h hM hF hmn hpl
      obtain ⟨m0, m1, m2, m3, m4, m5, m6, m7, m8, m9, m10⟩ := hM.pr
      obtain ⟨hK, hF', hWf, hMk, hTr, hn⟩ := hM.pp
      have hle := pilL_le s m k
      have hfull : 6 ≤ (pilL s m k).length → pilL s m s.n = pilL s m k := fun q => by
        have := pilL_full q (s.n - k)
        rwa [show k + (s.n - k) = s.n by omega] at this
      refine v_iload_n dX3_collect_7 rfl rfl ?_
      refine v_aload_n dX3_collect_8 rfl rfl ?_
      refine v_getf dX3_collect_9 fl_X3_77 (by first | assumption | exact set_get (by assumption) | exact (set_ne (by decide)).trans (by assumption) | exact set_get (set_get (by assumption))) (by rfl) rfl ?_
      refine v_icmp_geN (tgt := 77) dX3_collect_12 (by decide) rfl (by omega) (by omega) (fun c12 => ?_) (fun c12 => ?_)
      · exact absurd c12 (by omega)
      · refine v_aload_n dX3_collect_15 rfl rfl ?_
        refine v_getf dX3_collect_16 fl_X3_117 (by first | assumption | exact set_get (by assumption) | exact (set_ne (by decide)).trans (by assumption) | exact set_get (set_get (by assumption))) (by rfl) rfl ?_
        refine v_top (y := nI (pilL s m k).length) (hmn) ?_
        refine v_bipush (v := nI 6) dX3_collect_19 (by decide) rfl ?_
        refine v_icmp_geN (tgt := 77) dX3_collect_21 (by decide) rfl (by omega) (by omega) (fun c21 => ?_) (fun c21 => ?_)
        · exact v_vret dX3_collect_77 rfl ⟨Nat.le_of_ble_eq_true rfl, Nat.le_of_ble_eq_true rfl⟩ (⟨rfl, y, hM, hF, by rw [hfull c21]; exact hmn, by rw [hfull c21]; exact hpl⟩)
        · refine v_aload_n dX3_collect_24 rfl rfl ?_
          refine v_getf dX3_collect_25 fl_X3_28 (by first | assumption | exact set_get (by assumption) | exact (set_ne (by decide)).trans (by assumption) | exact set_get (set_get (by assumption))) (by rfl) rfl ?_
          refine v_bipush (v := nI 12) dX3_collect_28 (by decide) rfl ?_
          refine v_iload_n dX3_collect_30 rfl rfl ?_
          refine v_imulN dX3_collect_31 rfl ?_
          refine v_iload_n dX3_collect_32 rfl rfl ?_
          refine v_iaddN dX3_collect_33 rfl ?_
          refine v_iald _ dX3_collect_34 (by first | assumption | exact set_get (by assumption) | exact (set_ne (by decide)).trans (by assumption) | exact set_get (set_get (by assumption))) rfl (by omega) (by decide) rfl ?_
          refine v_top (y := s.mr k m) ((hMk m hm k (by omega)).trans (if_pos hk)) ?_
          refine v_sipush (v := (-900)) dX3_collect_35 (by decide) rfl ?_
          refine v_icmp_eq (tgt := 71) dX3_collect_38 (by decide) rfl (fun c38 => ?_) (fun c38 => ?_)
          · refine v_iinc1 dX3_collect_71 rfl (Nat.le_of_ble_eq_true rfl) rfl ?_
            refine v_goto (tgt := 7) dX3_collect_74 (by decide) ?_
            first | (rw [pilL_f (k := k) (fun q => q.1 c38)] at ih; exact ih y h hM hF hmn hpl) | (rw [pilL_t (k := k) ⟨c38, c21⟩, List.length_append] at ih; exact ih _ _ (PM.of ((hM.pr.setPl _).setO s.n s.tc _ _ _) hM.pp) ((hF.set (by omega)).set (by omega)) rfl (hpl.push _))
          · refine v_aload_n dX3_collect_41 rfl rfl ?_
            refine v_getf dX3_collect_42 fl_X3_34 (by first | assumption | exact set_get (by assumption) | exact (set_ne (by decide)).trans (by assumption) | exact set_get (set_get (by assumption))) (by rfl) rfl ?_
            refine v_aload_n dX3_collect_45 rfl rfl ?_
            refine v_getf dX3_collect_46 fl_X3_117 (by first | assumption | exact set_get (by assumption) | exact (set_ne (by decide)).trans (by assumption) | exact set_get (set_get (by assumption))) (by rfl) rfl ?_
            refine v_top (y := nI (pilL s m k).length) (hmn) ?_
            refine v_aload_n dX3_collect_49 rfl rfl ?_
            refine v_getf dX3_collect_50 fl_X3_28 (by first | assumption | exact set_get (by assumption) | exact (set_ne (by decide)).trans (by assumption) | exact set_get (set_get (by assumption))) (by rfl) rfl ?_
            refine v_bipush (v := nI 12) dX3_collect_53 (by decide) rfl ?_
            refine v_iload_n dX3_collect_55 rfl rfl ?_
            refine v_imulN dX3_collect_56 rfl ?_
            refine v_iload_n dX3_collect_57 rfl rfl ?_
            refine v_iaddN dX3_collect_58 rfl ?_
            refine v_iald _ dX3_collect_59 (by first | assumption | exact set_get (by assumption) | exact (set_ne (by decide)).trans (by assumption) | exact set_get (set_get (by assumption))) rfl (by omega) (by decide) rfl ?_
            refine v_top (y := s.mr k m) ((hMk m hm k (by omega)).trans (if_pos hk)) ?_
            refine v_iast _ dX3_collect_60 (by first | assumption | exact set_get (by assumption) | exact (set_ne (by decide)).trans (by assumption) | exact set_get (set_get (by assumption))) rfl (by omega) (by decide) rfl ?_
            refine v_aload_n dX3_collect_61 rfl rfl ?_
            refine v_dup dX3_collect_62 rfl rfl ?_
            refine v_getf dX3_collect_63 fl_X3_117 (by first | assumption | exact set_get (by assumption) | exact (set_ne (by decide)).trans (by assumption) | exact set_get (set_get (by assumption))) (by rfl) rfl ?_
            refine v_top (y := nI (pilL s m k).length) (hmn) ?_
            refine v_iconst (v := nI 1) dX3_collect_66 (by decide) rfl ?_
            refine v_iaddN dX3_collect_67 rfl ?_
            refine v_putf dX3_collect_68 fl_X3_117 (by first | assumption | exact set_get (by assumption) | exact (set_ne (by decide)).trans (by assumption) | exact set_get (set_get (by assumption))) (by rfl) (by rfl) (by exact Nat.le_of_ble_eq_true rfl) rfl ?_
            refine v_iinc1 dX3_collect_71 rfl (Nat.le_of_ble_eq_true rfl) rfl ?_
            refine v_goto (tgt := 7) dX3_collect_74 (by decide) ?_
            first | (rw [pilL_f (k := k) (fun q => q.1 c38)] at ih; exact ih y h hM hF hmn hpl) | (rw [pilL_t (k := k) ⟨c38, c21⟩, List.length_append] at ih; exact ih _ _ (PM.of ((hM.pr.setPl _).setO s.n s.tc _ _ _) hM.pp) ((hF.set (by omega)).set (by omega)) rfl (hpl.push _))
  obtain ⟨m0, m1, m2, m3, m4, m5, m6, m7, m8, m9, m10⟩ := hM.pr
  refine Ct.start 1 (by decide) rfl (Nat.le_of_ble_eq_true rfl) ?_
  refine v_aload_n dX3_collect_0 rfl rfl ?_
  refine v_iconst (v := nI 0) dX3_collect_1 (by decide) rfl ?_
  refine v_putf dX3_collect_2 fl_X3_117 (by first | assumption | exact set_get (by assumption) | exact (set_ne (by decide)).trans (by assumption) | exact set_get (set_get (by assumption))) (by rfl) (by rfl) (by exact Nat.le_of_ble_eq_true rfl) rfl ?_
  refine v_iconst (v := nI 0) dX3_collect_5 (by decide) rfl ?_
  refine v_istore_n dX3_collect_6 (Nat.le_of_ble_eq_true rfl) rfl ?_
  exact key 0 (Nat.zero_le _) _ _ (PM.of (hM.pr.setO s.n s.tc _ _ _) hM.pp) (FrM.rf.set (by omega)) rfl (fun j hj => absurd hj (by simp [pilL]))
theorem m_drifts (hM : PM G s y hp) {z : Nat} (hz : z ≤ 6) (hmn : y.2.2.2.2.2 = nI z) : Ct G mX3_drifts 0 0 0 [.ref (G.2.2.2 + 31)] hp (Qf (some (.int (drI y.2.2.1.2 z))) hp) := by
  obtain ⟨m0, m1, m2, m3, m4, m5, m6, m7, m8, m9, m10⟩ := hM.pr
  generalize hq : y.2.2.1.2 = p at *
  have inner : ∀ l, l < z → (∀ l4 : Option Value, Vm G mX3_drifts 0 0 0 (Qf (some (.int (drI p z))) hp) 4 [some (.ref (G.2.2.2 + 31)), some (.int (drI p (l + 1))), some (.int (nI (l + 1))), l4] [] hp 0 0) → ∀ k, k ≤ l → Vm G mX3_drifts 0 0 0 (Qf (some (.int (drI p z))) hp) 14 [some (.ref (G.2.2.2 + 31)), some (.int (innI (drI p l) p l k)), some (.int (nI l)), some (.int (nI k))] [] hp 0 0 := by
    intro l hl hout
    refine loop_up ?_ (fun k hk ih => ?_)
    · refine v_iload_n dX3_drifts_14 rfl rfl ?_
      refine v_iload_n dX3_drifts_15 rfl rfl ?_
      refine v_icmp_geN (tgt := 67) dX3_drifts_16 (by decide) rfl (by omega) (by omega) (fun c16 => ?_) (fun c16 => ?_)
      · refine v_iinc1 dX3_drifts_67 rfl (Nat.le_of_ble_eq_true rfl) rfl ?_
        refine v_goto (tgt := 4) dX3_drifts_70 (by decide) ?_
        exact hout _
      · exact absurd c16 (by omega)
    · refine v_iload_n dX3_drifts_14 rfl rfl ?_
      refine v_iload_n dX3_drifts_15 rfl rfl ?_
      refine v_icmp_geN (tgt := 67) dX3_drifts_16 (by decide) rfl (by omega) (by omega) (fun c16 => ?_) (fun c16 => ?_)
      · exact absurd c16 (by omega)
      · refine v_iload_n dX3_drifts_19 rfl rfl ?_
        refine v_aload_n dX3_drifts_20 rfl rfl ?_
        refine v_getf dX3_drifts_21 fl_X3_37 (by first | assumption | exact set_get (by assumption) | exact (set_ne (by decide)).trans (by assumption) | exact set_get (set_get (by assumption))) (by rfl) rfl ?_
        refine v_iload_n dX3_drifts_24 rfl rfl ?_
        refine v_iald _ dX3_drifts_25 (by first | assumption | exact set_get (by assumption) | exact (set_ne (by decide)).trans (by assumption) | exact set_get (set_get (by assumption))) rfl (by omega) (by decide) rfl ?_
        refine v_aload_n dX3_drifts_26 rfl rfl ?_
        refine v_getf dX3_drifts_27 fl_X3_37 (by first | assumption | exact set_get (by assumption) | exact (set_ne (by decide)).trans (by assumption) | exact set_get (set_get (by assumption))) (by rfl) rfl ?_
        refine v_iload_n dX3_drifts_30 rfl rfl ?_
        refine v_iald _ dX3_drifts_31 (by first | assumption | exact set_get (by assumption) | exact (set_ne (by decide)).trans (by assumption) | exact set_get (set_get (by assumption))) rfl (by omega) (by decide) rfl ?_
        refine v_icmp_le (tgt := 39) dX3_drifts_32 (by decide) rfl (fun c32 => ?_) (fun c32 => ?_)
        · refine v_aload_n dX3_drifts_39 rfl rfl ?_
          refine v_getf dX3_drifts_40 fl_X3_37 (by first | assumption | exact set_get (by assumption) | exact (set_ne (by decide)).trans (by assumption) | exact set_get (set_get (by assumption))) (by rfl) rfl ?_
          refine v_iload_n dX3_drifts_43 rfl rfl ?_
          refine v_iald _ dX3_drifts_44 (by first | assumption | exact set_get (by assumption) | exact (set_ne (by decide)).trans (by assumption) | exact set_get (set_get (by assumption))) rfl (by omega) (by decide) rfl ?_
          refine v_aload_n dX3_drifts_45 rfl rfl ?_
          refine v_getf dX3_drifts_46 fl_X3_37 (by first | assumption | exact set_get (by assumption) | exact (set_ne (by decide)).trans (by assumption) | exact set_get (set_get (by assumption))) (by rfl) rfl ?_
          refine v_iload_n dX3_drifts_49 rfl rfl ?_
          refine v_iald _ dX3_drifts_50 (by first | assumption | exact set_get (by assumption) | exact (set_ne (by decide)).trans (by assumption) | exact set_get (set_get (by assumption))) rfl (by omega) (by decide) rfl ?_
          refine v_icmp_ge (tgt := 58) dX3_drifts_51 (by decide) rfl (fun c51 => ?_) (fun c51 => ?_)
          · refine v_iconst (v := nI 0) dX3_drifts_58 (by decide) rfl ?_
            refine v_iadd dX3_drifts_59 rfl ?_
            refine v_istore_n dX3_drifts_60 (Nat.le_of_ble_eq_true rfl) rfl ?_
            refine v_iinc1 dX3_drifts_61 rfl (Nat.le_of_ble_eq_true rfl) rfl ?_
            refine v_goto (tgt := 14) dX3_drifts_64 (by decide) ?_
            first | (rw [show innI (drI p l) p l (k + 1) = innI (drI p l) p l k + cmpI (p l) (p k) from rfl, cmp_gt ‹_›] at ih; exact ih) | (rw [show innI (drI p l) p l (k + 1) = innI (drI p l) p l k + cmpI (p l) (p k) from rfl, cmp_eq c32 c51] at ih; exact ih) | (rw [show innI (drI p l) p l (k + 1) = innI (drI p l) p l k + cmpI (p l) (p k) from rfl, cmp_lt c51] at ih; exact ih)
          · refine v_iconst (v := (-1)) dX3_drifts_54 (by decide) rfl ?_
            refine v_goto (tgt := 59) dX3_drifts_55 (by decide) ?_
            refine v_iadd dX3_drifts_59 rfl ?_
            refine v_istore_n dX3_drifts_60 (Nat.le_of_ble_eq_true rfl) rfl ?_
            refine v_iinc1 dX3_drifts_61 rfl (Nat.le_of_ble_eq_true rfl) rfl ?_
            refine v_goto (tgt := 14) dX3_drifts_64 (by decide) ?_
            first | (rw [show innI (drI p l) p l (k + 1) = innI (drI p l) p l k + cmpI (p l) (p k) from rfl, cmp_gt ‹_›] at ih; exact ih) | (rw [show innI (drI p l) p l (k + 1) = innI (drI p l) p l k + cmpI (p l) (p k) from rfl, cmp_eq c32 c51] at ih; exact ih) | (rw [show innI (drI p l) p l (k + 1) = innI (drI p l) p l k + cmpI (p l) (p k) from rfl, cmp_lt c51] at ih; exact ih)
        · refine v_iconst (v := nI 1) dX3_drifts_35 (by decide) rfl ?_
          refine v_goto (tgt := 59) dX3_drifts_36 (by decide) ?_
          refine v_iadd dX3_drifts_59 rfl ?_
          refine v_istore_n dX3_drifts_60 (Nat.le_of_ble_eq_true rfl) rfl ?_
          refine v_iinc1 dX3_drifts_61 rfl (Nat.le_of_ble_eq_true rfl) rfl ?_
          refine v_goto (tgt := 14) dX3_drifts_64 (by decide) ?_
          first | (rw [show innI (drI p l) p l (k + 1) = innI (drI p l) p l k + cmpI (p l) (p k) from rfl, cmp_gt ‹_›] at ih; exact ih) | (rw [show innI (drI p l) p l (k + 1) = innI (drI p l) p l k + cmpI (p l) (p k) from rfl, cmp_eq c32 c51] at ih; exact ih) | (rw [show innI (drI p l) p l (k + 1) = innI (drI p l) p l k + cmpI (p l) (p k) from rfl, cmp_lt c51] at ih; exact ih)
  have key : ∀ k, k ≤ z → ∀ (l4 : Option Value), Vm G mX3_drifts 0 0 0 (Qf (some (.int (drI p z))) hp) 4 [some (.ref (G.2.2.2 + 31)), some (.int (drI p k)), some (.int (nI k)), l4] [] hp 0 0 := by
    refine loop_up ?_ (fun k hk ih => ?_)
    · intro l4
      refine v_iload_n dX3_drifts_4 rfl rfl ?_
      refine v_aload_n dX3_drifts_5 rfl rfl ?_
      refine v_getf dX3_drifts_6 fl_X3_117 (by first | assumption | exact set_get (by assumption) | exact (set_ne (by decide)).trans (by assumption) | exact set_get (set_get (by assumption))) (by rfl) rfl ?_
      refine v_top (y := nI z) (hmn) ?_
      refine v_icmp_geN (tgt := 73) dX3_drifts_9 (by decide) rfl (by omega) (by omega) (fun c9 => ?_) (fun c9 => ?_)
      · refine v_iload_n dX3_drifts_73 rfl rfl ?_
        exact v_iret dX3_drifts_74 rfl ⟨Nat.le_of_ble_eq_true rfl, Nat.le_of_ble_eq_true rfl⟩ (⟨rfl, rfl⟩)
      · exact absurd c9 (by omega)
    · intro l4
      refine v_iload_n dX3_drifts_4 rfl rfl ?_
      refine v_aload_n dX3_drifts_5 rfl rfl ?_
      refine v_getf dX3_drifts_6 fl_X3_117 (by first | assumption | exact set_get (by assumption) | exact (set_ne (by decide)).trans (by assumption) | exact set_get (set_get (by assumption))) (by rfl) rfl ?_
      refine v_top (y := nI z) (hmn) ?_
      refine v_icmp_geN (tgt := 73) dX3_drifts_9 (by decide) rfl (by omega) (by omega) (fun c9 => ?_) (fun c9 => ?_)
      · exact absurd c9 (by omega)
      · refine v_iconst (v := nI 0) dX3_drifts_12 (by decide) rfl ?_
        refine v_istore_n dX3_drifts_13 (Nat.le_of_ble_eq_true rfl) rfl ?_
        exact inner k hk ih 0 (Nat.zero_le _)
  refine Ct.start 3 (by decide) rfl (Nat.le_of_ble_eq_true rfl) ?_
  refine v_iconst (v := nI 0) dX3_drifts_0 (by decide) rfl ?_
  refine v_istore_n dX3_drifts_1 (Nat.le_of_ble_eq_true rfl) rfl ?_
  refine v_iconst (v := nI 0) dX3_drifts_2 (by decide) rfl ?_
  refine v_istore_n dX3_drifts_3 (Nat.le_of_ble_eq_true rfl) rfl ?_
  exact key 0 (Nat.zero_le _) _
/-- while a place is made: what stood from at on has gone one up, down to k -/
def shf (r : Nat → Int32) (k i : Nat) : Nat → Int32 := fun j => if k < j ∧ j ≤ i then r (j - 1) else r j
theorem shf_step (r : Nat → Int32) {k i : Nat} (hk : k + 1 ≤ i) : upd (shf r (k + 1) i) (k + 1) (shf r (k + 1) i k) = shf r k i := by
  funext j
  rw [upd_at]
  unfold shf
  by_cases h1 : j = k + 1
  · subst h1
    rw [if_pos rfl, if_neg (by omega), if_pos ⟨by omega, hk⟩]
    rfl
  · rw [if_neg h1]
    by_cases h2 : k + 1 < j ∧ j ≤ i
    · rw [if_pos h2, if_pos ⟨by omega, h2.2⟩]
    · rw [if_neg h2]
      by_cases h3 : k < j ∧ j ≤ i
      · exact absurd h3 (by omega)
      · rw [if_neg h3]
theorem shf_id (r : Nat → Int32) (i : Nat) : shf r i i = r := by
  funext j
  exact if_neg (by omega)
theorem m_take (hM : PM G s y hp) {z num : Nat} (hz : z ≤ 6) (hnum : num < 2 ^ 31) (hmn : y.2.2.2.2.2 = nI z) : Ct G mX3_take 0 0 0 [.ref (G.2.2.2 + 31), .int (nI num)] hp (fun r h => r = none ∧ ∃ f, h = hp.set 41 (aI G 6 f) ∧ PilP f (tkL y.2.2.1.1 num z).1) := by
  generalize hq : y.2.2.1.1 = p at *
  have key : ∀ i, i ≤ z → ∀ f, PilP f (tkL p num i).1 → ∀ l4 l5 : Option Value, Vm G mX3_take 0 0 0 (fun r h => r = none ∧ ∃ f, h = hp.set 41 (aI G 6 f) ∧ PilP f (tkL p num z).1) 4 [some (.ref (G.2.2.2 + 31)), some (.int (nI num)), some (.int (nI (tkL p num i).2)), some (.int (nI i)), l4, l5] [] (hp.set 41 (aI G 6 f)) 0 0 := by
    refine loop_up ?_ (fun i hi ih => ?_)
    · intro f hf l4 l5
      obtain ⟨m0, m1, m2, m3, m4, m5, m6, m7, m8, m9, m10⟩ := hM.pr.setRw f
      refine v_iload_n dX3_take_4 rfl rfl ?_
      refine v_aload_n dX3_take_5 rfl rfl ?_
      refine v_getf dX3_take_6 fl_X3_117 (by first | assumption | exact set_get (by assumption) | exact (set_ne (by decide)).trans (by assumption) | exact set_get (set_get (by assumption))) (by rfl) rfl ?_
      refine v_top (y := nI z) (hmn) ?_
      refine v_icmp_geN (tgt := 76) dX3_take_9 (by decide) rfl (by omega) (by omega) (fun c9 => ?_) (fun c9 => ?_)
      · exact v_vret dX3_take_76 rfl ⟨Nat.le_of_ble_eq_true rfl, Nat.le_of_ble_eq_true rfl⟩ (⟨rfl, f, rfl, hf⟩)
      · exact absurd c9 (by omega)
    · intro f hf l4 l5
      have hle := tkL_le p num i
      have hlen := tkL_len p num i
      have hat : (tkL p num i).2 % (i + 1) ≤ i := by have := Nat.mod_lt (tkL p num i).2 (show 0 < i + 1 by omega); omega
      have hdiv := Nat.div_le_self (tkL p num i).2 (i + 1)
      have ih2 := fun f hf => ih f hf
      simp only [tkL] at ih2
      generalize (tkL p num i).2 = rest at *
      generalize hate : rest % (i + 1) = at' at *
      have inner : ∀ d k, k = at' + d → k ≤ i → Vm G mX3_take 0 0 0 (fun r h => r = none ∧ ∃ f, h = hp.set 41 (aI G 6 f) ∧ PilP f (tkL p num z).1) 28 [some (.ref (G.2.2.2 + 31)), some (.int (nI num)), some (.int (nI (rest / (i + 1)))), some (.int (nI i)), some (.int (nI at')), some (.int (nI k))] [] (hp.set 41 (aI G 6 (shf f k i))) 0 0 := by
        intro d
        induction d with
        | zero =>
          intro k hk hki
          obtain rfl : k = at' := hk
          obtain ⟨m0, m1, m2, m3, m4, m5, m6, m7, m8, m9, m10⟩ := hM.pr.setRw (shf f k i)
          refine v_iload dX3_take_28 rfl rfl ?_
          refine v_iload dX3_take_30 rfl rfl ?_
          refine v_icmp_leN (tgt := 57) dX3_take_32 (by decide) rfl (by omega) (by omega) (fun c32 => ?_) (fun c32 => ?_)
          · refine v_aload_n dX3_take_57 rfl rfl ?_
            refine v_getf dX3_take_58 fl_X3_37 (by first | assumption | exact set_get (by assumption) | exact (set_ne (by decide)).trans (by assumption) | exact set_get (set_get (by assumption))) (by rfl) rfl ?_
            refine v_iload dX3_take_61 rfl rfl ?_
            refine v_aload_n dX3_take_63 rfl rfl ?_
            refine v_getf dX3_take_64 fl_X3_34 (by first | assumption | exact set_get (by assumption) | exact (set_ne (by decide)).trans (by assumption) | exact set_get (set_get (by assumption))) (by rfl) rfl ?_
            refine v_iload_n dX3_take_67 rfl rfl ?_
            refine v_iald _ dX3_take_68 (by first | assumption | exact set_get (by assumption) | exact (set_ne (by decide)).trans (by assumption) | exact set_get (set_get (by assumption))) rfl (by omega) (by decide) rfl ?_
            refine v_top (y := p i) (by rw [← hq]) ?_
            refine v_iast _ dX3_take_69 (by first | assumption | exact set_get (by assumption) | exact (set_ne (by decide)).trans (by assumption) | exact set_get (set_get (by assumption))) rfl (by omega) (by decide) rfl ?_
            refine v_iinc1 dX3_take_70 rfl (Nat.le_of_ble_eq_true rfl) rfl ?_
            refine v_goto (tgt := 4) dX3_take_73 (by decide) ?_
            refine v_hp (List.set_set ..) ?_
            exact ih2 _ (fun j hj => by
                          rw [insL_len, hlen] at hj
                          show upd (shf f k i) k (p i) j = _
                          rw [insL_at _ _ _ _ (by omega), upd_at]
                          unfold shf
                          by_cases j1 : j = k
                          · rw [if_pos j1, if_neg (show ¬ j < k by omega), if_pos j1]
                          · rw [if_neg j1]
                            by_cases j2 : j < k
                            · rw [if_neg (show ¬ (k < j ∧ j ≤ i) by omega), if_pos j2]; exact hf j (by omega)
                            · rw [if_pos (show k < j ∧ j ≤ i from ⟨by omega, by omega⟩), if_neg j2, if_neg j1]; exact hf (j - 1) (by omega)) _ _
          · exact absurd c32 (by omega)
        | succ d dih =>
          intro k hk hki
          obtain ⟨k, rfl⟩ : ∃ e, k = e + 1 := ⟨k - 1, by omega⟩
          obtain ⟨m0, m1, m2, m3, m4, m5, m6, m7, m8, m9, m10⟩ := hM.pr.setRw (shf f (k + 1) i)
          refine v_iload dX3_take_28 rfl rfl ?_
          refine v_iload dX3_take_30 rfl rfl ?_
          refine v_icmp_leN (tgt := 57) dX3_take_32 (by decide) rfl (by omega) (by omega) (fun c32 => ?_) (fun c32 => ?_)
          · exact absurd c32 (by omega)
          · refine v_aload_n dX3_take_35 rfl rfl ?_
            refine v_getf dX3_take_36 fl_X3_37 (by first | assumption | exact set_get (by assumption) | exact (set_ne (by decide)).trans (by assumption) | exact set_get (set_get (by assumption))) (by rfl) rfl ?_
            refine v_iload dX3_take_39 rfl rfl ?_
            refine v_aload_n dX3_take_41 rfl rfl ?_
            refine v_getf dX3_take_42 fl_X3_37 (by first | assumption | exact set_get (by assumption) | exact (set_ne (by decide)).trans (by assumption) | exact set_get (set_get (by assumption))) (by rfl) rfl ?_
            refine v_iload dX3_take_45 rfl rfl ?_
            refine v_iconst (v := nI 1) dX3_take_47 (by decide) rfl ?_
            refine v_isubN dX3_take_48 (by omega) rfl ?_
            refine v_iald _ dX3_take_49 (by first | assumption | exact set_get (by assumption) | exact (set_ne (by decide)).trans (by assumption) | exact set_get (set_get (by assumption))) rfl (by omega) (by decide) rfl ?_
            refine v_iast _ dX3_take_50 (by first | assumption | exact set_get (by assumption) | exact (set_ne (by decide)).trans (by assumption) | exact set_get (set_get (by assumption))) rfl (by omega) (by decide) rfl ?_
            refine v_iincM dX3_take_51 rfl (Nat.le_of_ble_eq_true rfl) rfl ?_
            refine v_goto (tgt := 28) dX3_take_54 (by decide) ?_
            exact v_hp ((List.set_set ..).trans (by rw [show k + 1 - 1 = k from rfl, shf_step f hki])) (dih k (by omega) (by omega))
      obtain ⟨m0, m1, m2, m3, m4, m5, m6, m7, m8, m9, m10⟩ := hM.pr.setRw f
      refine v_iload_n dX3_take_4 rfl rfl ?_
      refine v_aload_n dX3_take_5 rfl rfl ?_
      refine v_getf dX3_take_6 fl_X3_117 (by first | assumption | exact set_get (by assumption) | exact (set_ne (by decide)).trans (by assumption) | exact set_get (set_get (by assumption))) (by rfl) rfl ?_
      refine v_top (y := nI z) (hmn) ?_
      refine v_icmp_geN (tgt := 76) dX3_take_9 (by decide) rfl (by omega) (by omega) (fun c9 => ?_) (fun c9 => ?_)
      · exact absurd c9 (by omega)
      · refine v_iload_n dX3_take_12 rfl rfl ?_
        refine v_iload_n dX3_take_13 rfl rfl ?_
        refine v_iconst (v := nI 1) dX3_take_14 (by decide) rfl ?_
        refine v_iaddN dX3_take_15 rfl ?_
        refine v_iremN dX3_take_16 (by omega) (by omega) (by omega) rfl ?_
        refine v_top (y := nI at') (by rw [hate]) ?_
        refine v_istore dX3_take_17 (Nat.le_of_ble_eq_true rfl) rfl ?_
        refine v_iload_n dX3_take_19 rfl rfl ?_
        refine v_iload_n dX3_take_20 rfl rfl ?_
        refine v_iconst (v := nI 1) dX3_take_21 (by decide) rfl ?_
        refine v_iaddN dX3_take_22 rfl ?_
        refine v_idivN dX3_take_23 (by omega) (by omega) (by omega) rfl ?_
        refine v_istore_n dX3_take_24 (Nat.le_of_ble_eq_true rfl) rfl ?_
        refine v_iload_n dX3_take_25 rfl rfl ?_
        refine v_istore dX3_take_26 (Nat.le_of_ble_eq_true rfl) rfl ?_
        exact v_hp (by rw [shf_id]) (inner (i - at') i (by omega) (Nat.le_refl _))
  obtain ⟨m0, m1, m2, m3, m4, m5, m6, m7, m8, m9, m10⟩ := hM.pr
  refine Ct.start 4 (by decide) rfl (Nat.le_of_ble_eq_true rfl) ?_
  refine v_iload_n dX3_take_0 rfl rfl ?_
  refine v_istore_n dX3_take_1 (Nat.le_of_ble_eq_true rfl) rfl ?_
  refine v_iconst (v := nI 0) dX3_take_2 (by decide) rfl ?_
  refine v_istore_n dX3_take_3 (Nat.le_of_ble_eq_true rfl) rfl ?_
  exact v_hp (set_same m10).symm (key 0 (Nat.zero_le _) _ (fun j hj => absurd hj (by simp [tkL])) _ _)
end MDRIFT

