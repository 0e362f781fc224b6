-- LOOK: by first | assumption | exact hG0 hl .. | exact set_get (by assumption) | exact (set_ne (by decide)).trans (by assumption)
/-! A NEW OBJECT OF THE REFERENCE -/
theorem hS0 {h0 : List va_E} (hl : h0.length = 31) (e e' : va_E) (t : List va_E) : (h0 ++ e :: t).set 31 e' = h0 ++ e' :: t := by
  rw [← hl]; exact hA0 h0 e e' t
theorem hG0 {h0 : List va_E} (hl : h0.length = 31) (e : va_E) (t : List va_E) : (h0 ++ e :: t)[31]? = some e := by
  rw [← hl]; exact hB0 h0 e t
theorem hGi {h0 : List va_E} (hl : h0.length = 31) (i : Nat) (t : List va_E) : (h0 ++ t)[31 + i]? = t[i]? := by
  rw [List.getElem?_append_right (by omega), show 31 + i - h0.length = i by omega]
abbrev y0 : YT := ((fun _ => 0, fun _ => 0, fun _ => 0, fun _ => 0, fun _ => 0), (fun _ => 0, fun _ => 0, fun _ => 0), (fun _ => 0, fun _ => 0), (0, 0, 0))
def s0 : ST := (fun _ => nI 0, fun j => nI (j % 4), fun _ => nI 1, fun _ => lF0, fun _ => lT0, 0, fun _ _ => 0, fun _ _ => 0, fun _ => 0, 0)
abbrev iniA (y : YT) (k : Nat) : Prop := (∀ j, y.1.1 j = 0) ∧ (∀ j, j < k → y.1.2.1 j = nI (j % 4) ∧ y.1.2.2.1 j = nI 1) ∧ (∀ j, j < k → ∀ q, q < 4 → y.1.2.2.2.1 (4 * j + q) = lF0 q ∧ y.1.2.2.2.2 (4 * j + q) = lT0 q)
def obZ : va_E := ob 3 [.null, .null, .null, .null, .null, .int 0, .null, .null, .null, .long 0, .int 0, .int 0, .int 0, .null, .null]
theorem lF_at : ∀ q, q < 4 → (q = 0 → lF0 q = nI 0) ∧ (¬ q = 0 → lF0 q = nI (3 * q - 2)) ∧ lT0 q = nI (3 * q) := by decide
section MINIT
variable (G : GG)
abbrev QI (G : GG) (h0 : List va_E) : QQ := fun r h => r = none ∧ (∃ y, PM G s0 y h) ∧ (∀ i, i < 31 → h[i]? = h0[i]?) ∧ h.length = 42
set_option maxHeartbeats 1000000 in
theorem m_init (h0 : List va_E) (hl : h0.length = 31) : Ct G mX3_init 1 10 196 [.ref (G.2.2.2 + 31)] (h0 ++ [obZ]) (QI G h0) := by
  have key3 : ∀ k, k ≤ 12 → ∀ y h, PR G 0 0 y h → (∀ i, i < 31 → h[i]? = h0[i]?) → h.length = 42 → iniA y 8 → (∀ i, i < 36 → y.2.1.2.1 i = -900) → (∀ i, i < k → y.2.1.2.2 i = -900) → ∀ l2 : Option Value, Vm G mX3_init 1 10 196 (QI G h0) 188 [some (.ref (G.2.2.2 + 31)), some (.int (nI k)), l2] [] h 10 196 := by
    refine loop_up ?_ (fun k hk ih => ?_)
    · intro y h hR hf hlen hA hB hC l2
      refine v_iload_n dX3_init_188 rfl rfl ?_
      refine v_bipush (v := nI 12) dX3_init_189 (by decide) rfl ?_
      refine v_icmp_geN (tgt := 209) dX3_init_191 (by decide) rfl (by omega) (by omega) (fun c191 => ?_) (fun c191 => ?_)
      · exact v_vret dX3_init_209 rfl ⟨Nat.le_of_ble_eq_true rfl, Nat.le_of_ble_eq_true rfl⟩ (⟨rfl, ⟨y, PM.of (s := s0) hR ⟨fun j hj => ⟨hA.1 j, (hA.2.1 j hj).1, (hA.2.1 j hj).2⟩, fun j hj k hk => hA.2.2 j hj k hk, fun w hw => absurd hw (Nat.not_lt_zero _), fun m hm w hw => (hB _ (by omega)).trans (if_neg (Nat.not_lt_zero _)).symm, fun w hw => (hC w hw).trans (if_neg (Nat.not_lt_zero _)).symm, Nat.zero_le _⟩⟩, hf, hlen⟩)
      · exact absurd c191 (by omega)
    · intro y h hR hf hlen hA hB hC l2
      obtain ⟨m0, m1, m2, m3, m4, m5, m6, m7, m8, m9, m10⟩ := id hR
      refine v_iload_n dX3_init_188 rfl rfl ?_
      refine v_bipush (v := nI 12) dX3_init_189 (by decide) rfl ?_
      refine v_icmp_geN (tgt := 209) dX3_init_191 (by decide) rfl (by omega) (by omega) (fun c191 => ?_) (fun c191 => ?_)
      · exact absurd c191 (by omega)
      · refine v_aload_n dX3_init_194 rfl rfl ?_
        refine v_getf dX3_init_195 fl_X3_31 (by first | assumption | exact hG0 hl .. | exact set_get (by assumption) | exact (set_ne (by decide)).trans (by assumption)) (by rfl) rfl ?_
        refine v_iload_n dX3_init_198 rfl rfl ?_
        refine v_sipush (v := (-900)) dX3_init_199 (by decide) rfl ?_
        refine v_iast _ dX3_init_202 (by first | assumption | exact hG0 hl .. | exact set_get (by assumption) | exact (set_ne (by decide)).trans (by assumption)) rfl (by omega) (by decide) rfl ?_
        refine v_iinc1 dX3_init_203 rfl (Nat.le_of_ble_eq_true rfl) rfl ?_
        refine v_goto (tgt := 188) dX3_init_206 (by decide) ?_
        exact ih _ _ (hR.setTr (upd y.2.1.2.2 k (-900))) (fun i hi => (set_ne (by omega)).trans (hf i hi)) (by rw [List.length_set]; exact hlen) hA hB (fun i hi => by
                  show upd _ _ _ i = _
                  by_cases e : i = k
                  · subst e; exact upd_s _ _ _
                  · exact (upd_n e).trans (hC i (by omega))) _
  have key2 : ∀ k, k ≤ 36 → ∀ y h, PR G 0 0 y h → (∀ i, i < 31 → h[i]? = h0[i]?) → h.length = 42 → iniA y 8 → (∀ i, i < k → y.2.1.2.1 i = -900) → ∀ l2 : Option Value, Vm G mX3_init 1 10 196 (QI G h0) 165 [some (.ref (G.2.2.2 + 31)), some (.int (nI k)), l2] [] h 10 196 := by
    refine loop_up ?_ (fun k hk ih => ?_)
    · intro y h hR hf hlen hA hB l2
      refine v_iload_n dX3_init_165 rfl rfl ?_
      refine v_bipush (v := nI 36) dX3_init_166 (by decide) rfl ?_
      refine v_icmp_geN (tgt := 186) dX3_init_168 (by decide) rfl (by omega) (by omega) (fun c168 => ?_) (fun c168 => ?_)
      · refine v_iconst (v := nI 0) dX3_init_186 (by decide) rfl ?_
        refine v_istore_n dX3_init_187 (Nat.le_of_ble_eq_true rfl) rfl ?_
        exact key3 0 (Nat.zero_le _) y h hR hf hlen hA hB (fun i hi => absurd hi (by omega)) _
      · exact absurd c168 (by omega)
    · intro y h hR hf hlen hA hB l2
      obtain ⟨m0, m1, m2, m3, m4, m5, m6, m7, m8, m9, m10⟩ := id hR
      refine v_iload_n dX3_init_165 rfl rfl ?_
      refine v_bipush (v := nI 36) dX3_init_166 (by decide) rfl ?_
      refine v_icmp_geN (tgt := 186) dX3_init_168 (by decide) rfl (by omega) (by omega) (fun c168 => ?_) (fun c168 => ?_)
      · exact absurd c168 (by omega)
      · refine v_aload_n dX3_init_171 rfl rfl ?_
        refine v_getf dX3_init_172 fl_X3_28 (by first | assumption | exact hG0 hl .. | exact set_get (by assumption) | exact (set_ne (by decide)).trans (by assumption)) (by rfl) rfl ?_
        refine v_iload_n dX3_init_175 rfl rfl ?_
        refine v_sipush (v := (-900)) dX3_init_176 (by decide) rfl ?_
        refine v_iast _ dX3_init_179 (by first | assumption | exact hG0 hl .. | exact set_get (by assumption) | exact (set_ne (by decide)).trans (by assumption)) rfl (by omega) (by decide) rfl ?_
        refine v_iinc1 dX3_init_180 rfl (Nat.le_of_ble_eq_true rfl) rfl ?_
        refine v_goto (tgt := 165) dX3_init_183 (by decide) ?_
        exact ih _ _ (hR.setMk (upd y.2.1.2.1 k (-900))) (fun i hi => (set_ne (by omega)).trans (hf i hi)) (by rw [List.length_set]; exact hlen) hA (fun i hi => by
                  show upd _ _ _ i = _
                  by_cases e : i = k
                  · subst e; exact upd_s _ _ _
                  · exact (upd_n e).trans (hB i (by omega))) _
  have key1 : ∀ k, k ≤ 8 → ∀ y h, PR G 0 0 y h → (∀ i, i < 31 → h[i]? = h0[i]?) → h.length = 42 → iniA y k → ∀ l2 : Option Value, Vm G mX3_init 1 10 196 (QI G h0) 86 [some (.ref (G.2.2.2 + 31)), some (.int (nI k)), l2] [] h 10 196 := by
    refine loop_up ?_ (fun i hi ih => ?_)
    · intro y h hR hf hlen hA l2
      refine v_iload_n dX3_init_86 rfl rfl ?_
      refine v_bipush (v := nI 8) dX3_init_87 (by decide) rfl ?_
      refine v_icmp_geN (tgt := 163) dX3_init_89 (by decide) rfl (by omega) (by omega) (fun c89 => ?_) (fun c89 => ?_)
      · refine v_iconst (v := nI 0) dX3_init_163 (by decide) rfl ?_
        refine v_istore_n dX3_init_164 (Nat.le_of_ble_eq_true rfl) rfl ?_
        exact key2 0 (Nat.zero_le _) y h hR hf hlen hA (fun i hi => absurd hi (by omega)) _
      · exact absurd c89 (by omega)
    · have inner : ∀ k, k ≤ 4 → ∀ y h, PR G 0 0 y h → (∀ i, i < 31 → h[i]? = h0[i]?) → h.length = 42 → iniA y i → (y.1.2.1 i = nI (i % 4) ∧ y.1.2.2.1 i = nI 1) → (∀ q, q < k → y.1.2.2.2.1 (4 * i + q) = lF0 q ∧ y.1.2.2.2.2 (4 * i + q) = lT0 q) → Vm G mX3_init 1 10 196 (QI G h0) 110 [some (.ref (G.2.2.2 + 31)), some (.int (nI i)), some (.int (nI k))] [] h 10 196 := by
        refine loop_up ?_ (fun k hk jh => ?_)
        · intro y h hR hf hlen hA hi1 hi2
          refine v_iload_n dX3_init_110 rfl rfl ?_
          refine v_iconst (v := nI 4) dX3_init_111 (by decide) rfl ?_
          refine v_icmp_geN (tgt := 157) dX3_init_112 (by decide) rfl (by omega) (by omega) (fun c112 => ?_) (fun c112 => ?_)
          · refine v_iinc1 dX3_init_157 rfl (Nat.le_of_ble_eq_true rfl) rfl ?_
            refine v_goto (tgt := 86) dX3_init_160 (by decide) ?_
            exact ih y h hR hf hlen ⟨hA.1, fun j hj => by
                          by_cases e : j = i
                          · subst e; exact hi1
                          · exact hA.2.1 j (by omega), fun j hj => by
                          by_cases e : j = i
                          · subst e; exact hi2
                          · exact hA.2.2 j (by omega)⟩ _
          · exact absurd c112 (by omega)
        · intro y h hR hf hlen hA hi1 hi2
          obtain ⟨m0, m1, m2, m3, m4, m5, m6, m7, m8, m9, m10⟩ := id hR
          obtain ⟨f0, f1, f2⟩ := lF_at k hk
          refine v_iload_n dX3_init_110 rfl rfl ?_
          refine v_iconst (v := nI 4) dX3_init_111 (by decide) rfl ?_
          refine v_icmp_geN (tgt := 157) dX3_init_112 (by decide) rfl (by omega) (by omega) (fun c112 => ?_) (fun c112 => ?_)
          · exact absurd c112 (by omega)
          · refine v_aload_n dX3_init_115 rfl rfl ?_
            refine v_getf dX3_init_116 fl_X3_19 (by first | assumption | exact hG0 hl .. | exact set_get (by assumption) | exact (set_ne (by decide)).trans (by assumption)) (by rfl) rfl ?_
            refine v_iconst (v := nI 4) dX3_init_119 (by decide) rfl ?_
            refine v_iload_n dX3_init_120 rfl rfl ?_
            refine v_imulN dX3_init_121 rfl ?_
            refine v_iload_n dX3_init_122 rfl rfl ?_
            refine v_iaddN dX3_init_123 rfl ?_
            refine v_iload_n dX3_init_124 rfl rfl ?_
            refine v_if_neN (tgt := 132) dX3_init_125 (by decide) rfl (by omega) (fun c125 => ?_) (fun c125 => ?_)
            · refine v_iconst (v := nI 3) dX3_init_132 (by decide) rfl ?_
              refine v_iload_n dX3_init_133 rfl rfl ?_
              refine v_imulN dX3_init_134 rfl ?_
              refine v_iconst (v := nI 2) dX3_init_135 (by decide) rfl ?_
              refine v_isubN dX3_init_136 (by omega) rfl ?_
              refine v_iast _ dX3_init_137 (by first | assumption | exact hG0 hl .. | exact set_get (by assumption) | exact (set_ne (by decide)).trans (by assumption)) rfl (by omega) (by decide) rfl ?_
              refine v_aload_n dX3_init_138 rfl rfl ?_
              refine v_getf dX3_init_139 fl_X3_22 (by first | assumption | exact hG0 hl .. | exact set_get (by assumption) | exact (set_ne (by decide)).trans (by assumption)) (by rfl) rfl ?_
              refine v_iconst (v := nI 4) dX3_init_142 (by decide) rfl ?_
              refine v_iload_n dX3_init_143 rfl rfl ?_
              refine v_imulN dX3_init_144 rfl ?_
              refine v_iload_n dX3_init_145 rfl rfl ?_
              refine v_iaddN dX3_init_146 rfl ?_
              refine v_iconst (v := nI 3) dX3_init_147 (by decide) rfl ?_
              refine v_iload_n dX3_init_148 rfl rfl ?_
              refine v_imulN dX3_init_149 rfl ?_
              refine v_iast _ dX3_init_150 (by first | assumption | exact hG0 hl .. | exact set_get (by assumption) | exact (set_ne (by decide)).trans (by assumption)) rfl (by omega) (by decide) rfl ?_
              refine v_iinc1 dX3_init_151 rfl (Nat.le_of_ble_eq_true rfl) rfl ?_
              refine v_goto (tgt := 110) dX3_init_154 (by decide) ?_
              refine jh _ _ ((hR.setF _).setT _) (fun i hi => (set_ne (by omega)).trans ((set_ne (by omega)).trans (hf i hi))) (by rw [List.length_set, List.length_set]; exact hlen) ⟨hA.1, hA.2.1, fun j hj q hq => ⟨(upd_n (by omega)).trans (hA.2.2 j hj q hq).1, (upd_n (by omega)).trans (hA.2.2 j hj q hq).2⟩⟩ hi1 (fun q hq => ?_)
              by_cases e : q = k
              · subst e; exact ⟨(upd_s _ _ _).trans (by first | exact (f0 c125).symm | exact (f1 c125).symm), (upd_s _ _ _).trans f2.symm⟩
              · exact ⟨(upd_n (by omega)).trans (hi2 q (by omega)).1, (upd_n (by omega)).trans (hi2 q (by omega)).2⟩
            · refine v_iconst (v := nI 0) dX3_init_128 (by decide) rfl ?_
              refine v_goto (tgt := 137) dX3_init_129 (by decide) ?_
              refine v_iast _ dX3_init_137 (by first | assumption | exact hG0 hl .. | exact set_get (by assumption) | exact (set_ne (by decide)).trans (by assumption)) rfl (by omega) (by decide) rfl ?_
              refine v_aload_n dX3_init_138 rfl rfl ?_
              refine v_getf dX3_init_139 fl_X3_22 (by first | assumption | exact hG0 hl .. | exact set_get (by assumption) | exact (set_ne (by decide)).trans (by assumption)) (by rfl) rfl ?_
              refine v_iconst (v := nI 4) dX3_init_142 (by decide) rfl ?_
              refine v_iload_n dX3_init_143 rfl rfl ?_
              refine v_imulN dX3_init_144 rfl ?_
              refine v_iload_n dX3_init_145 rfl rfl ?_
              refine v_iaddN dX3_init_146 rfl ?_
              refine v_iconst (v := nI 3) dX3_init_147 (by decide) rfl ?_
              refine v_iload_n dX3_init_148 rfl rfl ?_
              refine v_imulN dX3_init_149 rfl ?_
              refine v_iast _ dX3_init_150 (by first | assumption | exact hG0 hl .. | exact set_get (by assumption) | exact (set_ne (by decide)).trans (by assumption)) rfl (by omega) (by decide) rfl ?_
              refine v_iinc1 dX3_init_151 rfl (Nat.le_of_ble_eq_true rfl) rfl ?_
              refine v_goto (tgt := 110) dX3_init_154 (by decide) ?_
              refine jh _ _ ((hR.setF _).setT _) (fun i hi => (set_ne (by omega)).trans ((set_ne (by omega)).trans (hf i hi))) (by rw [List.length_set, List.length_set]; exact hlen) ⟨hA.1, hA.2.1, fun j hj q hq => ⟨(upd_n (by omega)).trans (hA.2.2 j hj q hq).1, (upd_n (by omega)).trans (hA.2.2 j hj q hq).2⟩⟩ hi1 (fun q hq => ?_)
              by_cases e : q = k
              · subst e; exact ⟨(upd_s _ _ _).trans (by first | exact (f0 c125).symm | exact (f1 c125).symm), (upd_s _ _ _).trans f2.symm⟩
              · exact ⟨(upd_n (by omega)).trans (hi2 q (by omega)).1, (upd_n (by omega)).trans (hi2 q (by omega)).2⟩
      intro y h hR hf hlen hA l2
      obtain ⟨m0, m1, m2, m3, m4, m5, m6, m7, m8, m9, m10⟩ := id hR
      refine v_iload_n dX3_init_86 rfl rfl ?_
      refine v_bipush (v := nI 8) dX3_init_87 (by decide) rfl ?_
      refine v_icmp_geN (tgt := 163) dX3_init_89 (by decide) rfl (by omega) (by omega) (fun c89 => ?_) (fun c89 => ?_)
      · exact absurd c89 (by omega)
      · refine v_aload_n dX3_init_92 rfl rfl ?_
        refine v_getf dX3_init_93 fl_X3_13 (by first | assumption | exact hG0 hl .. | exact set_get (by assumption) | exact (set_ne (by decide)).trans (by assumption)) (by rfl) rfl ?_
        refine v_iload_n dX3_init_96 rfl rfl ?_
        refine v_iload_n dX3_init_97 rfl rfl ?_
        refine v_iconst (v := nI 4) dX3_init_98 (by decide) rfl ?_
        refine v_iremN dX3_init_99 (by omega) (by omega) (by omega) rfl ?_
        refine v_iast _ dX3_init_100 (by first | assumption | exact hG0 hl .. | exact set_get (by assumption) | exact (set_ne (by decide)).trans (by assumption)) rfl (by omega) (by decide) rfl ?_
        refine v_aload_n dX3_init_101 rfl rfl ?_
        refine v_getf dX3_init_102 fl_X3_16 (by first | assumption | exact hG0 hl .. | exact set_get (by assumption) | exact (set_ne (by decide)).trans (by assumption)) (by rfl) rfl ?_
        refine v_iload_n dX3_init_105 rfl rfl ?_
        refine v_iconst (v := nI 1) dX3_init_106 (by decide) rfl ?_
        refine v_iast _ dX3_init_107 (by first | assumption | exact hG0 hl .. | exact set_get (by assumption) | exact (set_ne (by decide)).trans (by assumption)) rfl (by omega) (by decide) rfl ?_
        refine v_iconst (v := nI 0) dX3_init_108 (by decide) rfl ?_
        refine v_istore_n dX3_init_109 (Nat.le_of_ble_eq_true rfl) rfl ?_
        exact inner 0 (Nat.zero_le _) _ _ ((hR.setFc _).setWt _) (fun i hi => (set_ne (by omega)).trans ((set_ne (by omega)).trans (hf i hi))) (by rw [List.length_set, List.length_set]; exact hlen) ⟨hA.1, fun j hj => ⟨(upd_n (by omega)).trans (hA.2.1 j hj).1, (upd_n (by omega)).trans (hA.2.1 j hj).2⟩, hA.2.2⟩ ⟨upd_s _ _ _, upd_s _ _ _⟩ (fun q hq => absurd hq (by omega))
  refine Ct.start 2 (by decide) rfl (Nat.le_of_ble_eq_true rfl) ?_
  unfold obZ
  refine v_aload_n dX3_init_0 rfl rfl ?_
  refine v_objInit dX3_init_1 to_X3_1 tn_obj tc_obj (Nat.le_of_ble_eq_true rfl) (Nat.le_of_ble_eq_true rfl) rfl ?_
  try simp only [hS0 hl, List.length_append, List.length_cons, List.length_nil, hl, List.append_assoc, List.cons_append, List.nil_append, Nat.zero_add, Nat.reduceAdd]
  refine v_aload_n dX3_init_4 rfl rfl ?_
  refine v_bipush (v := nI 8) dX3_init_5 (by decide) rfl ?_
  refine v_newa (N := 8) dX3_init_7 t_arrI rfl (by decide) (Nat.le_of_ble_eq_true rfl) (Nat.le_of_ble_eq_true rfl) rfl ?_
  try simp only [hS0 hl, List.length_append, List.length_cons, List.length_nil, hl, List.append_assoc, List.cons_append, List.nil_append, Nat.zero_add, Nat.reduceAdd]
  refine v_putF dX3_init_9 fl_X3_7 rfl rfl (by first | assumption | exact hG0 hl .. | exact set_get (by assumption) | exact (set_ne (by decide)).trans (by assumption)) (by rfl) (by rfl) (by exact Nat.le_of_ble_eq_true rfl) rfl ?_
  try simp only [hS0 hl, List.length_append, List.length_cons, List.length_nil, hl, List.append_assoc, List.cons_append, List.nil_append, Nat.zero_add, Nat.reduceAdd]
  refine v_aload_n dX3_init_12 rfl rfl ?_
  refine v_bipush (v := nI 8) dX3_init_13 (by decide) rfl ?_
  refine v_newa (N := 8) dX3_init_15 t_arrI rfl (by decide) (Nat.le_of_ble_eq_true rfl) (Nat.le_of_ble_eq_true rfl) rfl ?_
  try simp only [hS0 hl, List.length_append, List.length_cons, List.length_nil, hl, List.append_assoc, List.cons_append, List.nil_append, Nat.zero_add, Nat.reduceAdd]
  refine v_putF dX3_init_17 fl_X3_13 rfl rfl (by first | assumption | exact hG0 hl .. | exact set_get (by assumption) | exact (set_ne (by decide)).trans (by assumption)) (by rfl) (by rfl) (by exact Nat.le_of_ble_eq_true rfl) rfl ?_
  try simp only [hS0 hl, List.length_append, List.length_cons, List.length_nil, hl, List.append_assoc, List.cons_append, List.nil_append, Nat.zero_add, Nat.reduceAdd]
  refine v_aload_n dX3_init_20 rfl rfl ?_
  refine v_bipush (v := nI 8) dX3_init_21 (by decide) rfl ?_
  refine v_newa (N := 8) dX3_init_23 t_arrI rfl (by decide) (Nat.le_of_ble_eq_true rfl) (Nat.le_of_ble_eq_true rfl) rfl ?_
  try simp only [hS0 hl, List.length_append, List.length_cons, List.length_nil, hl, List.append_assoc, List.cons_append, List.nil_append, Nat.zero_add, Nat.reduceAdd]
  refine v_putF dX3_init_25 fl_X3_16 rfl rfl (by first | assumption | exact hG0 hl .. | exact set_get (by assumption) | exact (set_ne (by decide)).trans (by assumption)) (by rfl) (by rfl) (by exact Nat.le_of_ble_eq_true rfl) rfl ?_
  try simp only [hS0 hl, List.length_append, List.length_cons, List.length_nil, hl, List.append_assoc, List.cons_append, List.nil_append, Nat.zero_add, Nat.reduceAdd]
  refine v_aload_n dX3_init_28 rfl rfl ?_
  refine v_bipush (v := nI 32) dX3_init_29 (by decide) rfl ?_
  refine v_newa (N := 32) dX3_init_31 t_arrI rfl (by decide) (Nat.le_of_ble_eq_true rfl) (Nat.le_of_ble_eq_true rfl) rfl ?_
  try simp only [hS0 hl, List.length_append, List.length_cons, List.length_nil, hl, List.append_assoc, List.cons_append, List.nil_append, Nat.zero_add, Nat.reduceAdd]
  refine v_putF dX3_init_33 fl_X3_19 rfl rfl (by first | assumption | exact hG0 hl .. | exact set_get (by assumption) | exact (set_ne (by decide)).trans (by assumption)) (by rfl) (by rfl) (by exact Nat.le_of_ble_eq_true rfl) rfl ?_
  try simp only [hS0 hl, List.length_append, List.length_cons, List.length_nil, hl, List.append_assoc, List.cons_append, List.nil_append, Nat.zero_add, Nat.reduceAdd]
  refine v_aload_n dX3_init_36 rfl rfl ?_
  refine v_bipush (v := nI 32) dX3_init_37 (by decide) rfl ?_
  refine v_newa (N := 32) dX3_init_39 t_arrI rfl (by decide) (Nat.le_of_ble_eq_true rfl) (Nat.le_of_ble_eq_true rfl) rfl ?_
  try simp only [hS0 hl, List.length_append, List.length_cons, List.length_nil, hl, List.append_assoc, List.cons_append, List.nil_append, Nat.zero_add, Nat.reduceAdd]
  refine v_putF dX3_init_41 fl_X3_22 rfl rfl (by first | assumption | exact hG0 hl .. | exact set_get (by assumption) | exact (set_ne (by decide)).trans (by assumption)) (by rfl) (by rfl) (by exact Nat.le_of_ble_eq_true rfl) rfl ?_
  try simp only [hS0 hl, List.length_append, List.length_cons, List.length_nil, hl, List.append_assoc, List.cons_append, List.nil_append, Nat.zero_add, Nat.reduceAdd]
  refine v_aload_n dX3_init_44 rfl rfl ?_
  refine v_bipush (v := nI 48) dX3_init_45 (by decide) rfl ?_
  refine v_newa (N := 48) dX3_init_47 t_arrI rfl (by decide) (Nat.le_of_ble_eq_true rfl) (Nat.le_of_ble_eq_true rfl) rfl ?_
  try simp only [hS0 hl, List.length_append, List.length_cons, List.length_nil, hl, List.append_assoc, List.cons_append, List.nil_append, Nat.zero_add, Nat.reduceAdd]
  refine v_putF dX3_init_49 fl_X3_25 rfl rfl (by first | assumption | exact hG0 hl .. | exact set_get (by assumption) | exact (set_ne (by decide)).trans (by assumption)) (by rfl) (by rfl) (by exact Nat.le_of_ble_eq_true rfl) rfl ?_
  try simp only [hS0 hl, List.length_append, List.length_cons, List.length_nil, hl, List.append_assoc, List.cons_append, List.nil_append, Nat.zero_add, Nat.reduceAdd]
  refine v_aload_n dX3_init_52 rfl rfl ?_
  refine v_bipush (v := nI 36) dX3_init_53 (by decide) rfl ?_
  refine v_newa (N := 36) dX3_init_55 t_arrI rfl (by decide) (Nat.le_of_ble_eq_true rfl) (Nat.le_of_ble_eq_true rfl) rfl ?_
  try simp only [hS0 hl, List.length_append, List.length_cons, List.length_nil, hl, List.append_assoc, List.cons_append, List.nil_append, Nat.zero_add, Nat.reduceAdd]
  refine v_putF dX3_init_57 fl_X3_28 rfl rfl (by first | assumption | exact hG0 hl .. | exact set_get (by assumption) | exact (set_ne (by decide)).trans (by assumption)) (by rfl) (by rfl) (by exact Nat.le_of_ble_eq_true rfl) rfl ?_
  try simp only [hS0 hl, List.length_append, List.length_cons, List.length_nil, hl, List.append_assoc, List.cons_append, List.nil_append, Nat.zero_add, Nat.reduceAdd]
  refine v_aload_n dX3_init_60 rfl rfl ?_
  refine v_bipush (v := nI 12) dX3_init_61 (by decide) rfl ?_
  refine v_newa (N := 12) dX3_init_63 t_arrI rfl (by decide) (Nat.le_of_ble_eq_true rfl) (Nat.le_of_ble_eq_true rfl) rfl ?_
  try simp only [hS0 hl, List.length_append, List.length_cons, List.length_nil, hl, List.append_assoc, List.cons_append, List.nil_append, Nat.zero_add, Nat.reduceAdd]
  refine v_putF dX3_init_65 fl_X3_31 rfl rfl (by first | assumption | exact hG0 hl .. | exact set_get (by assumption) | exact (set_ne (by decide)).trans (by assumption)) (by rfl) (by rfl) (by exact Nat.le_of_ble_eq_true rfl) rfl ?_
  try simp only [hS0 hl, List.length_append, List.length_cons, List.length_nil, hl, List.append_assoc, List.cons_append, List.nil_append, Nat.zero_add, Nat.reduceAdd]
  refine v_aload_n dX3_init_68 rfl rfl ?_
  refine v_bipush (v := nI 6) dX3_init_69 (by decide) rfl ?_
  refine v_newa (N := 6) dX3_init_71 t_arrI rfl (by decide) (Nat.le_of_ble_eq_true rfl) (Nat.le_of_ble_eq_true rfl) rfl ?_
  try simp only [hS0 hl, List.length_append, List.length_cons, List.length_nil, hl, List.append_assoc, List.cons_append, List.nil_append, Nat.zero_add, Nat.reduceAdd]
  refine v_putF dX3_init_73 fl_X3_34 rfl rfl (by first | assumption | exact hG0 hl .. | exact set_get (by assumption) | exact (set_ne (by decide)).trans (by assumption)) (by rfl) (by rfl) (by exact Nat.le_of_ble_eq_true rfl) rfl ?_
  try simp only [hS0 hl, List.length_append, List.length_cons, List.length_nil, hl, List.append_assoc, List.cons_append, List.nil_append, Nat.zero_add, Nat.reduceAdd]
  refine v_aload_n dX3_init_76 rfl rfl ?_
  refine v_bipush (v := nI 6) dX3_init_77 (by decide) rfl ?_
  refine v_newa (N := 6) dX3_init_79 t_arrI rfl (by decide) (Nat.le_of_ble_eq_true rfl) (Nat.le_of_ble_eq_true rfl) rfl ?_
  try simp only [hS0 hl, List.length_append, List.length_cons, List.length_nil, hl, List.append_assoc, List.cons_append, List.nil_append, Nat.zero_add, Nat.reduceAdd]
  refine v_putF dX3_init_81 fl_X3_37 rfl rfl (by first | assumption | exact hG0 hl .. | exact set_get (by assumption) | exact (set_ne (by decide)).trans (by assumption)) (by rfl) (by rfl) (by exact Nat.le_of_ble_eq_true rfl) rfl ?_
  try simp only [hS0 hl, List.length_append, List.length_cons, List.length_nil, hl, List.append_assoc, List.cons_append, List.nil_append, Nat.zero_add, Nat.reduceAdd]
  refine v_iconst (v := nI 0) dX3_init_84 (by decide) rfl ?_
  refine v_istore_n dX3_init_85 (Nat.le_of_ble_eq_true rfl) rfl ?_
  refine key1 0 (Nat.zero_le _) y0 _ ?_ (fun i hi => get_app (by omega)) (by rw [List.length_append, hl]; rfl) ⟨fun _ => rfl, fun j hj => absurd hj (by omega), fun j hj => absurd hj (by omega)⟩ _
  exact ⟨hGi hl 0 _, hGi hl 1 _, hGi hl 2 _, hGi hl 3 _, hGi hl 4 _, hGi hl 5 _, hGi hl 6 _, hGi hl 7 _, hGi hl 8 _, hGi hl 9 _, hGi hl 10 _⟩
end MINIT

