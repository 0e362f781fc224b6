-- LOOK: by first | exact hB0 .. | exact hB1 .. | exact hB2 ..
/-! CONSTRUCTORS OF THE CLASS; a new WORK -/
theorem hA0 (h0 : List va_E) (e e' : va_E) (r : List va_E) : (h0 ++ e :: r).set h0.length e' = h0 ++ e' :: r := by
  rw [List.set_append_right _ _ (Nat.le_refl _), Nat.sub_self]; rfl
theorem hA1 (h0 : List va_E) (a e e' : va_E) (r : List va_E) : (h0 ++ a :: e :: r).set (h0.length + 1) e' = h0 ++ a :: e' :: r := by
  rw [List.set_append_right _ _ (by omega), show h0.length + 1 - h0.length = 1 by omega]; rfl
theorem hA2 (h0 : List va_E) (a b e e' : va_E) (r : List va_E) : (h0 ++ a :: b :: e :: r).set (h0.length + 2) e' = h0 ++ a :: b :: e' :: r := by
  rw [List.set_append_right _ _ (by omega), show h0.length + 2 - h0.length = 2 by omega]; rfl
theorem hB0 (h0 : List va_E) (e : va_E) (r : List va_E) : (h0 ++ e :: r)[h0.length]? = some e := by
  rw [List.getElem?_append_right (Nat.le_refl _), Nat.sub_self]; rfl
theorem hB1 (h0 : List va_E) (a e : va_E) (r : List va_E) : (h0 ++ a :: e :: r)[h0.length + 1]? = some e := by
  rw [List.getElem?_append_right (by omega), show h0.length + 1 - h0.length = 1 by omega]; rfl
theorem hB2 (h0 : List va_E) (a b e : va_E) (r : List va_E) : (h0 ++ a :: b :: e :: r)[h0.length + 2]? = some e := by
  rw [List.getElem?_append_right (by omega), show h0.length + 2 - h0.length = 2 by omega]; rfl
def wF0 (a b c d : Int32) : Nat → Int32 := upd (upd (upd (upd (fun _ => 0) 0 a) 1 b) 2 c) 3 d
def wM0 : Nat → Int32 := upd (upd (upd (fun _ => 0) 0 (-900)) 1 (-900)) 2 (-900)
def lF0 : Nat → Int32 := upd (upd (upd (fun _ => 0) 1 (nI 1)) 2 (nI 4)) 3 (nI 7)
def lT0 : Nat → Int32 := upd (upd (upd (fun _ => 0) 1 (nI 3)) 2 (nI 6)) 3 (nI 9)
section MAKE
variable (G : GG)
theorem c_workInit (h0 : List va_E) (a b c d : Int32) : Ct G mX1_init 1 2 7 [.ref (G.2.2.2 + h0.length), .int a, .int b, .int c, .int d] (h0 ++ [ob 1 [.null, .null, .int 0]]) (Qf none (h0 ++ [ob 1 [.ref (G.2.2.2 + (h0.length + 1)), .ref (G.2.2.2 + (h0.length + 2)), .int (-900)], aI G 4 (wF0 a b c d), aI G 3 wM0])) := by
  refine Ct.start 1 (by decide) rfl (Nat.le_of_ble_eq_true rfl) ?_
  refine v_aload_n dX1_init_0 rfl rfl ?_
  refine v_objInit dX1_init_1 to_X1_3 tn_obj tc_obj (Nat.le_of_ble_eq_true rfl) (Nat.le_of_ble_eq_true rfl) rfl ?_
  try simp only [hA0, hA1, hA2, List.length_append, List.length_cons, List.length_nil, List.append_assoc, List.cons_append, List.nil_append, Nat.zero_add, Nat.reduceAdd]
  refine v_aload_n dX1_init_4 rfl rfl ?_
  refine v_iconst (v := nI 4) dX1_init_5 (by decide) rfl ?_
  refine v_newa (N := 4) dX1_init_6 t_arrI rfl (by decide) (Nat.le_of_ble_eq_true rfl) (Nat.le_of_ble_eq_true rfl) rfl ?_
  try simp only [hA0, hA1, hA2, List.length_append, List.length_cons, List.length_nil, List.append_assoc, List.cons_append, List.nil_append, Nat.zero_add, Nat.reduceAdd]
  refine v_putF dX1_init_8 fl_X1_9 rfl rfl (by first | exact hB0 .. | exact hB1 .. | exact hB2 ..) (by rfl) (by rfl) (by exact Nat.le_of_ble_eq_true rfl) rfl ?_
  try simp only [hA0, hA1, hA2, List.length_append, List.length_cons, List.length_nil, List.append_assoc, List.cons_append, List.nil_append, Nat.zero_add, Nat.reduceAdd]
  refine v_aload_n dX1_init_11 rfl rfl ?_
  refine v_iconst (v := nI 3) dX1_init_12 (by decide) rfl ?_
  refine v_newa (N := 3) dX1_init_13 t_arrI rfl (by decide) (Nat.le_of_ble_eq_true rfl) (Nat.le_of_ble_eq_true rfl) rfl ?_
  try simp only [hA0, hA1, hA2, List.length_append, List.length_cons, List.length_nil, List.append_assoc, List.cons_append, List.nil_append, Nat.zero_add, Nat.reduceAdd]
  refine v_putF dX1_init_15 fl_X1_15 rfl rfl (by first | exact hB0 .. | exact hB1 .. | exact hB2 ..) (by rfl) (by rfl) (by exact Nat.le_of_ble_eq_true rfl) rfl ?_
  try simp only [hA0, hA1, hA2, List.length_append, List.length_cons, List.length_nil, List.append_assoc, List.cons_append, List.nil_append, Nat.zero_add, Nat.reduceAdd]
  refine v_aload_n dX1_init_18 rfl rfl ?_
  refine v_sipush (v := (-900)) dX1_init_19 (by decide) rfl ?_
  refine v_putf dX1_init_22 fl_X1_18 (by first | exact hB0 .. | exact hB1 .. | exact hB2 ..) (by rfl) (by rfl) (by exact Nat.le_of_ble_eq_true rfl) rfl ?_
  try simp only [hA0, hA1, hA2, List.length_append, List.length_cons, List.length_nil, List.append_assoc, List.cons_append, List.nil_append, Nat.zero_add, Nat.reduceAdd]
  refine v_aload_n dX1_init_25 rfl rfl ?_
  refine v_getf dX1_init_26 fl_X1_9 (by first | exact hB0 .. | exact hB1 .. | exact hB2 ..) (by rfl) rfl ?_
  refine v_iconst (v := nI 0) dX1_init_29 (by decide) rfl ?_
  refine v_iload_n dX1_init_30 rfl rfl ?_
  refine v_iast 0 dX1_init_31 (by first | exact hB0 .. | exact hB1 .. | exact hB2 ..) rfl (by decide) (by decide) rfl ?_
  try simp only [hA0, hA1, hA2, List.length_append, List.length_cons, List.length_nil, List.append_assoc, List.cons_append, List.nil_append, Nat.zero_add, Nat.reduceAdd]
  refine v_aload_n dX1_init_32 rfl rfl ?_
  refine v_getf dX1_init_33 fl_X1_9 (by first | exact hB0 .. | exact hB1 .. | exact hB2 ..) (by rfl) rfl ?_
  refine v_iconst (v := nI 1) dX1_init_36 (by decide) rfl ?_
  refine v_iload_n dX1_init_37 rfl rfl ?_
  refine v_iast 1 dX1_init_38 (by first | exact hB0 .. | exact hB1 .. | exact hB2 ..) rfl (by decide) (by decide) rfl ?_
  try simp only [hA0, hA1, hA2, List.length_append, List.length_cons, List.length_nil, List.append_assoc, List.cons_append, List.nil_append, Nat.zero_add, Nat.reduceAdd]
  refine v_aload_n dX1_init_39 rfl rfl ?_
  refine v_getf dX1_init_40 fl_X1_9 (by first | exact hB0 .. | exact hB1 .. | exact hB2 ..) (by rfl) rfl ?_
  refine v_iconst (v := nI 2) dX1_init_43 (by decide) rfl ?_
  refine v_iload_n dX1_init_44 rfl rfl ?_
  refine v_iast 2 dX1_init_45 (by first | exact hB0 .. | exact hB1 .. | exact hB2 ..) rfl (by decide) (by decide) rfl ?_
  try simp only [hA0, hA1, hA2, List.length_append, List.length_cons, List.length_nil, List.append_assoc, List.cons_append, List.nil_append, Nat.zero_add, Nat.reduceAdd]
  refine v_aload_n dX1_init_46 rfl rfl ?_
  refine v_getf dX1_init_47 fl_X1_9 (by first | exact hB0 .. | exact hB1 .. | exact hB2 ..) (by rfl) rfl ?_
  refine v_iconst (v := nI 3) dX1_init_50 (by decide) rfl ?_
  refine v_iload dX1_init_51 rfl rfl ?_
  refine v_iast 3 dX1_init_53 (by first | exact hB0 .. | exact hB1 .. | exact hB2 ..) rfl (by decide) (by decide) rfl ?_
  try simp only [hA0, hA1, hA2, List.length_append, List.length_cons, List.length_nil, List.append_assoc, List.cons_append, List.nil_append, Nat.zero_add, Nat.reduceAdd]
  refine v_iconst (v := nI 0) dX1_init_54 (by decide) rfl ?_
  refine v_istore dX1_init_55 (Nat.le_of_ble_eq_true rfl) rfl ?_
  refine v_iload dX1_init_57 rfl rfl ?_
  refine v_iconst (v := nI 3) dX1_init_59 (by decide) rfl ?_
  refine v_icmp_ge (tgt := 79) dX1_init_60 (by decide) rfl (fun q => absurd q (by decide)) (fun _ => ?_)
  refine v_aload_n dX1_init_63 rfl rfl ?_
  refine v_getf dX1_init_64 fl_X1_15 (by first | exact hB0 .. | exact hB1 .. | exact hB2 ..) (by rfl) rfl ?_
  refine v_iload dX1_init_67 rfl rfl ?_
  refine v_sipush (v := (-900)) dX1_init_69 (by decide) rfl ?_
  refine v_iast 0 dX1_init_72 (by first | exact hB0 .. | exact hB1 .. | exact hB2 ..) rfl (by decide) (by decide) rfl ?_
  try simp only [hA0, hA1, hA2, List.length_append, List.length_cons, List.length_nil, List.append_assoc, List.cons_append, List.nil_append, Nat.zero_add, Nat.reduceAdd]
  refine v_iinc (v := nI 1) dX1_init_73 rfl (by decide) (Nat.le_of_ble_eq_true rfl) rfl ?_
  refine v_goto (tgt := 57) dX1_init_76 (by decide) ?_
  refine v_iload dX1_init_57 rfl rfl ?_
  refine v_iconst (v := nI 3) dX1_init_59 (by decide) rfl ?_
  refine v_icmp_ge (tgt := 79) dX1_init_60 (by decide) rfl (fun q => absurd q (by decide)) (fun _ => ?_)
  refine v_aload_n dX1_init_63 rfl rfl ?_
  refine v_getf dX1_init_64 fl_X1_15 (by first | exact hB0 .. | exact hB1 .. | exact hB2 ..) (by rfl) rfl ?_
  refine v_iload dX1_init_67 rfl rfl ?_
  refine v_sipush (v := (-900)) dX1_init_69 (by decide) rfl ?_
  refine v_iast 1 dX1_init_72 (by first | exact hB0 .. | exact hB1 .. | exact hB2 ..) rfl (by decide) (by decide) rfl ?_
  try simp only [hA0, hA1, hA2, List.length_append, List.length_cons, List.length_nil, List.append_assoc, List.cons_append, List.nil_append, Nat.zero_add, Nat.reduceAdd]
  refine v_iinc (v := nI 2) dX1_init_73 rfl (by decide) (Nat.le_of_ble_eq_true rfl) rfl ?_
  refine v_goto (tgt := 57) dX1_init_76 (by decide) ?_
  refine v_iload dX1_init_57 rfl rfl ?_
  refine v_iconst (v := nI 3) dX1_init_59 (by decide) rfl ?_
  refine v_icmp_ge (tgt := 79) dX1_init_60 (by decide) rfl (fun q => absurd q (by decide)) (fun _ => ?_)
  refine v_aload_n dX1_init_63 rfl rfl ?_
  refine v_getf dX1_init_64 fl_X1_15 (by first | exact hB0 .. | exact hB1 .. | exact hB2 ..) (by rfl) rfl ?_
  refine v_iload dX1_init_67 rfl rfl ?_
  refine v_sipush (v := (-900)) dX1_init_69 (by decide) rfl ?_
  refine v_iast 2 dX1_init_72 (by first | exact hB0 .. | exact hB1 .. | exact hB2 ..) rfl (by decide) (by decide) rfl ?_
  try simp only [hA0, hA1, hA2, List.length_append, List.length_cons, List.length_nil, List.append_assoc, List.cons_append, List.nil_append, Nat.zero_add, Nat.reduceAdd]
  refine v_iinc (v := nI 3) dX1_init_73 rfl (by decide) (Nat.le_of_ble_eq_true rfl) rfl ?_
  refine v_goto (tgt := 57) dX1_init_76 (by decide) ?_
  refine v_iload dX1_init_57 rfl rfl ?_
  refine v_iconst (v := nI 3) dX1_init_59 (by decide) rfl ?_
  refine v_icmp_ge (tgt := 79) dX1_init_60 (by decide) rfl (fun _ => ?_) (fun q => absurd (by decide) q)
  exact v_vret dX1_init_79 rfl ⟨Nat.le_of_ble_eq_true rfl, Nat.le_of_ble_eq_true rfl⟩ (⟨rfl, rfl⟩)
theorem c_lineInit (h0 : List va_E) (y : Int32) : Ct G mX0_init 1 2 8 [.ref (G.2.2.2 + h0.length), .int y] (h0 ++ [ob 0 [.int 0, .int 0, .int 0, .null, .null]]) (Qf none (h0 ++ [ob 0 [.int (nI 0), .int y, .int (nI 1), .ref (G.2.2.2 + (h0.length + 1)), .ref (G.2.2.2 + (h0.length + 2))], aI G 4 lF0, aI G 4 lT0])) := by
  refine Ct.start 1 (by decide) rfl (Nat.le_of_ble_eq_true rfl) ?_
  refine v_aload_n dX0_init_0 rfl rfl ?_
  refine v_objInit dX0_init_1 to_X0_3 tn_obj tc_obj (Nat.le_of_ble_eq_true rfl) (Nat.le_of_ble_eq_true rfl) rfl ?_
  try simp only [hA0, hA1, hA2, List.length_append, List.length_cons, List.length_nil, List.append_assoc, List.cons_append, List.nil_append, Nat.zero_add, Nat.reduceAdd]
  refine v_aload_n dX0_init_4 rfl rfl ?_
  refine v_iconst (v := nI 0) dX0_init_5 (by decide) rfl ?_
  refine v_putf dX0_init_6 fl_X0_9 (by first | exact hB0 .. | exact hB1 .. | exact hB2 ..) (by rfl) (by rfl) (by exact Nat.le_of_ble_eq_true rfl) rfl ?_
  try simp only [hA0, hA1, hA2, List.length_append, List.length_cons, List.length_nil, List.append_assoc, List.cons_append, List.nil_append, Nat.zero_add, Nat.reduceAdd]
  refine v_aload_n dX0_init_9 rfl rfl ?_
  refine v_iconst (v := nI 1) dX0_init_10 (by decide) rfl ?_
  refine v_putf dX0_init_11 fl_X0_15 (by first | exact hB0 .. | exact hB1 .. | exact hB2 ..) (by rfl) (by rfl) (by exact Nat.le_of_ble_eq_true rfl) rfl ?_
  try simp only [hA0, hA1, hA2, List.length_append, List.length_cons, List.length_nil, List.append_assoc, List.cons_append, List.nil_append, Nat.zero_add, Nat.reduceAdd]
  refine v_aload_n dX0_init_14 rfl rfl ?_
  refine v_iconst (v := nI 4) dX0_init_15 (by decide) rfl ?_
  refine v_newa (N := 4) dX0_init_16 t_arrI rfl (by decide) (Nat.le_of_ble_eq_true rfl) (Nat.le_of_ble_eq_true rfl) rfl ?_
  try simp only [hA0, hA1, hA2, List.length_append, List.length_cons, List.length_nil, List.append_assoc, List.cons_append, List.nil_append, Nat.zero_add, Nat.reduceAdd]
  refine v_putF dX0_init_18 fl_X0_18 rfl rfl (by first | exact hB0 .. | exact hB1 .. | exact hB2 ..) (by rfl) (by rfl) (by exact Nat.le_of_ble_eq_true rfl) rfl ?_
  try simp only [hA0, hA1, hA2, List.length_append, List.length_cons, List.length_nil, List.append_assoc, List.cons_append, List.nil_append, Nat.zero_add, Nat.reduceAdd]
  refine v_aload_n dX0_init_21 rfl rfl ?_
  refine v_iconst (v := nI 4) dX0_init_22 (by decide) rfl ?_
  refine v_newa (N := 4) dX0_init_23 t_arrI rfl (by decide) (Nat.le_of_ble_eq_true rfl) (Nat.le_of_ble_eq_true rfl) rfl ?_
  try simp only [hA0, hA1, hA2, List.length_append, List.length_cons, List.length_nil, List.append_assoc, List.cons_append, List.nil_append, Nat.zero_add, Nat.reduceAdd]
  refine v_putF dX0_init_25 fl_X0_22 rfl rfl (by first | exact hB0 .. | exact hB1 .. | exact hB2 ..) (by rfl) (by rfl) (by exact Nat.le_of_ble_eq_true rfl) rfl ?_
  try simp only [hA0, hA1, hA2, List.length_append, List.length_cons, List.length_nil, List.append_assoc, List.cons_append, List.nil_append, Nat.zero_add, Nat.reduceAdd]
  refine v_aload_n dX0_init_28 rfl rfl ?_
  refine v_iload_n dX0_init_29 rfl rfl ?_
  refine v_putf dX0_init_30 fl_X0_25 (by first | exact hB0 .. | exact hB1 .. | exact hB2 ..) (by rfl) (by rfl) (by exact Nat.le_of_ble_eq_true rfl) rfl ?_
  try simp only [hA0, hA1, hA2, List.length_append, List.length_cons, List.length_nil, List.append_assoc, List.cons_append, List.nil_append, Nat.zero_add, Nat.reduceAdd]
  refine v_iconst (v := nI 1) dX0_init_33 (by decide) rfl ?_
  refine v_istore_n dX0_init_34 (Nat.le_of_ble_eq_true rfl) rfl ?_
  refine v_iload_n dX0_init_35 rfl rfl ?_
  refine v_iconst (v := nI 4) dX0_init_36 (by decide) rfl ?_
  refine v_icmp_ge (tgt := 66) dX0_init_37 (by decide) rfl (fun q => absurd q (by decide)) (fun _ => ?_)
  refine v_aload_n dX0_init_40 rfl rfl ?_
  refine v_getf dX0_init_41 fl_X0_18 (by first | exact hB0 .. | exact hB1 .. | exact hB2 ..) (by rfl) rfl ?_
  refine v_iload_n dX0_init_44 rfl rfl ?_
  refine v_iconst (v := nI 3) dX0_init_45 (by decide) rfl ?_
  refine v_iload_n dX0_init_46 rfl rfl ?_
  refine v_imul dX0_init_47 rfl ?_
  refine v_top (y := nI 3) (by decide) ?_
  refine v_iconst (v := nI 2) dX0_init_48 (by decide) rfl ?_
  refine v_isub dX0_init_49 rfl ?_
  refine v_top (y := nI 1) (by decide) ?_
  refine v_iast 1 dX0_init_50 (by first | exact hB0 .. | exact hB1 .. | exact hB2 ..) rfl (by decide) (by decide) rfl ?_
  try simp only [hA0, hA1, hA2, List.length_append, List.length_cons, List.length_nil, List.append_assoc, List.cons_append, List.nil_append, Nat.zero_add, Nat.reduceAdd]
  refine v_aload_n dX0_init_51 rfl rfl ?_
  refine v_getf dX0_init_52 fl_X0_22 (by first | exact hB0 .. | exact hB1 .. | exact hB2 ..) (by rfl) rfl ?_
  refine v_iload_n dX0_init_55 rfl rfl ?_
  refine v_iconst (v := nI 3) dX0_init_56 (by decide) rfl ?_
  refine v_iload_n dX0_init_57 rfl rfl ?_
  refine v_imul dX0_init_58 rfl ?_
  refine v_top (y := nI 3) (by decide) ?_
  refine v_iast 1 dX0_init_59 (by first | exact hB0 .. | exact hB1 .. | exact hB2 ..) rfl (by decide) (by decide) rfl ?_
  try simp only [hA0, hA1, hA2, List.length_append, List.length_cons, List.length_nil, List.append_assoc, List.cons_append, List.nil_append, Nat.zero_add, Nat.reduceAdd]
  refine v_iinc (v := nI 2) dX0_init_60 rfl (by decide) (Nat.le_of_ble_eq_true rfl) rfl ?_
  refine v_goto (tgt := 35) dX0_init_63 (by decide) ?_
  refine v_iload_n dX0_init_35 rfl rfl ?_
  refine v_iconst (v := nI 4) dX0_init_36 (by decide) rfl ?_
  refine v_icmp_ge (tgt := 66) dX0_init_37 (by decide) rfl (fun q => absurd q (by decide)) (fun _ => ?_)
  refine v_aload_n dX0_init_40 rfl rfl ?_
  refine v_getf dX0_init_41 fl_X0_18 (by first | exact hB0 .. | exact hB1 .. | exact hB2 ..) (by rfl) rfl ?_
  refine v_iload_n dX0_init_44 rfl rfl ?_
  refine v_iconst (v := nI 3) dX0_init_45 (by decide) rfl ?_
  refine v_iload_n dX0_init_46 rfl rfl ?_
  refine v_imul dX0_init_47 rfl ?_
  refine v_top (y := nI 6) (by decide) ?_
  refine v_iconst (v := nI 2) dX0_init_48 (by decide) rfl ?_
  refine v_isub dX0_init_49 rfl ?_
  refine v_top (y := nI 4) (by decide) ?_
  refine v_iast 2 dX0_init_50 (by first | exact hB0 .. | exact hB1 .. | exact hB2 ..) rfl (by decide) (by decide) rfl ?_
  try simp only [hA0, hA1, hA2, List.length_append, List.length_cons, List.length_nil, List.append_assoc, List.cons_append, List.nil_append, Nat.zero_add, Nat.reduceAdd]
  refine v_aload_n dX0_init_51 rfl rfl ?_
  refine v_getf dX0_init_52 fl_X0_22 (by first | exact hB0 .. | exact hB1 .. | exact hB2 ..) (by rfl) rfl ?_
  refine v_iload_n dX0_init_55 rfl rfl ?_
  refine v_iconst (v := nI 3) dX0_init_56 (by decide) rfl ?_
  refine v_iload_n dX0_init_57 rfl rfl ?_
  refine v_imul dX0_init_58 rfl ?_
  refine v_top (y := nI 6) (by decide) ?_
  refine v_iast 2 dX0_init_59 (by first | exact hB0 .. | exact hB1 .. | exact hB2 ..) rfl (by decide) (by decide) rfl ?_
  try simp only [hA0, hA1, hA2, List.length_append, List.length_cons, List.length_nil, List.append_assoc, List.cons_append, List.nil_append, Nat.zero_add, Nat.reduceAdd]
  refine v_iinc (v := nI 3) dX0_init_60 rfl (by decide) (Nat.le_of_ble_eq_true rfl) rfl ?_
  refine v_goto (tgt := 35) dX0_init_63 (by decide) ?_
  refine v_iload_n dX0_init_35 rfl rfl ?_
  refine v_iconst (v := nI 4) dX0_init_36 (by decide) rfl ?_
  refine v_icmp_ge (tgt := 66) dX0_init_37 (by decide) rfl (fun q => absurd q (by decide)) (fun _ => ?_)
  refine v_aload_n dX0_init_40 rfl rfl ?_
  refine v_getf dX0_init_41 fl_X0_18 (by first | exact hB0 .. | exact hB1 .. | exact hB2 ..) (by rfl) rfl ?_
  refine v_iload_n dX0_init_44 rfl rfl ?_
  refine v_iconst (v := nI 3) dX0_init_45 (by decide) rfl ?_
  refine v_iload_n dX0_init_46 rfl rfl ?_
  refine v_imul dX0_init_47 rfl ?_
  refine v_top (y := nI 9) (by decide) ?_
  refine v_iconst (v := nI 2) dX0_init_48 (by decide) rfl ?_
  refine v_isub dX0_init_49 rfl ?_
  refine v_top (y := nI 7) (by decide) ?_
  refine v_iast 3 dX0_init_50 (by first | exact hB0 .. | exact hB1 .. | exact hB2 ..) rfl (by decide) (by decide) rfl ?_
  try simp only [hA0, hA1, hA2, List.length_append, List.length_cons, List.length_nil, List.append_assoc, List.cons_append, List.nil_append, Nat.zero_add, Nat.reduceAdd]
  refine v_aload_n dX0_init_51 rfl rfl ?_
  refine v_getf dX0_init_52 fl_X0_22 (by first | exact hB0 .. | exact hB1 .. | exact hB2 ..) (by rfl) rfl ?_
  refine v_iload_n dX0_init_55 rfl rfl ?_
  refine v_iconst (v := nI 3) dX0_init_56 (by decide) rfl ?_
  refine v_iload_n dX0_init_57 rfl rfl ?_
  refine v_imul dX0_init_58 rfl ?_
  refine v_top (y := nI 9) (by decide) ?_
  refine v_iast 3 dX0_init_59 (by first | exact hB0 .. | exact hB1 .. | exact hB2 ..) rfl (by decide) (by decide) rfl ?_
  try simp only [hA0, hA1, hA2, List.length_append, List.length_cons, List.length_nil, List.append_assoc, List.cons_append, List.nil_append, Nat.zero_add, Nat.reduceAdd]
  refine v_iinc (v := nI 4) dX0_init_60 rfl (by decide) (Nat.le_of_ble_eq_true rfl) rfl ?_
  refine v_goto (tgt := 35) dX0_init_63 (by decide) ?_
  refine v_iload_n dX0_init_35 rfl rfl ?_
  refine v_iconst (v := nI 4) dX0_init_36 (by decide) rfl ?_
  refine v_icmp_ge (tgt := 66) dX0_init_37 (by decide) rfl (fun _ => ?_) (fun q => absurd (by decide) q)
  exact v_vret dX0_init_66 rfl ⟨Nat.le_of_ble_eq_true rfl, Nat.le_of_ble_eq_true rfl⟩ (⟨rfl, rfl⟩)
end MAKE

