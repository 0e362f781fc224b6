-- LOOK: by first | assumption | rfl
/-! A NEW OBJECT OF THE CLASS; a new WORK -/
theorem get_app {hp r : List va_E} {i : Nat} (h : i < hp.length) : (hp ++ r)[i]? = hp[i]? := List.getElem?_append_left h
def gl0 (G : GG) : Nat → Option Nat := va_up (va_up (va_up (va_up (va_up (va_up (va_up (va_up (fun _ => none) 0 (some (G.2.2.2 + 7))) 1 (some (G.2.2.2 + 10))) 2 (some (G.2.2.2 + 13))) 3 (some (G.2.2.2 + 16))) 4 (some (G.2.2.2 + 19))) 5 (some (G.2.2.2 + 22))) 6 (some (G.2.2.2 + 25))) 7 (some (G.2.2.2 + 28))
def H31 (G : GG) : List va_E := [ob 2 [.ref (G.2.2.2 + 1), .ref (G.2.2.2 + 2), .int (nI 0), .long 0, .ref (G.2.2.2 + 3), .ref (G.2.2.2 + 4), .ref (G.2.2.2 + 5), .ref (G.2.2.2 + 6)], aL G 8 (gl0 G), aW G 12 (fun _ => none), aI G 6 (fun _ => 0), aI G 4 (fun _ => 0), aI G 12 (fun _ => 0), aI G 12 (fun _ => 0), ob 0 [.int (nI 0), .int (nI 0), .int (nI 1), .ref (G.2.2.2 + 8), .ref (G.2.2.2 + 9)], aI G 4 lF0, aI G 4 lT0, ob 0 [.int (nI 0), .int (nI 1), .int (nI 1), .ref (G.2.2.2 + 11), .ref (G.2.2.2 + 12)], aI G 4 lF0, aI G 4 lT0, ob 0 [.int (nI 0), .int (nI 2), .int (nI 1), .ref (G.2.2.2 + 14), .ref (G.2.2.2 + 15)], aI G 4 lF0, aI G 4 lT0, ob 0 [.int (nI 0), .int (nI 3), .int (nI 1), .ref (G.2.2.2 + 17), .ref (G.2.2.2 + 18)], aI G 4 lF0, aI G 4 lT0, ob 0 [.int (nI 0), .int (nI 0), .int (nI 1), .ref (G.2.2.2 + 20), .ref (G.2.2.2 + 21)], aI G 4 lF0, aI G 4 lT0, ob 0 [.int (nI 0), .int (nI 1), .int (nI 1), .ref (G.2.2.2 + 23), .ref (G.2.2.2 + 24)], aI G 4 lF0, aI G 4 lT0, ob 0 [.int (nI 0), .int (nI 2), .int (nI 1), .ref (G.2.2.2 + 26), .ref (G.2.2.2 + 27)], aI G 4 lF0, aI G 4 lT0, ob 0 [.int (nI 0), .int (nI 3), .int (nI 1), .ref (G.2.2.2 + 29), .ref (G.2.2.2 + 30)], aI G 4 lF0, aI G 4 lT0]
section MAKE2
variable (G : GG)
set_option maxHeartbeats 1000000 in
set_option maxRecDepth 10000 in
theorem c_sheetsInit : Ct G mX2_init 2 30 158 [.ref (G.2.2.2 + 0)] [ob 2 [.null, .null, .int 0, .long 0, .null, .null, .null, .null]] (Qf none (H31 G)) := by
  refine Ct.start 1 (by decide) rfl (Nat.le_of_ble_eq_true rfl) ?_
  refine v_aload_n dX2_init_0 rfl rfl ?_
  refine v_objInit dX2_init_1 to_X2_3 tn_obj tc_obj (Nat.le_of_ble_eq_true rfl) (Nat.le_of_ble_eq_true rfl) rfl ?_
  try simp only [List.length_cons, List.length_nil, List.cons_append, List.nil_append, List.set_cons_zero, List.set_cons_succ, Nat.zero_add, Nat.reduceAdd]
  refine v_aload_n dX2_init_4 rfl rfl ?_
  refine v_bipush (v := nI 8) dX2_init_5 (by decide) rfl ?_
  refine v_anewL (N := 8) dX2_init_7 tk_X2_9 rfl (by decide) (Nat.le_of_ble_eq_true rfl) (Nat.le_of_ble_eq_true rfl) rfl ?_
  try simp only [List.length_cons, List.length_nil, List.cons_append, List.nil_append, List.set_cons_zero, List.set_cons_succ, Nat.zero_add, Nat.reduceAdd]
  refine v_putF dX2_init_10 fl_X2_11 rfl rfl (by first | assumption | rfl) (by rfl) (by rfl) (by exact Nat.le_of_ble_eq_true rfl) rfl ?_
  try simp only [List.length_cons, List.length_nil, List.cons_append, List.nil_append, List.set_cons_zero, List.set_cons_succ, Nat.zero_add, Nat.reduceAdd]
  refine v_aload_n dX2_init_13 rfl rfl ?_
  refine v_bipush (v := nI 12) dX2_init_14 (by decide) rfl ?_
  refine v_anewW (N := 12) dX2_init_16 tk_X2_15 rfl (by decide) (Nat.le_of_ble_eq_true rfl) (Nat.le_of_ble_eq_true rfl) rfl ?_
  try simp only [List.length_cons, List.length_nil, List.cons_append, List.nil_append, List.set_cons_zero, List.set_cons_succ, Nat.zero_add, Nat.reduceAdd]
  refine v_putF dX2_init_19 fl_X2_17 rfl rfl (by first | assumption | rfl) (by rfl) (by rfl) (by exact Nat.le_of_ble_eq_true rfl) rfl ?_
  try simp only [List.length_cons, List.length_nil, List.cons_append, List.nil_append, List.set_cons_zero, List.set_cons_succ, Nat.zero_add, Nat.reduceAdd]
  refine v_aload_n dX2_init_22 rfl rfl ?_
  refine v_iconst (v := nI 0) dX2_init_23 (by decide) rfl ?_
  refine v_putf dX2_init_24 fl_X2_21 (by first | assumption | rfl) (by rfl) (by rfl) (by exact Nat.le_of_ble_eq_true rfl) rfl ?_
  try simp only [List.length_cons, List.length_nil, List.cons_append, List.nil_append, List.set_cons_zero, List.set_cons_succ, Nat.zero_add, Nat.reduceAdd]
  refine v_aload_n dX2_init_27 rfl rfl ?_
  refine v_lconst (v := 0) dX2_init_28 (by decide) rfl ?_
  refine v_putf dX2_init_29 fl_X2_25 (by first | assumption | rfl) (by rfl) (by rfl) (by exact Nat.le_of_ble_eq_true rfl) rfl ?_
  try simp only [List.length_cons, List.length_nil, List.cons_append, List.nil_append, List.set_cons_zero, List.set_cons_succ, Nat.zero_add, Nat.reduceAdd]
  refine v_aload_n dX2_init_32 rfl rfl ?_
  refine v_bipush (v := nI 6) dX2_init_33 (by decide) rfl ?_
  refine v_newa (N := 6) dX2_init_35 t_arrI rfl (by decide) (Nat.le_of_ble_eq_true rfl) (Nat.le_of_ble_eq_true rfl) rfl ?_
  try simp only [List.length_cons, List.length_nil, List.cons_append, List.nil_append, List.set_cons_zero, List.set_cons_succ, Nat.zero_add, Nat.reduceAdd]
  refine v_putF dX2_init_37 fl_X2_29 rfl rfl (by first | assumption | rfl) (by rfl) (by rfl) (by exact Nat.le_of_ble_eq_true rfl) rfl ?_
  try simp only [List.length_cons, List.length_nil, List.cons_append, List.nil_append, List.set_cons_zero, List.set_cons_succ, Nat.zero_add, Nat.reduceAdd]
  refine v_aload_n dX2_init_40 rfl rfl ?_
  refine v_iconst (v := nI 4) dX2_init_41 (by decide) rfl ?_
  refine v_newa (N := 4) dX2_init_42 t_arrI rfl (by decide) (Nat.le_of_ble_eq_true rfl) (Nat.le_of_ble_eq_true rfl) rfl ?_
  try simp only [List.length_cons, List.length_nil, List.cons_append, List.nil_append, List.set_cons_zero, List.set_cons_succ, Nat.zero_add, Nat.reduceAdd]
  refine v_putF dX2_init_44 fl_X2_33 rfl rfl (by first | assumption | rfl) (by rfl) (by rfl) (by exact Nat.le_of_ble_eq_true rfl) rfl ?_
  try simp only [List.length_cons, List.length_nil, List.cons_append, List.nil_append, List.set_cons_zero, List.set_cons_succ, Nat.zero_add, Nat.reduceAdd]
  refine v_aload_n dX2_init_47 rfl rfl ?_
  refine v_bipush (v := nI 12) dX2_init_48 (by decide) rfl ?_
  refine v_newa (N := 12) dX2_init_50 t_arrI rfl (by decide) (Nat.le_of_ble_eq_true rfl) (Nat.le_of_ble_eq_true rfl) rfl ?_
  try simp only [List.length_cons, List.length_nil, List.cons_append, List.nil_append, List.set_cons_zero, List.set_cons_succ, Nat.zero_add, Nat.reduceAdd]
  refine v_putF dX2_init_52 fl_X2_36 rfl rfl (by first | assumption | rfl) (by rfl) (by rfl) (by exact Nat.le_of_ble_eq_true rfl) rfl ?_
  try simp only [List.length_cons, List.length_nil, List.cons_append, List.nil_append, List.set_cons_zero, List.set_cons_succ, Nat.zero_add, Nat.reduceAdd]
  refine v_aload_n dX2_init_55 rfl rfl ?_
  refine v_bipush (v := nI 12) dX2_init_56 (by decide) rfl ?_
  refine v_newa (N := 12) dX2_init_58 t_arrI rfl (by decide) (Nat.le_of_ble_eq_true rfl) (Nat.le_of_ble_eq_true rfl) rfl ?_
  try simp only [List.length_cons, List.length_nil, List.cons_append, List.nil_append, List.set_cons_zero, List.set_cons_succ, Nat.zero_add, Nat.reduceAdd]
  refine v_putF dX2_init_60 fl_X2_39 rfl rfl (by first | assumption | rfl) (by rfl) (by rfl) (by exact Nat.le_of_ble_eq_true rfl) rfl ?_
  try simp only [List.length_cons, List.length_nil, List.cons_append, List.nil_append, List.set_cons_zero, List.set_cons_succ, Nat.zero_add, Nat.reduceAdd]
  refine v_iconst (v := nI 0) dX2_init_63 (by decide) rfl ?_
  refine v_istore_n dX2_init_64 (Nat.le_of_ble_eq_true rfl) rfl ?_
  refine v_iload_n dX2_init_65 rfl rfl ?_
  refine v_bipush (v := nI 8) dX2_init_66 (by decide) rfl ?_
  refine v_icmp_ge (tgt := 93) dX2_init_68 (by decide) rfl (fun q => absurd q (by decide)) (fun _ => ?_)
  refine v_aload_n dX2_init_71 rfl rfl ?_
  refine v_getf dX2_init_72 fl_X2_11 (by first | assumption | rfl) (by rfl) rfl ?_
  refine v_iload_n dX2_init_75 rfl rfl ?_
  refine v_new (fs := [.int 0, .int 0, .int 0, .null, .null]) dX2_init_76 ci0 tk_X2_9 tt_X0 ti_X0 (by decide) (Nat.le_of_ble_eq_true rfl) (Nat.le_of_ble_eq_true rfl) rfl ?_
  refine v_dup dX2_init_79 rfl rfl ?_
  refine v_iload_n dX2_init_80 rfl rfl ?_
  refine v_iconst (v := nI 4) dX2_init_81 (by decide) rfl ?_
  refine v_irem dX2_init_82 (by decide) rfl ?_
  refine v_top (y := nI 0) (by decide) ?_
  refine v_cin dX2_init_83 cw_X2_42 ⟨rfl, tn_X0_init⟩ rfl (c_lineInit G _ (nI 0)) (by rfl) (by rfl) (Nat.le_of_ble_eq_true rfl) (Nat.le_of_ble_eq_true rfl) (Nat.le_of_ble_eq_true rfl) (Nat.le_of_ble_eq_true rfl) (Nat.le_of_ble_eq_true rfl) rfl ?_
  try simp only [List.length_cons, List.length_nil, List.cons_append, List.nil_append, List.set_cons_zero, List.set_cons_succ, Nat.zero_add, Nat.reduceAdd]
  refine v_aastL 0 dX2_init_86 (by first | assumption | rfl) (by rfl) rfl (by decide) (by decide) rfl ?_
  try simp only [List.length_cons, List.length_nil, List.cons_append, List.nil_append, List.set_cons_zero, List.set_cons_succ, Nat.zero_add, Nat.reduceAdd]
  refine v_iinc (v := nI 1) dX2_init_87 rfl (by decide) (Nat.le_of_ble_eq_true rfl) rfl ?_
  refine v_goto (tgt := 65) dX2_init_90 (by decide) ?_
  refine v_iload_n dX2_init_65 rfl rfl ?_
  refine v_bipush (v := nI 8) dX2_init_66 (by decide) rfl ?_
  refine v_icmp_ge (tgt := 93) dX2_init_68 (by decide) rfl (fun q => absurd q (by decide)) (fun _ => ?_)
  refine v_aload_n dX2_init_71 rfl rfl ?_
  refine v_getf dX2_init_72 fl_X2_11 (by first | assumption | rfl) (by rfl) rfl ?_
  refine v_iload_n dX2_init_75 rfl rfl ?_
  refine v_new (fs := [.int 0, .int 0, .int 0, .null, .null]) dX2_init_76 ci0 tk_X2_9 tt_X0 ti_X0 (by decide) (Nat.le_of_ble_eq_true rfl) (Nat.le_of_ble_eq_true rfl) rfl ?_
  refine v_dup dX2_init_79 rfl rfl ?_
  refine v_iload_n dX2_init_80 rfl rfl ?_
  refine v_iconst (v := nI 4) dX2_init_81 (by decide) rfl ?_
  refine v_irem dX2_init_82 (by decide) rfl ?_
  refine v_top (y := nI 1) (by decide) ?_
  refine v_cin dX2_init_83 cw_X2_42 ⟨rfl, tn_X0_init⟩ rfl (c_lineInit G _ (nI 1)) (by rfl) (by rfl) (Nat.le_of_ble_eq_true rfl) (Nat.le_of_ble_eq_true rfl) (Nat.le_of_ble_eq_true rfl) (Nat.le_of_ble_eq_true rfl) (Nat.le_of_ble_eq_true rfl) rfl ?_
  try simp only [List.length_cons, List.length_nil, List.cons_append, List.nil_append, List.set_cons_zero, List.set_cons_succ, Nat.zero_add, Nat.reduceAdd]
  refine v_aastL 1 dX2_init_86 (by first | assumption | rfl) (by rfl) rfl (by decide) (by decide) rfl ?_
  try simp only [List.length_cons, List.length_nil, List.cons_append, List.nil_append, List.set_cons_zero, List.set_cons_succ, Nat.zero_add, Nat.reduceAdd]
  refine v_iinc (v := nI 2) dX2_init_87 rfl (by decide) (Nat.le_of_ble_eq_true rfl) rfl ?_
  refine v_goto (tgt := 65) dX2_init_90 (by decide) ?_
  refine v_iload_n dX2_init_65 rfl rfl ?_
  refine v_bipush (v := nI 8) dX2_init_66 (by decide) rfl ?_
  refine v_icmp_ge (tgt := 93) dX2_init_68 (by decide) rfl (fun q => absurd q (by decide)) (fun _ => ?_)
  refine v_aload_n dX2_init_71 rfl rfl ?_
  refine v_getf dX2_init_72 fl_X2_11 (by first | assumption | rfl) (by rfl) rfl ?_
  refine v_iload_n dX2_init_75 rfl rfl ?_
  refine v_new (fs := [.int 0, .int 0, .int 0, .null, .null]) dX2_init_76 ci0 tk_X2_9 tt_X0 ti_X0 (by decide) (Nat.le_of_ble_eq_true rfl) (Nat.le_of_ble_eq_true rfl) rfl ?_
  refine v_dup dX2_init_79 rfl rfl ?_
  refine v_iload_n dX2_init_80 rfl rfl ?_
  refine v_iconst (v := nI 4) dX2_init_81 (by decide) rfl ?_
  refine v_irem dX2_init_82 (by decide) rfl ?_
  refine v_top (y := nI 2) (by decide) ?_
  refine v_cin dX2_init_83 cw_X2_42 ⟨rfl, tn_X0_init⟩ rfl (c_lineInit G _ (nI 2)) (by rfl) (by rfl) (Nat.le_of_ble_eq_true rfl) (Nat.le_of_ble_eq_true rfl) (Nat.le_of_ble_eq_true rfl) (Nat.le_of_ble_eq_true rfl) (Nat.le_of_ble_eq_true rfl) rfl ?_
  try simp only [List.length_cons, List.length_nil, List.cons_append, List.nil_append, List.set_cons_zero, List.set_cons_succ, Nat.zero_add, Nat.reduceAdd]
  refine v_aastL 2 dX2_init_86 (by first | assumption | rfl) (by rfl) rfl (by decide) (by decide) rfl ?_
  try simp only [List.length_cons, List.length_nil, List.cons_append, List.nil_append, List.set_cons_zero, List.set_cons_succ, Nat.zero_add, Nat.reduceAdd]
  refine v_iinc (v := nI 3) dX2_init_87 rfl (by decide) (Nat.le_of_ble_eq_true rfl) rfl ?_
  refine v_goto (tgt := 65) dX2_init_90 (by decide) ?_
  refine v_iload_n dX2_init_65 rfl rfl ?_
  refine v_bipush (v := nI 8) dX2_init_66 (by decide) rfl ?_
  refine v_icmp_ge (tgt := 93) dX2_init_68 (by decide) rfl (fun q => absurd q (by decide)) (fun _ => ?_)
  refine v_aload_n dX2_init_71 rfl rfl ?_
  refine v_getf dX2_init_72 fl_X2_11 (by first | assumption | rfl) (by rfl) rfl ?_
  refine v_iload_n dX2_init_75 rfl rfl ?_
  refine v_new (fs := [.int 0, .int 0, .int 0, .null, .null]) dX2_init_76 ci0 tk_X2_9 tt_X0 ti_X0 (by decide) (Nat.le_of_ble_eq_true rfl) (Nat.le_of_ble_eq_true rfl) rfl ?_
  refine v_dup dX2_init_79 rfl rfl ?_
  refine v_iload_n dX2_init_80 rfl rfl ?_
  refine v_iconst (v := nI 4) dX2_init_81 (by decide) rfl ?_
  refine v_irem dX2_init_82 (by decide) rfl ?_
  refine v_top (y := nI 3) (by decide) ?_
  refine v_cin dX2_init_83 cw_X2_42 ⟨rfl, tn_X0_init⟩ rfl (c_lineInit G _ (nI 3)) (by rfl) (by rfl) (Nat.le_of_ble_eq_true rfl) (Nat.le_of_ble_eq_true rfl) (Nat.le_of_ble_eq_true rfl) (Nat.le_of_ble_eq_true rfl) (Nat.le_of_ble_eq_true rfl) rfl ?_
  try simp only [List.length_cons, List.length_nil, List.cons_append, List.nil_append, List.set_cons_zero, List.set_cons_succ, Nat.zero_add, Nat.reduceAdd]
  refine v_aastL 3 dX2_init_86 (by first | assumption | rfl) (by rfl) rfl (by decide) (by decide) rfl ?_
  try simp only [List.length_cons, List.length_nil, List.cons_append, List.nil_append, List.set_cons_zero, List.set_cons_succ, Nat.zero_add, Nat.reduceAdd]
  refine v_iinc (v := nI 4) dX2_init_87 rfl (by decide) (Nat.le_of_ble_eq_true rfl) rfl ?_
  refine v_goto (tgt := 65) dX2_init_90 (by decide) ?_
  refine v_iload_n dX2_init_65 rfl rfl ?_
  refine v_bipush (v := nI 8) dX2_init_66 (by decide) rfl ?_
  refine v_icmp_ge (tgt := 93) dX2_init_68 (by decide) rfl (fun q => absurd q (by decide)) (fun _ => ?_)
  refine v_aload_n dX2_init_71 rfl rfl ?_
  refine v_getf dX2_init_72 fl_X2_11 (by first | assumption | rfl) (by rfl) rfl ?_
  refine v_iload_n dX2_init_75 rfl rfl ?_
  refine v_new (fs := [.int 0, .int 0, .int 0, .null, .null]) dX2_init_76 ci0 tk_X2_9 tt_X0 ti_X0 (by decide) (Nat.le_of_ble_eq_true rfl) (Nat.le_of_ble_eq_true rfl) rfl ?_
  refine v_dup dX2_init_79 rfl rfl ?_
  refine v_iload_n dX2_init_80 rfl rfl ?_
  refine v_iconst (v := nI 4) dX2_init_81 (by decide) rfl ?_
  refine v_irem dX2_init_82 (by decide) rfl ?_
  refine v_top (y := nI 0) (by decide) ?_
  refine v_cin dX2_init_83 cw_X2_42 ⟨rfl, tn_X0_init⟩ rfl (c_lineInit G _ (nI 0)) (by rfl) (by rfl) (Nat.le_of_ble_eq_true rfl) (Nat.le_of_ble_eq_true rfl) (Nat.le_of_ble_eq_true rfl) (Nat.le_of_ble_eq_true rfl) (Nat.le_of_ble_eq_true rfl) rfl ?_
  try simp only [List.length_cons, List.length_nil, List.cons_append, List.nil_append, List.set_cons_zero, List.set_cons_succ, Nat.zero_add, Nat.reduceAdd]
  refine v_aastL 4 dX2_init_86 (by first | assumption | rfl) (by rfl) rfl (by decide) (by decide) rfl ?_
  try simp only [List.length_cons, List.length_nil, List.cons_append, List.nil_append, List.set_cons_zero, List.set_cons_succ, Nat.zero_add, Nat.reduceAdd]
  refine v_iinc (v := nI 5) dX2_init_87 rfl (by decide) (Nat.le_of_ble_eq_true rfl) rfl ?_
  refine v_goto (tgt := 65) dX2_init_90 (by decide) ?_
  refine v_iload_n dX2_init_65 rfl rfl ?_
  refine v_bipush (v := nI 8) dX2_init_66 (by decide) rfl ?_
  refine v_icmp_ge (tgt := 93) dX2_init_68 (by decide) rfl (fun q => absurd q (by decide)) (fun _ => ?_)
  refine v_aload_n dX2_init_71 rfl rfl ?_
  refine v_getf dX2_init_72 fl_X2_11 (by first | assumption | rfl) (by rfl) rfl ?_
  refine v_iload_n dX2_init_75 rfl rfl ?_
  refine v_new (fs := [.int 0, .int 0, .int 0, .null, .null]) dX2_init_76 ci0 tk_X2_9 tt_X0 ti_X0 (by decide) (Nat.le_of_ble_eq_true rfl) (Nat.le_of_ble_eq_true rfl) rfl ?_
  refine v_dup dX2_init_79 rfl rfl ?_
  refine v_iload_n dX2_init_80 rfl rfl ?_
  refine v_iconst (v := nI 4) dX2_init_81 (by decide) rfl ?_
  refine v_irem dX2_init_82 (by decide) rfl ?_
  refine v_top (y := nI 1) (by decide) ?_
  refine v_cin dX2_init_83 cw_X2_42 ⟨rfl, tn_X0_init⟩ rfl (c_lineInit G _ (nI 1)) (by rfl) (by rfl) (Nat.le_of_ble_eq_true rfl) (Nat.le_of_ble_eq_true rfl) (Nat.le_of_ble_eq_true rfl) (Nat.le_of_ble_eq_true rfl) (Nat.le_of_ble_eq_true rfl) rfl ?_
  try simp only [List.length_cons, List.length_nil, List.cons_append, List.nil_append, List.set_cons_zero, List.set_cons_succ, Nat.zero_add, Nat.reduceAdd]
  refine v_aastL 5 dX2_init_86 (by first | assumption | rfl) (by rfl) rfl (by decide) (by decide) rfl ?_
  try simp only [List.length_cons, List.length_nil, List.cons_append, List.nil_append, List.set_cons_zero, List.set_cons_succ, Nat.zero_add, Nat.reduceAdd]
  refine v_iinc (v := nI 6) dX2_init_87 rfl (by decide) (Nat.le_of_ble_eq_true rfl) rfl ?_
  refine v_goto (tgt := 65) dX2_init_90 (by decide) ?_
  refine v_iload_n dX2_init_65 rfl rfl ?_
  refine v_bipush (v := nI 8) dX2_init_66 (by decide) rfl ?_
  refine v_icmp_ge (tgt := 93) dX2_init_68 (by decide) rfl (fun q => absurd q (by decide)) (fun _ => ?_)
  refine v_aload_n dX2_init_71 rfl rfl ?_
  refine v_getf dX2_init_72 fl_X2_11 (by first | assumption | rfl) (by rfl) rfl ?_
  refine v_iload_n dX2_init_75 rfl rfl ?_
  refine v_new (fs := [.int 0, .int 0, .int 0, .null, .null]) dX2_init_76 ci0 tk_X2_9 tt_X0 ti_X0 (by decide) (Nat.le_of_ble_eq_true rfl) (Nat.le_of_ble_eq_true rfl) rfl ?_
  refine v_dup dX2_init_79 rfl rfl ?_
  refine v_iload_n dX2_init_80 rfl rfl ?_
  refine v_iconst (v := nI 4) dX2_init_81 (by decide) rfl ?_
  refine v_irem dX2_init_82 (by decide) rfl ?_
  refine v_top (y := nI 2) (by decide) ?_
  refine v_cin dX2_init_83 cw_X2_42 ⟨rfl, tn_X0_init⟩ rfl (c_lineInit G _ (nI 2)) (by rfl) (by rfl) (Nat.le_of_ble_eq_true rfl) (Nat.le_of_ble_eq_true rfl) (Nat.le_of_ble_eq_true rfl) (Nat.le_of_ble_eq_true rfl) (Nat.le_of_ble_eq_true rfl) rfl ?_
  try simp only [List.length_cons, List.length_nil, List.cons_append, List.nil_append, List.set_cons_zero, List.set_cons_succ, Nat.zero_add, Nat.reduceAdd]
  refine v_aastL 6 dX2_init_86 (by first | assumption | rfl) (by rfl) rfl (by decide) (by decide) rfl ?_
  try simp only [List.length_cons, List.length_nil, List.cons_append, List.nil_append, List.set_cons_zero, List.set_cons_succ, Nat.zero_add, Nat.reduceAdd]
  refine v_iinc (v := nI 7) dX2_init_87 rfl (by decide) (Nat.le_of_ble_eq_true rfl) rfl ?_
  refine v_goto (tgt := 65) dX2_init_90 (by decide) ?_
  refine v_iload_n dX2_init_65 rfl rfl ?_
  refine v_bipush (v := nI 8) dX2_init_66 (by decide) rfl ?_
  refine v_icmp_ge (tgt := 93) dX2_init_68 (by decide) rfl (fun q => absurd q (by decide)) (fun _ => ?_)
  refine v_aload_n dX2_init_71 rfl rfl ?_
  refine v_getf dX2_init_72 fl_X2_11 (by first | assumption | rfl) (by rfl) rfl ?_
  refine v_iload_n dX2_init_75 rfl rfl ?_
  refine v_new (fs := [.int 0, .int 0, .int 0, .null, .null]) dX2_init_76 ci0 tk_X2_9 tt_X0 ti_X0 (by decide) (Nat.le_of_ble_eq_true rfl) (Nat.le_of_ble_eq_true rfl) rfl ?_
  refine v_dup dX2_init_79 rfl rfl ?_
  refine v_iload_n dX2_init_80 rfl rfl ?_
  refine v_iconst (v := nI 4) dX2_init_81 (by decide) rfl ?_
  refine v_irem dX2_init_82 (by decide) rfl ?_
  refine v_top (y := nI 3) (by decide) ?_
  refine v_cin dX2_init_83 cw_X2_42 ⟨rfl, tn_X0_init⟩ rfl (c_lineInit G _ (nI 3)) (by rfl) (by rfl) (Nat.le_of_ble_eq_true rfl) (Nat.le_of_ble_eq_true rfl) (Nat.le_of_ble_eq_true rfl) (Nat.le_of_ble_eq_true rfl) (Nat.le_of_ble_eq_true rfl) rfl ?_
  try simp only [List.length_cons, List.length_nil, List.cons_append, List.nil_append, List.set_cons_zero, List.set_cons_succ, Nat.zero_add, Nat.reduceAdd]
  refine v_aastL 7 dX2_init_86 (by first | assumption | rfl) (by rfl) rfl (by decide) (by decide) rfl ?_
  try simp only [List.length_cons, List.length_nil, List.cons_append, List.nil_append, List.set_cons_zero, List.set_cons_succ, Nat.zero_add, Nat.reduceAdd]
  refine v_iinc (v := nI 8) dX2_init_87 rfl (by decide) (Nat.le_of_ble_eq_true rfl) rfl ?_
  refine v_goto (tgt := 65) dX2_init_90 (by decide) ?_
  refine v_iload_n dX2_init_65 rfl rfl ?_
  refine v_bipush (v := nI 8) dX2_init_66 (by decide) rfl ?_
  refine v_icmp_ge (tgt := 93) dX2_init_68 (by decide) rfl (fun _ => ?_) (fun q => absurd (by decide) q)
  exact v_vret dX2_init_93 rfl ⟨Nat.le_of_ble_eq_true rfl, Nat.le_of_ble_eq_true rfl⟩ (⟨rfl, rfl⟩)
end MAKE2
def addW (s : ST) (a b c d : Int32) : ST := (s.1, s.2.1, s.2.2.1, s.2.2.2.1, s.2.2.2.2.1, s.2.2.2.2.2.1 + 1, updF s.2.2.2.2.2.2.1 s.2.2.2.2.2.1 (wF0 a b c d), updF s.2.2.2.2.2.2.2.1 s.2.2.2.2.2.1 wM0, upd s.2.2.2.2.2.2.2.2.1 s.2.2.2.2.2.1 (-900), s.2.2.2.2.2.2.2.2.2)
section ADDW
variable {G : GG} {hp h : List va_E} {s : ST} {x : XT}
theorem PX.addW (hX : PX G s x hp) (hn12 : s.n < 12) (a b c d : Int32) (h0' : h[0]? = some (ob 2 [.ref (G.2.2.2 + 1), .ref (G.2.2.2 + 2), .int (nI (s.n + 1)), .long s.tc, .ref (G.2.2.2 + 3), .ref (G.2.2.2 + 4), .ref (G.2.2.2 + 5), .ref (G.2.2.2 + 6)])) (h2' : h[2]? = some (aW G 12 (va_up x.2.2.1 s.n (some (G.2.2.2 + hp.length))))) (hf : ∀ i, i ≠ 0 → i ≠ 2 → i < hp.length → h[i]? = hp[i]?) (hW : WK G h hp.length (wF0 a b c d) wM0 (-900)) (hl : h.length = hp.length + 3) : PX G (addW s a b c d) (x.1, x.2.1, va_up x.2.2.1 s.n (some (G.2.2.2 + hp.length)), x.2.2.2) h := by
  obtain ⟨h0, h1, hgl, h2, hgw, h3, h4, h5, h6, hln, hwk, hn, hlen⟩ := hX
  refine ⟨h0', (hf 1 (by decide) (by decide) (by omega)).trans h1, hgl, h2', fun w hw => ?_, (hf _ (by decide) (by decide) (by omega)).trans h3, (hf _ (by decide) (by decide) (by omega)).trans h4, (hf _ (by decide) (by decide) (by omega)).trans h5, (hf _ (by decide) (by decide) (by omega)).trans h6, fun j hj => (hln j hj).frame (fun i q1 q2 => hf i (by have := la_in x.1 hj; omega) (by have := la_in x.1 hj; omega) (by have := la_in x.1 hj; omega)), fun w hw => ?_, hn12, ?_⟩
  · have hw : w < s.n + 1 := hw
    by_cases e : w = s.n
    · subst e
      rw [← hlen]
      exact if_pos rfl
    · exact (if_neg e).trans (hgw w (by omega))
  · have hw : w < s.n + 1 := hw
    by_cases e : w = s.n
    · subst e
      show WK G h _ (updF s.wf s.n (wF0 a b c d) s.n) (updF s.mr s.n wM0 s.n) (upd s.tr s.n (-900) s.n)
      rw [updF_s, updF_s, upd_s, ← hlen]
      exact hW
    · show WK G h _ (updF s.wf s.n (wF0 a b c d) w) (updF s.mr s.n wM0 w) (upd s.tr s.n (-900) w)
      rw [updF_n e, updF_n e, upd_n e]
      exact (hwk w (by omega)).frame (fun i q1 q2 => hf i (by omega) (by omega) (by omega))
  · show h.length = 42 + 3 * (s.n + 1)
    omega
end ADDW
section WORKF
variable (G : GG) (hp : List va_E) {s : ST} {x : XT}
theorem x_work_y (hX : PX G s x hp) (hn12 : s.n < 12) {a b c d : Int32} (ha : InR a 10) (hb : InR b 10) (hc : InR c 10) (hd : InR d 10) : Ct G mX2_work 2 3 10 [.ref (G.2.2.2 + 0), .int a, .int b, .int c, .int d] hp (QX G hp (nI s.n) (addW s a b c d)) := by
  obtain ⟨h0, h1, hgl, h2, hgw, h3, h4, h5, h6, hln, hwk, hn, hlen⟩ := id hX
  refine Ct.start 0 (by decide) rfl (Nat.le_of_ble_eq_true rfl) ?_
  refine v_iload_n dX2_work_0 rfl rfl ?_
  refine v_bipush (v := nI 9) dX2_work_1 (by decide) rfl ?_
  refine v_csf dX2_work_3 cw_X2_53 ts_X2_isUpTo ((c_isUpTo G hp a 9 (by decide)).yes ha) (by rfl) (by rfl) (Nat.le_of_ble_eq_true rfl) (Nat.le_of_ble_eq_true rfl) (Nat.le_of_ble_eq_true rfl) (Nat.le_of_ble_eq_true rfl) (Nat.le_of_ble_eq_true rfl) rfl ?_
  refine v_if_eq (tgt := 37) dX2_work_6 (by decide) rfl (fun q => absurd q (by decide)) (fun _ => ?_)
  refine v_iload_n dX2_work_9 rfl rfl ?_
  refine v_bipush (v := nI 9) dX2_work_10 (by decide) rfl ?_
  refine v_csf dX2_work_12 cw_X2_53 ts_X2_isUpTo ((c_isUpTo G hp b 9 (by decide)).yes hb) (by rfl) (by rfl) (Nat.le_of_ble_eq_true rfl) (Nat.le_of_ble_eq_true rfl) (Nat.le_of_ble_eq_true rfl) (Nat.le_of_ble_eq_true rfl) (Nat.le_of_ble_eq_true rfl) rfl ?_
  refine v_if_eq (tgt := 37) dX2_work_15 (by decide) rfl (fun q => absurd q (by decide)) (fun _ => ?_)
  refine v_iload_n dX2_work_18 rfl rfl ?_
  refine v_bipush (v := nI 9) dX2_work_19 (by decide) rfl ?_
  refine v_csf dX2_work_21 cw_X2_53 ts_X2_isUpTo ((c_isUpTo G hp c 9 (by decide)).yes hc) (by rfl) (by rfl) (Nat.le_of_ble_eq_true rfl) (Nat.le_of_ble_eq_true rfl) (Nat.le_of_ble_eq_true rfl) (Nat.le_of_ble_eq_true rfl) (Nat.le_of_ble_eq_true rfl) rfl ?_
  refine v_if_eq (tgt := 37) dX2_work_24 (by decide) rfl (fun q => absurd q (by decide)) (fun _ => ?_)
  refine v_iload dX2_work_27 rfl rfl ?_
  refine v_bipush (v := nI 9) dX2_work_29 (by decide) rfl ?_
  refine v_csf dX2_work_31 cw_X2_53 ts_X2_isUpTo ((c_isUpTo G hp d 9 (by decide)).yes hd) (by rfl) (by rfl) (Nat.le_of_ble_eq_true rfl) (Nat.le_of_ble_eq_true rfl) (Nat.le_of_ble_eq_true rfl) (Nat.le_of_ble_eq_true rfl) (Nat.le_of_ble_eq_true rfl) rfl ?_
  refine v_if_ne (tgt := 40) dX2_work_34 (by decide) rfl (fun _ => ?_) (fun q => absurd q (by decide))
  refine v_aload_n dX2_work_40 rfl rfl ?_
  refine v_getf dX2_work_41 fl_X2_21 (by first | assumption | rfl) (by rfl) rfl ?_
  refine v_bipush (v := nI 12) dX2_work_44 (by decide) rfl ?_
  refine v_icmp_ltN (tgt := 53) dX2_work_46 (by decide) rfl (by omega) (by omega) (fun c46 => ?_) (fun c46 => ?_)
  · refine v_aload_n dX2_work_53 rfl rfl ?_
    refine v_getf dX2_work_54 fl_X2_17 (by first | assumption | rfl) (by rfl) rfl ?_
    refine v_aload_n dX2_work_57 rfl rfl ?_
    refine v_getf dX2_work_58 fl_X2_21 (by first | assumption | rfl) (by rfl) rfl ?_
    refine v_new (fs := [.null, .null, .int 0]) dX2_work_61 ci1 tk_X2_15 tt_X1 ti_X1 (by decide) (Nat.le_of_ble_eq_true rfl) (Nat.le_of_ble_eq_true rfl) rfl ?_
    refine v_dup dX2_work_64 rfl rfl ?_
    refine v_iload_n dX2_work_65 rfl rfl ?_
    refine v_iload_n dX2_work_66 rfl rfl ?_
    refine v_iload_n dX2_work_67 rfl rfl ?_
    refine v_iload dX2_work_68 rfl rfl ?_
    refine v_cin dX2_work_70 cw_X2_89 ⟨rfl, tn_X1_init⟩ rfl (c_workInit G hp a b c d) (by rfl) (by rfl) (Nat.le_of_ble_eq_true rfl) (Nat.le_of_ble_eq_true rfl) (Nat.le_of_ble_eq_true rfl) (Nat.le_of_ble_eq_true rfl) (Nat.le_of_ble_eq_true rfl) rfl ?_
    refine v_aastW _ dX2_work_73 ((get_app (by omega)).trans h2) (hB0 ..) rfl (by omega) (by decide) rfl ?_
    refine v_aload_n dX2_work_74 rfl rfl ?_
    refine v_dup dX2_work_75 rfl rfl ?_
    refine v_getf dX2_work_76 fl_X2_21 ((set_ne (by decide)).trans ((get_app (by omega)).trans h0)) (by rfl) rfl ?_
    refine v_iconst (v := nI 1) dX2_work_79 (by decide) rfl ?_
    refine v_iaddN dX2_work_80 rfl ?_
    refine v_putf dX2_work_81 fl_X2_21 ((set_ne (by decide)).trans ((get_app (by omega)).trans h0)) (by rfl) (by rfl) (by exact Nat.le_of_ble_eq_true rfl) rfl ?_
    refine v_aload_n dX2_work_84 rfl rfl ?_
    refine v_getf dX2_work_85 fl_X2_21 (set_get ((set_ne (by decide)).trans ((get_app (by omega)).trans h0))) (by rfl) rfl ?_
    refine v_iconst (v := nI 1) dX2_work_88 (by decide) rfl ?_
    refine v_isubN dX2_work_89 (by omega) rfl ?_
    exact v_iret dX2_work_90 rfl ⟨Nat.le_of_ble_eq_true rfl, Nat.le_of_ble_eq_true rfl⟩ (⟨rfl, ⟨_, hX.addW hn12 a b c d (set_get ((set_ne (by decide)).trans ((get_app (by omega)).trans h0))) ((set_ne (by decide)).trans (set_get ((get_app (by omega)).trans h2))) (fun i q1 q2 q3 => (set_ne q1).trans ((set_ne q2).trans (get_app q3))) ⟨(set_ne (by omega)).trans ((set_ne (by omega)).trans (hB0 ..)), (set_ne (by omega)).trans ((set_ne (by omega)).trans (hB1 ..)), (set_ne (by omega)).trans ((set_ne (by omega)).trans (hB2 ..))⟩ (by rw [List.length_set, List.length_set, List.length_append]; rfl)⟩, fun i q1 q2 => (set_ne (by omega)).trans ((set_ne (by omega)).trans (get_app (by omega)))⟩)
  · exact absurd c46 (by omega)
theorem x_work_full (hX : PX G s x hp) (hn12 : s.n = 12) {a b c d : Int32} (ha : InR a 10) (hb : InR b 10) (hc : InR c 10) (hd : InR d 10) : Ct G mX2_work 2 3 10 [.ref (G.2.2.2 + 0), .int a, .int b, .int c, .int d] hp (Qf (some (.int (-300))) hp) := by
  have h0 := hX.1
  refine Ct.start 0 (by decide) rfl (Nat.le_of_ble_eq_true rfl) ?_
  refine v_iload_n dX2_work_0 rfl rfl ?_
  refine v_bipush (v := nI 9) dX2_work_1 (by decide) rfl ?_
  refine v_csf dX2_work_3 cw_X2_53 ts_X2_isUpTo ((c_isUpTo G hp a 9 (by decide)).yes ha) (by rfl) (by rfl) (Nat.le_of_ble_eq_true rfl) (Nat.le_of_ble_eq_true rfl) (Nat.le_of_ble_eq_true rfl) (Nat.le_of_ble_eq_true rfl) (Nat.le_of_ble_eq_true rfl) rfl ?_
  refine v_if_eq (tgt := 37) dX2_work_6 (by decide) rfl (fun q => absurd q (by decide)) (fun _ => ?_)
  refine v_iload_n dX2_work_9 rfl rfl ?_
  refine v_bipush (v := nI 9) dX2_work_10 (by decide) rfl ?_
  refine v_csf dX2_work_12 cw_X2_53 ts_X2_isUpTo ((c_isUpTo G hp b 9 (by decide)).yes hb) (by rfl) (by rfl) (Nat.le_of_ble_eq_true rfl) (Nat.le_of_ble_eq_true rfl) (Nat.le_of_ble_eq_true rfl) (Nat.le_of_ble_eq_true rfl) (Nat.le_of_ble_eq_true rfl) rfl ?_
  refine v_if_eq (tgt := 37) dX2_work_15 (by decide) rfl (fun q => absurd q (by decide)) (fun _ => ?_)
  refine v_iload_n dX2_work_18 rfl rfl ?_
  refine v_bipush (v := nI 9) dX2_work_19 (by decide) rfl ?_
  refine v_csf dX2_work_21 cw_X2_53 ts_X2_isUpTo ((c_isUpTo G hp c 9 (by decide)).yes hc) (by rfl) (by rfl) (Nat.le_of_ble_eq_true rfl) (Nat.le_of_ble_eq_true rfl) (Nat.le_of_ble_eq_true rfl) (Nat.le_of_ble_eq_true rfl) (Nat.le_of_ble_eq_true rfl) rfl ?_
  refine v_if_eq (tgt := 37) dX2_work_24 (by decide) rfl (fun q => absurd q (by decide)) (fun _ => ?_)
  refine v_iload dX2_work_27 rfl rfl ?_
  refine v_bipush (v := nI 9) dX2_work_29 (by decide) rfl ?_
  refine v_csf dX2_work_31 cw_X2_53 ts_X2_isUpTo ((c_isUpTo G hp d 9 (by decide)).yes hd) (by rfl) (by rfl) (Nat.le_of_ble_eq_true rfl) (Nat.le_of_ble_eq_true rfl) (Nat.le_of_ble_eq_true rfl) (Nat.le_of_ble_eq_true rfl) (Nat.le_of_ble_eq_true rfl) rfl ?_
  refine v_if_ne (tgt := 40) dX2_work_34 (by decide) rfl (fun _ => ?_) (fun q => absurd q (by decide))
  refine v_aload_n dX2_work_40 rfl rfl ?_
  refine v_getf dX2_work_41 fl_X2_21 (by first | assumption | rfl) (by rfl) rfl ?_
  refine v_bipush (v := nI 12) dX2_work_44 (by decide) rfl ?_
  refine v_icmp_ltN (tgt := 53) dX2_work_46 (by decide) rfl (by omega) (by omega) (fun c46 => ?_) (fun c46 => ?_)
  · exact absurd c46 (by omega)
  · refine v_sipush (v := (-300)) dX2_work_49 (by decide) rfl ?_
    exact v_iret dX2_work_52 rfl ⟨Nat.le_of_ble_eq_true rfl, Nat.le_of_ble_eq_true rfl⟩ (⟨rfl, rfl⟩)
theorem x_work_n {a b c d : Int32} (h : ¬ (InR a 10 ∧ InR b 10 ∧ InR c 10 ∧ InR d 10)) : Ct G mX2_work 2 3 10 [.ref (G.2.2.2 + 0), .int a, .int b, .int c, .int d] hp (Qf (some (.int (-100))) hp) := by
  refine Ct.start 0 (by decide) rfl (Nat.le_of_ble_eq_true rfl) ?_
  refine v_iload_n dX2_work_0 rfl rfl ?_
  refine v_bipush (v := nI 9) dX2_work_1 (by decide) rfl ?_
  by_cases q3 : InR a 10
  · refine v_csf dX2_work_3 cw_X2_53 ts_X2_isUpTo ((c_isUpTo G hp a 9 (by decide)).yes ‹_›) (by rfl) (by rfl) (Nat.le_of_ble_eq_true rfl) (Nat.le_of_ble_eq_true rfl) (Nat.le_of_ble_eq_true rfl) (Nat.le_of_ble_eq_true rfl) (Nat.le_of_ble_eq_true rfl) rfl ?_
    refine v_if_eq (tgt := 37) dX2_work_6 (by decide) rfl (fun q => absurd q (by decide)) (fun _ => ?_)
    refine v_iload_n dX2_work_9 rfl rfl ?_
    refine v_bipush (v := nI 9) dX2_work_10 (by decide) rfl ?_
    by_cases q12 : InR b 10
    · refine v_csf dX2_work_12 cw_X2_53 ts_X2_isUpTo ((c_isUpTo G hp b 9 (by decide)).yes ‹_›) (by rfl) (by rfl) (Nat.le_of_ble_eq_true rfl) (Nat.le_of_ble_eq_true rfl) (Nat.le_of_ble_eq_true rfl) (Nat.le_of_ble_eq_true rfl) (Nat.le_of_ble_eq_true rfl) rfl ?_
      refine v_if_eq (tgt := 37) dX2_work_15 (by decide) rfl (fun q => absurd q (by decide)) (fun _ => ?_)
      refine v_iload_n dX2_work_18 rfl rfl ?_
      refine v_bipush (v := nI 9) dX2_work_19 (by decide) rfl ?_
      by_cases q21 : InR c 10
      · refine v_csf dX2_work_21 cw_X2_53 ts_X2_isUpTo ((c_isUpTo G hp c 9 (by decide)).yes ‹_›) (by rfl) (by rfl) (Nat.le_of_ble_eq_true rfl) (Nat.le_of_ble_eq_true rfl) (Nat.le_of_ble_eq_true rfl) (Nat.le_of_ble_eq_true rfl) (Nat.le_of_ble_eq_true rfl) rfl ?_
        refine v_if_eq (tgt := 37) dX2_work_24 (by decide) rfl (fun q => absurd q (by decide)) (fun _ => ?_)
        refine v_iload dX2_work_27 rfl rfl ?_
        refine v_bipush (v := nI 9) dX2_work_29 (by decide) rfl ?_
        by_cases q31 : InR d 10
        · refine v_csf dX2_work_31 cw_X2_53 ts_X2_isUpTo ((c_isUpTo G hp d 9 (by decide)).yes ‹_›) (by rfl) (by rfl) (Nat.le_of_ble_eq_true rfl) (Nat.le_of_ble_eq_true rfl) (Nat.le_of_ble_eq_true rfl) (Nat.le_of_ble_eq_true rfl) (Nat.le_of_ble_eq_true rfl) rfl ?_
          refine v_if_ne (tgt := 40) dX2_work_34 (by decide) rfl (fun _ => ?_) (fun q => absurd q (by decide))
          exact absurd ⟨q3, q12, q21, q31⟩ h
        · refine v_csf dX2_work_31 cw_X2_53 ts_X2_isUpTo ((c_isUpTo G hp d 9 (by decide)).no ‹_›) (by rfl) (by rfl) (Nat.le_of_ble_eq_true rfl) (Nat.le_of_ble_eq_true rfl) (Nat.le_of_ble_eq_true rfl) (Nat.le_of_ble_eq_true rfl) (Nat.le_of_ble_eq_true rfl) rfl ?_
          refine v_if_ne (tgt := 40) dX2_work_34 (by decide) rfl (fun q => absurd (by decide) q) (fun _ => ?_)
          refine v_bipush (v := (-100)) dX2_work_37 (by decide) rfl ?_
          exact v_iret dX2_work_39 rfl ⟨Nat.le_of_ble_eq_true rfl, Nat.le_of_ble_eq_true rfl⟩ (⟨rfl, rfl⟩)
      · refine v_csf dX2_work_21 cw_X2_53 ts_X2_isUpTo ((c_isUpTo G hp c 9 (by decide)).no ‹_›) (by rfl) (by rfl) (Nat.le_of_ble_eq_true rfl) (Nat.le_of_ble_eq_true rfl) (Nat.le_of_ble_eq_true rfl) (Nat.le_of_ble_eq_true rfl) (Nat.le_of_ble_eq_true rfl) rfl ?_
        refine v_if_eq (tgt := 37) dX2_work_24 (by decide) rfl (fun _ => ?_) (fun q => absurd (by decide) q)
        refine v_bipush (v := (-100)) dX2_work_37 (by decide) rfl ?_
        exact v_iret dX2_work_39 rfl ⟨Nat.le_of_ble_eq_true rfl, Nat.le_of_ble_eq_true rfl⟩ (⟨rfl, rfl⟩)
    · refine v_csf dX2_work_12 cw_X2_53 ts_X2_isUpTo ((c_isUpTo G hp b 9 (by decide)).no ‹_›) (by rfl) (by rfl) (Nat.le_of_ble_eq_true rfl) (Nat.le_of_ble_eq_true rfl) (Nat.le_of_ble_eq_true rfl) (Nat.le_of_ble_eq_true rfl) (Nat.le_of_ble_eq_true rfl) rfl ?_
      refine v_if_eq (tgt := 37) dX2_work_15 (by decide) rfl (fun _ => ?_) (fun q => absurd (by decide) q)
      refine v_bipush (v := (-100)) dX2_work_37 (by decide) rfl ?_
      exact v_iret dX2_work_39 rfl ⟨Nat.le_of_ble_eq_true rfl, Nat.le_of_ble_eq_true rfl⟩ (⟨rfl, rfl⟩)
  · refine v_csf dX2_work_3 cw_X2_53 ts_X2_isUpTo ((c_isUpTo G hp a 9 (by decide)).no ‹_›) (by rfl) (by rfl) (Nat.le_of_ble_eq_true rfl) (Nat.le_of_ble_eq_true rfl) (Nat.le_of_ble_eq_true rfl) (Nat.le_of_ble_eq_true rfl) (Nat.le_of_ble_eq_true rfl) rfl ?_
    refine v_if_eq (tgt := 37) dX2_work_6 (by decide) rfl (fun _ => ?_) (fun q => absurd (by decide) q)
    refine v_bipush (v := (-100)) dX2_work_37 (by decide) rfl ?_
    exact v_iret dX2_work_39 rfl ⟨Nat.le_of_ble_eq_true rfl, Nat.le_of_ble_eq_true rfl⟩ (⟨rfl, rfl⟩)
end WORKF

