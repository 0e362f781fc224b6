section
-- ===== PART A: goes FIRST, ahead of the names: the tables' words, and 'selects' of the private methods out of them =====
/-- a private method of a class that the tables say can be made, by its rows of tables_1 -/
def lw_okq (q : MethodName × Nat) : Prop := (q.1.cls ≠ "java/lang/invoke/MethodHandle" ∧ q.1.cls ≠ "java/lang/invoke/VarHandle") ∧ Cond.instantiable q.1.cls q.2 ∈ tables_1 ∧ Cond.privateMethod q.1 ∈ tables_1 ∧ Cond.instanceMethod q.1 ∈ tables_1
theorem lw_p0 : lw_okq (⟨"MarkSheets", "lineAt", "(II)LMarkSheets$Line;"⟩, 8) := ⟨⟨by decide +kernel, by decide +kernel⟩, List.mem_of_getElem? (i := 8) (by decide +kernel), List.mem_of_getElem? (i := 76) (by decide +kernel), List.mem_of_getElem? (i := 77) (by decide +kernel)⟩
theorem lw_p1 : lw_okq (⟨"MarkSheets$Line", "strictLevel", "(I)I"⟩, 5) := ⟨⟨by decide +kernel, by decide +kernel⟩, List.mem_of_getElem? (i := 19) (by decide +kernel), List.mem_of_getElem? (i := 106) (by decide +kernel), List.mem_of_getElem? (i := 107) (by decide +kernel)⟩
theorem lw_p2 : lw_okq (⟨"MarkSheets$Line", "spanHas", "(II)Z"⟩, 5) := ⟨⟨by decide +kernel, by decide +kernel⟩, List.mem_of_getElem? (i := 19) (by decide +kernel), List.mem_of_getElem? (i := 110) (by decide +kernel), List.mem_of_getElem? (i := 111) (by decide +kernel)⟩
theorem lw_p3 : lw_okq (⟨"MarkSheets$Line", "filledLevel", "(I)I"⟩, 5) := ⟨⟨by decide +kernel, by decide +kernel⟩, List.mem_of_getElem? (i := 19) (by decide +kernel), List.mem_of_getElem? (i := 114) (by decide +kernel), List.mem_of_getElem? (i := 115) (by decide +kernel)⟩
theorem lw_p4 : lw_okq (⟨"MarkSheets$Line", "greatestBelow", "(I)I"⟩, 5) := ⟨⟨by decide +kernel, by decide +kernel⟩, List.mem_of_getElem? (i := 19) (by decide +kernel), List.mem_of_getElem? (i := 118) (by decide +kernel), List.mem_of_getElem? (i := 119) (by decide +kernel)⟩
theorem lw_p5 : lw_okq (⟨"MarkSheets$Line", "kindLevel", "(I)I"⟩, 5) := ⟨⟨by decide +kernel, by decide +kernel⟩, List.mem_of_getElem? (i := 19) (by decide +kernel), List.mem_of_getElem? (i := 122) (by decide +kernel), List.mem_of_getElem? (i := 123) (by decide +kernel)⟩
theorem lw_p6 : lw_okq (⟨"MarkSheets$Line", "countSpansWith", "(I)I"⟩, 5) := ⟨⟨by decide +kernel, by decide +kernel⟩, List.mem_of_getElem? (i := 19) (by decide +kernel), List.mem_of_getElem? (i := 137) (by decide +kernel), List.mem_of_getElem? (i := 138) (by decide +kernel)⟩
theorem lw_p7 : lw_okq (⟨"MarkSheets$Line", "neverFalls", "()Z"⟩, 5) := ⟨⟨by decide +kernel, by decide +kernel⟩, List.mem_of_getElem? (i := 19) (by decide +kernel), List.mem_of_getElem? (i := 155) (by decide +kernel), List.mem_of_getElem? (i := 156) (by decide +kernel)⟩
theorem lw_p8 : lw_okq (⟨"MarkSheets", "workAt", "(I)LMarkSheets$Work;"⟩, 8) := ⟨⟨by decide +kernel, by decide +kernel⟩, List.mem_of_getElem? (i := 8) (by decide +kernel), List.mem_of_getElem? (i := 186) (by decide +kernel), List.mem_of_getElem? (i := 187) (by decide +kernel)⟩
theorem lw_p9 : lw_okq (⟨"MarkSheets", "pointsBy", "(ILMarkSheets$Work;)I"⟩, 8) := ⟨⟨by decide +kernel, by decide +kernel⟩, List.mem_of_getElem? (i := 8) (by decide +kernel), List.mem_of_getElem? (i := 194) (by decide +kernel), List.mem_of_getElem? (i := 195) (by decide +kernel)⟩
theorem lw_p10 : lw_okq (⟨"MarkSheets", "countBothMarked", "(II)I"⟩, 8) := ⟨⟨by decide +kernel, by decide +kernel⟩, List.mem_of_getElem? (i := 8) (by decide +kernel), List.mem_of_getElem? (i := 216) (by decide +kernel), List.mem_of_getElem? (i := 217) (by decide +kernel)⟩
theorem lw_p11 : lw_okq (⟨"MarkSheets", "chanceOfAlike", "(II)I"⟩, 8) := ⟨⟨by decide +kernel, by decide +kernel⟩, List.mem_of_getElem? (i := 8) (by decide +kernel), List.mem_of_getElem? (i := 228) (by decide +kernel), List.mem_of_getElem? (i := 229) (by decide +kernel)⟩
theorem lw_p12 : lw_okq (⟨"MarkSheets", "countGave", "(III)I"⟩, 8) := ⟨⟨by decide +kernel, by decide +kernel⟩, List.mem_of_getElem? (i := 8) (by decide +kernel), List.mem_of_getElem? (i := 232) (by decide +kernel), List.mem_of_getElem? (i := 233) (by decide +kernel)⟩
theorem lw_p13 : lw_okq (⟨"MarkSheets", "countAlike", "(II)I"⟩, 8) := ⟨⟨by decide +kernel, by decide +kernel⟩, List.mem_of_getElem? (i := 8) (by decide +kernel), List.mem_of_getElem? (i := 236) (by decide +kernel), List.mem_of_getElem? (i := 237) (by decide +kernel)⟩
theorem lw_p14 : lw_okq (⟨"MarkSheets", "countMarkedAnchors", "(I)I"⟩, 8) := ⟨⟨by decide +kernel, by decide +kernel⟩, List.mem_of_getElem? (i := 8) (by decide +kernel), List.mem_of_getElem? (i := 258) (by decide +kernel), List.mem_of_getElem? (i := 259) (by decide +kernel)⟩
theorem lw_p15 : lw_okq (⟨"MarkSheets", "sumOffAnchors", "(I)I"⟩, 8) := ⟨⟨by decide +kernel, by decide +kernel⟩, List.mem_of_getElem? (i := 8) (by decide +kernel), List.mem_of_getElem? (i := 267) (by decide +kernel), List.mem_of_getElem? (i := 268) (by decide +kernel)⟩
def lw_privs_1 : List (MethodName × Nat) := [(⟨"MarkSheets", "lineAt", "(II)LMarkSheets$Line;"⟩, 8), (⟨"MarkSheets$Line", "strictLevel", "(I)I"⟩, 5), (⟨"MarkSheets$Line", "spanHas", "(II)Z"⟩, 5), (⟨"MarkSheets$Line", "filledLevel", "(I)I"⟩, 5), (⟨"MarkSheets$Line", "greatestBelow", "(I)I"⟩, 5), (⟨"MarkSheets$Line", "kindLevel", "(I)I"⟩, 5), (⟨"MarkSheets$Line", "countSpansWith", "(I)I"⟩, 5), (⟨"MarkSheets$Line", "neverFalls", "()Z"⟩, 5), (⟨"MarkSheets", "workAt", "(I)LMarkSheets$Work;"⟩, 8), (⟨"MarkSheets", "pointsBy", "(ILMarkSheets$Work;)I"⟩, 8), (⟨"MarkSheets", "countBothMarked", "(II)I"⟩, 8), (⟨"MarkSheets", "chanceOfAlike", "(II)I"⟩, 8), (⟨"MarkSheets", "countGave", "(III)I"⟩, 8), (⟨"MarkSheets", "countAlike", "(II)I"⟩, 8), (⟨"MarkSheets", "countMarkedAnchors", "(I)I"⟩, 8), (⟨"MarkSheets", "sumOffAnchors", "(I)I"⟩, 8)]
theorem lw_r1 : ∀ q ∈ lw_privs_1, lw_okq q := List.forall_mem_cons.mpr ⟨lw_p0, List.forall_mem_cons.mpr ⟨lw_p1, List.forall_mem_cons.mpr ⟨lw_p2, List.forall_mem_cons.mpr ⟨lw_p3, List.forall_mem_cons.mpr ⟨lw_p4, List.forall_mem_cons.mpr ⟨lw_p5, List.forall_mem_cons.mpr ⟨lw_p6, List.forall_mem_cons.mpr ⟨lw_p7, List.forall_mem_cons.mpr ⟨lw_p8, List.forall_mem_cons.mpr ⟨lw_p9, List.forall_mem_cons.mpr ⟨lw_p10, List.forall_mem_cons.mpr ⟨lw_p11, List.forall_mem_cons.mpr ⟨lw_p12, List.forall_mem_cons.mpr ⟨lw_p13, List.forall_mem_cons.mpr ⟨lw_p14, List.forall_mem_cons.mpr ⟨lw_p15, fun _ h => absurd h List.not_mem_nil⟩⟩⟩⟩⟩⟩⟩⟩⟩⟩⟩⟩⟩⟩⟩⟩
theorem lw_p16 : lw_okq (⟨"MarkSheets", "gatherPile", "(I)I"⟩, 8) := ⟨⟨by decide +kernel, by decide +kernel⟩, List.mem_of_getElem? (i := 8) (by decide +kernel), List.mem_of_getElem? (i := 286) (by decide +kernel), List.mem_of_getElem? (i := 287) (by decide +kernel)⟩
theorem lw_p17 : lw_okq (⟨"MarkSheets", "driftOfPile", "(I)I"⟩, 8) := ⟨⟨by decide +kernel, by decide +kernel⟩, List.mem_of_getElem? (i := 8) (by decide +kernel), List.mem_of_getElem? (i := 290) (by decide +kernel), List.mem_of_getElem? (i := 291) (by decide +kernel)⟩
theorem lw_p18 : lw_okq (⟨"MarkSheets", "oddsOfPile", "(II)I"⟩, 8) := ⟨⟨by decide +kernel, by decide +kernel⟩, List.mem_of_getElem? (i := 8) (by decide +kernel), List.mem_of_getElem? (i := 297) (by decide +kernel), List.mem_of_getElem? (i := 298) (by decide +kernel)⟩
theorem lw_p19 : lw_okq (⟨"MarkSheets", "countInPile", "(II)I"⟩, 8) := ⟨⟨by decide +kernel, by decide +kernel⟩, List.mem_of_getElem? (i := 8) (by decide +kernel), List.mem_of_getElem? (i := 301) (by decide +kernel), List.mem_of_getElem? (i := 302) (by decide +kernel)⟩
theorem lw_p20 : lw_okq (⟨"MarkSheets", "countMoved", "()I"⟩, 8) := ⟨⟨by decide +kernel, by decide +kernel⟩, List.mem_of_getElem? (i := 8) (by decide +kernel), List.mem_of_getElem? (i := 315) (by decide +kernel), List.mem_of_getElem? (i := 316) (by decide +kernel)⟩
theorem lw_p21 : lw_okq (⟨"MarkSheets", "countTurned", "()I"⟩, 8) := ⟨⟨by decide +kernel, by decide +kernel⟩, List.mem_of_getElem? (i := 8) (by decide +kernel), List.mem_of_getElem? (i := 319) (by decide +kernel), List.mem_of_getElem? (i := 320) (by decide +kernel)⟩
theorem lw_p22 : lw_okq (⟨"MarkSheets", "countAnchors", "()I"⟩, 8) := ⟨⟨by decide +kernel, by decide +kernel⟩, List.mem_of_getElem? (i := 8) (by decide +kernel), List.mem_of_getElem? (i := 335) (by decide +kernel), List.mem_of_getElem? (i := 336) (by decide +kernel)⟩
theorem lw_p23 : lw_okq (⟨"MarkSheets", "countMarks", "()I"⟩, 8) := ⟨⟨by decide +kernel, by decide +kernel⟩, List.mem_of_getElem? (i := 8) (by decide +kernel), List.mem_of_getElem? (i := 339) (by decide +kernel), List.mem_of_getElem? (i := 340) (by decide +kernel)⟩
theorem lw_p24 : lw_okq (⟨"MarkSheets", "countSensible", "(I)I"⟩, 8) := ⟨⟨by decide +kernel, by decide +kernel⟩, List.mem_of_getElem? (i := 8) (by decide +kernel), List.mem_of_getElem? (i := 343) (by decide +kernel), List.mem_of_getElem? (i := 344) (by decide +kernel)⟩
theorem lw_p25 : lw_okq (⟨"MarkSheetsModel", "levelOf", "(II)I"⟩, 15) := ⟨⟨by decide +kernel, by decide +kernel⟩, List.mem_of_getElem? (i := 351) (by decide +kernel), List.mem_of_getElem? (i := 427) (by decide +kernel), List.mem_of_getElem? (i := 428) (by decide +kernel)⟩
theorem lw_p26 : lw_okq (⟨"MarkSheetsModel", "strict", "(II)I"⟩, 15) := ⟨⟨by decide +kernel, by decide +kernel⟩, List.mem_of_getElem? (i := 351) (by decide +kernel), List.mem_of_getElem? (i := 431) (by decide +kernel), List.mem_of_getElem? (i := 432) (by decide +kernel)⟩
theorem lw_p27 : lw_okq (⟨"MarkSheetsModel", "has", "(III)Z"⟩, 15) := ⟨⟨by decide +kernel, by decide +kernel⟩, List.mem_of_getElem? (i := 351) (by decide +kernel), List.mem_of_getElem? (i := 435) (by decide +kernel), List.mem_of_getElem? (i := 436) (by decide +kernel)⟩
theorem lw_p28 : lw_okq (⟨"MarkSheetsModel", "filled", "(II)I"⟩, 15) := ⟨⟨by decide +kernel, by decide +kernel⟩, List.mem_of_getElem? (i := 351) (by decide +kernel), List.mem_of_getElem? (i := 439) (by decide +kernel), List.mem_of_getElem? (i := 440) (by decide +kernel)⟩
theorem lw_p29 : lw_okq (⟨"MarkSheetsModel", "senseOf", "(IZ)I"⟩, 15) := ⟨⟨by decide +kernel, by decide +kernel⟩, List.mem_of_getElem? (i := 351) (by decide +kernel), List.mem_of_getElem? (i := 447) (by decide +kernel), List.mem_of_getElem? (i := 448) (by decide +kernel)⟩
theorem lw_p30 : lw_okq (⟨"MarkSheetsModel", "isSensible", "(I)Z"⟩, 15) := ⟨⟨by decide +kernel, by decide +kernel⟩, List.mem_of_getElem? (i := 351) (by decide +kernel), List.mem_of_getElem? (i := 455) (by decide +kernel), List.mem_of_getElem? (i := 456) (by decide +kernel)⟩
theorem lw_p31 : lw_okq (⟨"MarkSheetsModel", "isWork", "(I)Z"⟩, 15) := ⟨⟨by decide +kernel, by decide +kernel⟩, List.mem_of_getElem? (i := 351) (by decide +kernel), List.mem_of_getElem? (i := 467) (by decide +kernel), List.mem_of_getElem? (i := 468) (by decide +kernel)⟩
def lw_privs_2 : List (MethodName × Nat) := [(⟨"MarkSheets", "gatherPile", "(I)I"⟩, 8), (⟨"MarkSheets", "driftOfPile", "(I)I"⟩, 8), (⟨"MarkSheets", "oddsOfPile", "(II)I"⟩, 8), (⟨"MarkSheets", "countInPile", "(II)I"⟩, 8), (⟨"MarkSheets", "countMoved", "()I"⟩, 8), (⟨"MarkSheets", "countTurned", "()I"⟩, 8), (⟨"MarkSheets", "countAnchors", "()I"⟩, 8), (⟨"MarkSheets", "countMarks", "()I"⟩, 8), (⟨"MarkSheets", "countSensible", "(I)I"⟩, 8), (⟨"MarkSheetsModel", "levelOf", "(II)I"⟩, 15), (⟨"MarkSheetsModel", "strict", "(II)I"⟩, 15), (⟨"MarkSheetsModel", "has", "(III)Z"⟩, 15), (⟨"MarkSheetsModel", "filled", "(II)I"⟩, 15), (⟨"MarkSheetsModel", "senseOf", "(IZ)I"⟩, 15), (⟨"MarkSheetsModel", "isSensible", "(I)Z"⟩, 15), (⟨"MarkSheetsModel", "isWork", "(I)Z"⟩, 15)]
theorem lw_r2 : ∀ q ∈ lw_privs_2, lw_okq q := List.forall_mem_cons.mpr ⟨lw_p16, List.forall_mem_cons.mpr ⟨lw_p17, List.forall_mem_cons.mpr ⟨lw_p18, List.forall_mem_cons.mpr ⟨lw_p19, List.forall_mem_cons.mpr ⟨lw_p20, List.forall_mem_cons.mpr ⟨lw_p21, List.forall_mem_cons.mpr ⟨lw_p22, List.forall_mem_cons.mpr ⟨lw_p23, List.forall_mem_cons.mpr ⟨lw_p24, List.forall_mem_cons.mpr ⟨lw_p25, List.forall_mem_cons.mpr ⟨lw_p26, List.forall_mem_cons.mpr ⟨lw_p27, List.forall_mem_cons.mpr ⟨lw_p28, List.forall_mem_cons.mpr ⟨lw_p29, List.forall_mem_cons.mpr ⟨lw_p30, List.forall_mem_cons.mpr ⟨lw_p31, fun _ h => absurd h List.not_mem_nil⟩⟩⟩⟩⟩⟩⟩⟩⟩⟩⟩⟩⟩⟩⟩⟩
theorem lw_p32 : lw_okq (⟨"MarkSheetsModel", "pointsOf", "(II)I"⟩, 15) := ⟨⟨by decide +kernel, by decide +kernel⟩, List.mem_of_getElem? (i := 351) (by decide +kernel), List.mem_of_getElem? (i := 475) (by decide +kernel), List.mem_of_getElem? (i := 476) (by decide +kernel)⟩
theorem lw_p33 : lw_okq (⟨"MarkSheetsModel", "both", "(III)Z"⟩, 15) := ⟨⟨by decide +kernel, by decide +kernel⟩, List.mem_of_getElem? (i := 351) (by decide +kernel), List.mem_of_getElem? (i := 497) (by decide +kernel), List.mem_of_getElem? (i := 498) (by decide +kernel)⟩
theorem lw_p34 : lw_okq (⟨"MarkSheetsModel", "times", "(III)I"⟩, 15) := ⟨⟨by decide +kernel, by decide +kernel⟩, List.mem_of_getElem? (i := 351) (by decide +kernel), List.mem_of_getElem? (i := 501) (by decide +kernel), List.mem_of_getElem? (i := 502) (by decide +kernel)⟩
theorem lw_p35 : lw_okq (⟨"MarkSheetsModel", "findOff", "(I)V"⟩, 15) := ⟨⟨by decide +kernel, by decide +kernel⟩, List.mem_of_getElem? (i := 351) (by decide +kernel), List.mem_of_getElem? (i := 523) (by decide +kernel), List.mem_of_getElem? (i := 524) (by decide +kernel)⟩
theorem lw_p36 : lw_okq (⟨"MarkSheetsModel", "collect", "(I)V"⟩, 15) := ⟨⟨by decide +kernel, by decide +kernel⟩, List.mem_of_getElem? (i := 351) (by decide +kernel), List.mem_of_getElem? (i := 535) (by decide +kernel), List.mem_of_getElem? (i := 536) (by decide +kernel)⟩
theorem lw_p37 : lw_okq (⟨"MarkSheetsModel", "drifts", "()I"⟩, 15) := ⟨⟨by decide +kernel, by decide +kernel⟩, List.mem_of_getElem? (i := 351) (by decide +kernel), List.mem_of_getElem? (i := 539) (by decide +kernel), List.mem_of_getElem? (i := 540) (by decide +kernel)⟩
theorem lw_p38 : lw_okq (⟨"MarkSheetsModel", "take", "(I)V"⟩, 15) := ⟨⟨by decide +kernel, by decide +kernel⟩, List.mem_of_getElem? (i := 351) (by decide +kernel), List.mem_of_getElem? (i := 543) (by decide +kernel), List.mem_of_getElem? (i := 544) (by decide +kernel)⟩
theorem lw_p39 : lw_okq (⟨"MarkSheetsModel", "become", "([IIZZI)V"⟩, 15) := ⟨⟨by decide +kernel, by decide +kernel⟩, List.mem_of_getElem? (i := 351) (by decide +kernel), List.mem_of_getElem? (i := 555) (by decide +kernel), List.mem_of_getElem? (i := 556) (by decide +kernel)⟩
def lw_privs_3 : List (MethodName × Nat) := [(⟨"MarkSheetsModel", "pointsOf", "(II)I"⟩, 15), (⟨"MarkSheetsModel", "both", "(III)Z"⟩, 15), (⟨"MarkSheetsModel", "times", "(III)I"⟩, 15), (⟨"MarkSheetsModel", "findOff", "(I)V"⟩, 15), (⟨"MarkSheetsModel", "collect", "(I)V"⟩, 15), (⟨"MarkSheetsModel", "drifts", "()I"⟩, 15), (⟨"MarkSheetsModel", "take", "(I)V"⟩, 15), (⟨"MarkSheetsModel", "become", "([IIZZI)V"⟩, 15)]
theorem lw_r3 : ∀ q ∈ lw_privs_3, lw_okq q := List.forall_mem_cons.mpr ⟨lw_p32, List.forall_mem_cons.mpr ⟨lw_p33, List.forall_mem_cons.mpr ⟨lw_p34, List.forall_mem_cons.mpr ⟨lw_p35, List.forall_mem_cons.mpr ⟨lw_p36, List.forall_mem_cons.mpr ⟨lw_p37, List.forall_mem_cons.mpr ⟨lw_p38, List.forall_mem_cons.mpr ⟨lw_p39, fun _ h => absurd h List.not_mem_nil⟩⟩⟩⟩⟩⟩⟩⟩
def lw_privs : List (MethodName × Nat) := lw_privs_1 ++ (lw_privs_2 ++ (lw_privs_3))
def lw_tbl : List Cond := k2_sels lw_privs ++ tables_1
theorem lw_privs_ok : ∀ q ∈ lw_privs, lw_okq q := by
  show ∀ q ∈ lw_privs_1 ++ (lw_privs_2 ++ (lw_privs_3)), lw_okq q
  exact List.forall_mem_append.mpr ⟨lw_r1, List.forall_mem_append.mpr ⟨lw_r2, lw_r3⟩⟩
end
section
def RX0 : String := "MarkSheets$Line"
def TX0 : u_T := fun k => match k with
  | 0 => ("MarkSheets$Line", "kind", "I", false)
  | 1 => ("MarkSheets$Line", "fact", "I", false)
  | 2 => ("MarkSheets$Line", "weight", "I", false)
  | 3 => ("MarkSheets$Line", "from", "[I", true)
  | _ => ("MarkSheets$Line", "to", "[I", true)
def tyX0 : Nat → FieldType := fun k => match k with
  | 0 => .int
  | 1 => .int
  | 2 => .int
  | 3 => .array .int
  | _ => .array .int
abbrev wsX00 : List Cond := u_ws RX0 TX0 5
theorem nmX0 : ∀ a, a < 5 → ∀ b, b < 5 → a ≠ b → (TX0 a).2.1 ≠ (TX0 b).2.1 := by decide +kernel
theorem tyX0_ok : ∀ k, k < 5 → parseFieldDescriptor (TX0 k).2.2.1 = some (tyX0 k) := by decide +kernel
abbrev cX0_init : ByteArray := prog_2_method_1_code
def yX0_init : MethodName := ⟨RX0, "<init>", "(I)V"⟩
abbrev cX0_becomeAs : ByteArray := prog_2_method_2_code
def yX0_becomeAs : MethodName := ⟨RX0, "becomeAs", "(LMarkSheets$Line;)V"⟩
abbrev cX0_levelFor : ByteArray := prog_2_method_3_code
def yX0_levelFor : MethodName := ⟨RX0, "levelFor", "(I)I"⟩
abbrev cX0_traceOfAsking : ByteArray := prog_2_method_4_code
def yX0_traceOfAsking : MethodName := ⟨RX0, "traceOfAsking", "()I"⟩
abbrev cX0_strictLevel : ByteArray := prog_2_method_5_code
def yX0_strictLevel : MethodName := ⟨RX0, "strictLevel", "(I)I"⟩
abbrev cX0_filledLevel : ByteArray := prog_2_method_6_code
def yX0_filledLevel : MethodName := ⟨RX0, "filledLevel", "(I)I"⟩
abbrev cX0_kindLevel : ByteArray := prog_2_method_7_code
def yX0_kindLevel : MethodName := ⟨RX0, "kindLevel", "(I)I"⟩
abbrev cX0_greatestBelow : ByteArray := prog_2_method_8_code
def yX0_greatestBelow : MethodName := ⟨RX0, "greatestBelow", "(I)I"⟩
abbrev cX0_spanHas : ByteArray := prog_2_method_9_code
def yX0_spanHas : MethodName := ⟨RX0, "spanHas", "(II)Z"⟩
abbrev cX0_countSpansWith : ByteArray := prog_2_method_10_code
def yX0_countSpansWith : MethodName := ⟨RX0, "countSpansWith", "(I)I"⟩
abbrev cX0_gaps : ByteArray := prog_2_method_11_code
def yX0_gaps : MethodName := ⟨RX0, "gaps", "()I"⟩
abbrev cX0_overlaps : ByteArray := prog_2_method_12_code
def yX0_overlaps : MethodName := ⟨RX0, "overlaps", "()I"⟩
abbrev cX0_isSensible : ByteArray := prog_2_method_13_code
def yX0_isSensible : MethodName := ⟨RX0, "isSensible", "()Z"⟩
abbrev cX0_neverFalls : ByteArray := prog_2_method_14_code
def yX0_neverFalls : MethodName := ⟨RX0, "neverFalls", "()Z"⟩
def RX1 : String := "MarkSheets$Work"
def TX1 : u_T := fun k => match k with
  | 0 => ("MarkSheets$Work", "facts", "[I", true)
  | 1 => ("MarkSheets$Work", "marks", "[I", true)
  | _ => ("MarkSheets$Work", "trueMark", "I", false)
def tyX1 : Nat → FieldType := fun k => match k with
  | 0 => .array .int
  | 1 => .array .int
  | _ => .int
abbrev wsX10 : List Cond := u_ws RX1 TX1 3
theorem nmX1 : ∀ a, a < 3 → ∀ b, b < 3 → a ≠ b → (TX1 a).2.1 ≠ (TX1 b).2.1 := by decide +kernel
theorem tyX1_ok : ∀ k, k < 3 → parseFieldDescriptor (TX1 k).2.2.1 = some (tyX1 k) := by decide +kernel
abbrev cX1_init : ByteArray := prog_3_method_1_code
def yX1_init : MethodName := ⟨RX1, "<init>", "(IIII)V"⟩
abbrev cX1_isAnchor : ByteArray := prog_3_method_2_code
def yX1_isAnchor : MethodName := ⟨RX1, "isAnchor", "()Z"⟩
abbrev cX1_isMarkedBy : ByteArray := prog_3_method_3_code
def yX1_isMarkedBy : MethodName := ⟨RX1, "isMarkedBy", "(I)Z"⟩
abbrev cX1_isMarkedByBoth : ByteArray := prog_3_method_4_code
def yX1_isMarkedByBoth : MethodName := ⟨RX1, "isMarkedByBoth", "(II)Z"⟩
def RX2 : String := "MarkSheets"
def TX2 : u_T := fun k => match k with
  | 0 => ("MarkSheets", "lines", "[LMarkSheets$Line;", true)
  | 1 => ("MarkSheets", "works", "[LMarkSheets$Work;", true)
  | 2 => ("MarkSheets", "workCount", "I", false)
  | 3 => ("MarkSheets", "traced", "J", false)
  | 4 => ("MarkSheets", "pile", "[I", true)
  | 5 => ("MarkSheets", "unplaced", "[I", true)
  | 6 => ("MarkSheets", "oldPoints", "[I", true)
  | _ => ("MarkSheets", "newPoints", "[I", true)
def tyX2 : Nat → FieldType := fun k => match k with
  | 0 => .array (.object "MarkSheets$Line")
  | 1 => .array (.object "MarkSheets$Work")
  | 2 => .int
  | 3 => .long
  | 4 => .array .int
  | 5 => .array .int
  | 6 => .array .int
  | _ => .array .int
abbrev wsX20 : List Cond := u_ws RX2 TX2 8
theorem nmX2 : ∀ a, a < 8 → ∀ b, b < 8 → a ≠ b → (TX2 a).2.1 ≠ (TX2 b).2.1 := by decide +kernel
theorem tyX2_ok : ∀ k, k < 8 → parseFieldDescriptor (TX2 k).2.2.1 = some (tyX2 k) := by decide +kernel
abbrev cX2_init : ByteArray := prog_1_method_1_code
def yX2_init : MethodName := ⟨RX2, "<init>", "()V"⟩
abbrev cX2_line : ByteArray := prog_1_method_2_code
def yX2_line : MethodName := ⟨RX2, "line", "(IIIII)I"⟩
abbrev cX2_span : ByteArray := prog_1_method_3_code
def yX2_span : MethodName := ⟨RX2, "span", "(IIIII)I"⟩
abbrev cX2_about : ByteArray := prog_1_method_4_code
def yX2_about : MethodName := ⟨RX2, "about", "(III)I"⟩
abbrev cX2_level : ByteArray := prog_1_method_5_code
def yX2_level : MethodName := ⟨RX2, "level", "(III)I"⟩
abbrev cX2_sense : ByteArray := prog_1_method_6_code
def yX2_sense : MethodName := ⟨RX2, "sense", "(III)I"⟩
abbrev cX2_sensible : ByteArray := prog_1_method_7_code
def yX2_sensible : MethodName := ⟨RX2, "sensible", "(II)I"⟩
abbrev cX2_work : ByteArray := prog_1_method_8_code
def yX2_work : MethodName := ⟨RX2, "work", "(IIII)I"⟩
abbrev cX2_fact : ByteArray := prog_1_method_9_code
def yX2_fact : MethodName := ⟨RX2, "fact", "(III)I"⟩
abbrev cX2_points : ByteArray := prog_1_method_10_code
def yX2_points : MethodName := ⟨RX2, "points", "(II)I"⟩
abbrev cX2_mark : ByteArray := prog_1_method_11_code
def yX2_mark : MethodName := ⟨RX2, "mark", "(III)I"⟩
abbrev cX2_given : ByteArray := prog_1_method_12_code
def yX2_given : MethodName := ⟨RX2, "given", "(II)I"⟩
abbrev cX2_like : ByteArray := prog_1_method_13_code
def yX2_like : MethodName := ⟨RX2, "like", "(III)I"⟩
abbrev cX2_parts : ByteArray := prog_1_method_14_code
def yX2_parts : MethodName := ⟨RX2, "parts", "(II)I"⟩
abbrev cX2_anchor : ByteArray := prog_1_method_15_code
def yX2_anchor : MethodName := ⟨RX2, "anchor", "(II)I"⟩
abbrev cX2_off : ByteArray := prog_1_method_16_code
def yX2_off : MethodName := ⟨RX2, "off", "(II)I"⟩
abbrev cX2_fair : ByteArray := prog_1_method_17_code
def yX2_fair : MethodName := ⟨RX2, "fair", "(II)I"⟩
abbrev cX2_drift : ByteArray := prog_1_method_18_code
def yX2_drift : MethodName := ⟨RX2, "drift", "(II)I"⟩
abbrev cX2_moves : ByteArray := prog_1_method_19_code
def yX2_moves : MethodName := ⟨RX2, "moves", "(I)I"⟩
abbrev cX2_copy : ByteArray := prog_1_method_20_code
def yX2_copy : MethodName := ⟨RX2, "copy", "(I)I"⟩
abbrev cX2_count : ByteArray := prog_1_method_21_code
def yX2_count : MethodName := ⟨RX2, "count", "(I)I"⟩
abbrev cX2_trace : ByteArray := prog_1_method_22_code
def yX2_trace : MethodName := ⟨RX2, "trace", "()J"⟩
abbrev cX2_isBelow : ByteArray := prog_1_method_23_code
def yX2_isBelow : MethodName := ⟨RX2, "isBelow", "(II)Z"⟩
abbrev cX2_isUpTo : ByteArray := prog_1_method_24_code
def yX2_isUpTo : MethodName := ⟨RX2, "isUpTo", "(II)Z"⟩
abbrev cX2_isMarkOrNone : ByteArray := prog_1_method_25_code
def yX2_isMarkOrNone : MethodName := ⟨RX2, "isMarkOrNone", "(I)Z"⟩
abbrev cX2_areTwoMarkers : ByteArray := prog_1_method_26_code
def yX2_areTwoMarkers : MethodName := ⟨RX2, "areTwoMarkers", "(II)Z"⟩
abbrev cX2_lineAt : ByteArray := prog_1_method_27_code
def yX2_lineAt : MethodName := ⟨RX2, "lineAt", "(II)LMarkSheets$Line;"⟩
abbrev cX2_workAt : ByteArray := prog_1_method_28_code
def yX2_workAt : MethodName := ⟨RX2, "workAt", "(I)LMarkSheets$Work;"⟩
abbrev cX2_pointsBy : ByteArray := prog_1_method_29_code
def yX2_pointsBy : MethodName := ⟨RX2, "pointsBy", "(ILMarkSheets$Work;)I"⟩
abbrev cX2_countSensible : ByteArray := prog_1_method_30_code
def yX2_countSensible : MethodName := ⟨RX2, "countSensible", "(I)I"⟩
abbrev cX2_countAnchors : ByteArray := prog_1_method_31_code
def yX2_countAnchors : MethodName := ⟨RX2, "countAnchors", "()I"⟩
abbrev cX2_countMarks : ByteArray := prog_1_method_32_code
def yX2_countMarks : MethodName := ⟨RX2, "countMarks", "()I"⟩
abbrev cX2_countMoved : ByteArray := prog_1_method_33_code
def yX2_countMoved : MethodName := ⟨RX2, "countMoved", "()I"⟩
abbrev cX2_countTurned : ByteArray := prog_1_method_34_code
def yX2_countTurned : MethodName := ⟨RX2, "countTurned", "()I"⟩
abbrev cX2_countBothMarked : ByteArray := prog_1_method_35_code
def yX2_countBothMarked : MethodName := ⟨RX2, "countBothMarked", "(II)I"⟩
abbrev cX2_countAlike : ByteArray := prog_1_method_36_code
def yX2_countAlike : MethodName := ⟨RX2, "countAlike", "(II)I"⟩
abbrev cX2_chanceOfAlike : ByteArray := prog_1_method_37_code
def yX2_chanceOfAlike : MethodName := ⟨RX2, "chanceOfAlike", "(II)I"⟩
abbrev cX2_countGave : ByteArray := prog_1_method_38_code
def yX2_countGave : MethodName := ⟨RX2, "countGave", "(III)I"⟩
abbrev cX2_countMarkedAnchors : ByteArray := prog_1_method_39_code
def yX2_countMarkedAnchors : MethodName := ⟨RX2, "countMarkedAnchors", "(I)I"⟩
abbrev cX2_sumOffAnchors : ByteArray := prog_1_method_40_code
def yX2_sumOffAnchors : MethodName := ⟨RX2, "sumOffAnchors", "(I)I"⟩
abbrev cX2_partOfRatio : ByteArray := prog_1_method_41_code
def yX2_partOfRatio : MethodName := ⟨RX2, "partOfRatio", "(III)I"⟩
abbrev cX2_gatherPile : ByteArray := prog_1_method_42_code
def yX2_gatherPile : MethodName := ⟨RX2, "gatherPile", "(I)I"⟩
abbrev cX2_driftOfPile : ByteArray := prog_1_method_43_code
def yX2_driftOfPile : MethodName := ⟨RX2, "driftOfPile", "(I)I"⟩
abbrev cX2_oddsOfPile : ByteArray := prog_1_method_44_code
def yX2_oddsOfPile : MethodName := ⟨RX2, "oddsOfPile", "(II)I"⟩
abbrev cX2_countInPile : ByteArray := prog_1_method_45_code
def yX2_countInPile : MethodName := ⟨RX2, "countInPile", "(II)I"⟩
abbrev cX2_countOrders : ByteArray := prog_1_method_46_code
def yX2_countOrders : MethodName := ⟨RX2, "countOrders", "([III)I"⟩
abbrev cX2_driftBehind : ByteArray := prog_1_method_47_code
def yX2_driftBehind : MethodName := ⟨RX2, "driftBehind", "(I[I)I"⟩
def RX3 : String := "MarkSheetsModel"
def TX3 : u_T := fun k => match k with
  | 0 => ("MarkSheetsModel", "kind", "[I", true)
  | 1 => ("MarkSheetsModel", "factOf", "[I", true)
  | 2 => ("MarkSheetsModel", "weight", "[I", true)
  | 3 => ("MarkSheetsModel", "from", "[I", true)
  | 4 => ("MarkSheetsModel", "to", "[I", true)
  | 5 => ("MarkSheetsModel", "works", "I", false)
  | 6 => ("MarkSheetsModel", "facts", "[I", true)
  | 7 => ("MarkSheetsModel", "marks", "[I", true)
  | 8 => ("MarkSheetsModel", "truth", "[I", true)
  | 9 => ("MarkSheetsModel", "trace", "J", false)
  | 10 => ("MarkSheetsModel", "offSum", "I", false)
  | 11 => ("MarkSheetsModel", "offMany", "I", false)
  | 12 => ("MarkSheetsModel", "many", "I", false)
  | 13 => ("MarkSheetsModel", "pile", "[I", true)
  | _ => ("MarkSheetsModel", "row", "[I", true)
def tyX3 : Nat → FieldType := fun k => match k with
  | 0 => .array .int
  | 1 => .array .int
  | 2 => .array .int
  | 3 => .array .int
  | 4 => .array .int
  | 5 => .int
  | 6 => .array .int
  | 7 => .array .int
  | 8 => .array .int
  | 9 => .long
  | 10 => .int
  | 11 => .int
  | 12 => .int
  | 13 => .array .int
  | _ => .array .int
abbrev wsX30 : List Cond := u_ws RX3 TX3 15
theorem nmX3 : ∀ a, a < 15 → ∀ b, b < 15 → a ≠ b → (TX3 a).2.1 ≠ (TX3 b).2.1 := by decide +kernel
theorem tyX3_ok : ∀ k, k < 15 → parseFieldDescriptor (TX3 k).2.2.1 = some (tyX3 k) := by decide +kernel
abbrev cX3_init : ByteArray := prog_5_method_1_code
def yX3_init : MethodName := ⟨RX3, "<init>", "()V"⟩
abbrev cX3_in : ByteArray := prog_5_method_3_code
def yX3_in : MethodName := ⟨RX3, "in", "(III)Z"⟩
abbrev cX3_size : ByteArray := prog_5_method_4_code
def yX3_size : MethodName := ⟨RX3, "size", "(I)I"⟩
abbrev cX3_isLine : ByteArray := prog_5_method_5_code
def yX3_isLine : MethodName := ⟨RX3, "isLine", "(II)Z"⟩
abbrev cX3_line : ByteArray := prog_5_method_6_code
def yX3_line : MethodName := ⟨RX3, "line", "(IIIII)I"⟩
abbrev cX3_span : ByteArray := prog_5_method_7_code
def yX3_span : MethodName := ⟨RX3, "span", "(IIIII)I"⟩
abbrev cX3_about : ByteArray := prog_5_method_8_code
def yX3_about : MethodName := ⟨RX3, "about", "(III)I"⟩
abbrev cX3_has : ByteArray := prog_5_method_9_code
def yX3_has : MethodName := ⟨RX3, "has", "(III)Z"⟩
abbrev cX3_strict : ByteArray := prog_5_method_10_code
def yX3_strict : MethodName := ⟨RX3, "strict", "(II)I"⟩
abbrev cX3_filled : ByteArray := prog_5_method_11_code
def yX3_filled : MethodName := ⟨RX3, "filled", "(II)I"⟩
abbrev cX3_levelOf : ByteArray := prog_5_method_12_code
def yX3_levelOf : MethodName := ⟨RX3, "levelOf", "(II)I"⟩
abbrev cX3_level : ByteArray := prog_5_method_13_code
def yX3_level : MethodName := ⟨RX3, "level", "(III)I"⟩
abbrev cX3_senseOf : ByteArray := prog_5_method_14_code
def yX3_senseOf : MethodName := ⟨RX3, "senseOf", "(IZ)I"⟩
abbrev cX3_sense : ByteArray := prog_5_method_15_code
def yX3_sense : MethodName := ⟨RX3, "sense", "(III)I"⟩
abbrev cX3_isSensible : ByteArray := prog_5_method_16_code
def yX3_isSensible : MethodName := ⟨RX3, "isSensible", "(I)Z"⟩
abbrev cX3_sensible : ByteArray := prog_5_method_17_code
def yX3_sensible : MethodName := ⟨RX3, "sensible", "(II)I"⟩
abbrev cX3_isWork : ByteArray := prog_5_method_18_code
def yX3_isWork : MethodName := ⟨RX3, "isWork", "(I)Z"⟩
abbrev cX3_isMarker : ByteArray := prog_5_method_19_code
def yX3_isMarker : MethodName := ⟨RX3, "isMarker", "(I)Z"⟩
abbrev cX3_work : ByteArray := prog_5_method_20_code
def yX3_work : MethodName := ⟨RX3, "work", "(IIII)I"⟩
abbrev cX3_fact : ByteArray := prog_5_method_21_code
def yX3_fact : MethodName := ⟨RX3, "fact", "(III)I"⟩
abbrev cX3_pointsOf : ByteArray := prog_5_method_22_code
def yX3_pointsOf : MethodName := ⟨RX3, "pointsOf", "(II)I"⟩
abbrev cX3_points : ByteArray := prog_5_method_23_code
def yX3_points : MethodName := ⟨RX3, "points", "(II)I"⟩
abbrev cX3_isMark : ByteArray := prog_5_method_24_code
def yX3_isMark : MethodName := ⟨RX3, "isMark", "(I)Z"⟩
abbrev cX3_mark : ByteArray := prog_5_method_25_code
def yX3_mark : MethodName := ⟨RX3, "mark", "(III)I"⟩
abbrev cX3_given : ByteArray := prog_5_method_26_code
def yX3_given : MethodName := ⟨RX3, "given", "(II)I"⟩
abbrev cX3_common : ByteArray := prog_5_method_27_code
def yX3_common : MethodName := ⟨RX3, "common", "(II)I"⟩
abbrev cX3_both : ByteArray := prog_5_method_28_code
def yX3_both : MethodName := ⟨RX3, "both", "(III)Z"⟩
abbrev cX3_times : ByteArray := prog_5_method_29_code
def yX3_times : MethodName := ⟨RX3, "times", "(III)I"⟩
abbrev cX3_like : ByteArray := prog_5_method_30_code
def yX3_like : MethodName := ⟨RX3, "like", "(III)I"⟩
abbrev cX3_parts : ByteArray := prog_5_method_31_code
def yX3_parts : MethodName := ⟨RX3, "parts", "(II)I"⟩
abbrev cX3_anchor : ByteArray := prog_5_method_32_code
def yX3_anchor : MethodName := ⟨RX3, "anchor", "(II)I"⟩
abbrev cX3_findOff : ByteArray := prog_5_method_33_code
def yX3_findOff : MethodName := ⟨RX3, "findOff", "(I)V"⟩
abbrev cX3_off : ByteArray := prog_5_method_34_code
def yX3_off : MethodName := ⟨RX3, "off", "(II)I"⟩
abbrev cX3_fair : ByteArray := prog_5_method_35_code
def yX3_fair : MethodName := ⟨RX3, "fair", "(II)I"⟩
abbrev cX3_collect : ByteArray := prog_5_method_36_code
def yX3_collect : MethodName := ⟨RX3, "collect", "(I)V"⟩
abbrev cX3_drifts : ByteArray := prog_5_method_37_code
def yX3_drifts : MethodName := ⟨RX3, "drifts", "()I"⟩
abbrev cX3_take : ByteArray := prog_5_method_38_code
def yX3_take : MethodName := ⟨RX3, "take", "(I)V"⟩
abbrev cX3_drift : ByteArray := prog_5_method_39_code
def yX3_drift : MethodName := ⟨RX3, "drift", "(II)I"⟩
abbrev cX3_moves : ByteArray := prog_5_method_40_code
def yX3_moves : MethodName := ⟨RX3, "moves", "(I)I"⟩
abbrev cX3_become : ByteArray := prog_5_method_41_code
def yX3_become : MethodName := ⟨RX3, "become", "([IIZZI)V"⟩
abbrev cX3_copy : ByteArray := prog_5_method_42_code
def yX3_copy : MethodName := ⟨RX3, "copy", "(I)I"⟩
abbrev cX3_count : ByteArray := prog_5_method_43_code
def yX3_count : MethodName := ⟨RX3, "count", "(I)I"⟩
abbrev cX3_trace : ByteArray := prog_5_method_44_code
def yX3_trace : MethodName := ⟨RX3, "trace", "()J"⟩
def RJ6 : String := "java/lang/Integer"
def TJ6 : u_T := fun k => match k with
  | _ => ("", "", "", false)
def tyJ6 : Nat → FieldType := fun k => match k with
  | _ => .int
abbrev wsJ60 : List Cond := u_ws RJ6 TJ6 0
theorem nmJ6 : ∀ a, a < 0 → ∀ b, b < 0 → a ≠ b → (TJ6 a).2.1 ≠ (TJ6 b).2.1 := by decide +kernel
theorem tyJ6_ok : ∀ k, k < 0 → parseFieldDescriptor (TJ6 k).2.2.1 = some (tyJ6 k) := by decide +kernel
abbrev cJ6_compare_7cf53 : ByteArray := prog_6_method_40_code
def yJ6_compare_7cf53 : MethodName := ⟨RJ6, "compare", "(II)I"⟩
def RJ9 : String := "java/lang/Math"
def TJ9 : u_T := fun k => match k with
  | _ => ("", "", "", false)
def tyJ9 : Nat → FieldType := fun k => match k with
  | _ => .int
abbrev wsJ90 : List Cond := u_ws RJ9 TJ9 0
theorem nmJ9 : ∀ a, a < 0 → ∀ b, b < 0 → a ≠ b → (TJ9 a).2.1 ≠ (TJ9 b).2.1 := by decide +kernel
theorem tyJ9_ok : ∀ k, k < 0 → parseFieldDescriptor (TJ9 k).2.2.1 = some (tyJ9 k) := by decide +kernel
abbrev cJ9_floorDiv_7cf53 : ByteArray := prog_7_method_47_code
def yJ9_floorDiv_7cf53 : MethodName := ⟨RJ9, "floorDiv", "(II)I"⟩
abbrev cJ9_abs_0f7a4 : ByteArray := prog_7_method_59_code
def yJ9_abs_0f7a4 : MethodName := ⟨RJ9, "abs", "(I)I"⟩
abbrev cJ9_max_7cf53 : ByteArray := prog_7_method_65_code
def yJ9_max_7cf53 : MethodName := ⟨RJ9, "max", "(II)I"⟩
abbrev cJ9_min_7cf53 : ByteArray := prog_7_method_69_code
def yJ9_min_7cf53 : MethodName := ⟨RJ9, "min", "(II)I"⟩
def RL : String := "MarkSheetsLaw"
abbrev cL_law : ByteArray := code
def yL_law : MethodName := ⟨RL, "law", "([I)Z"⟩
abbrev vwCl : List vw_C := [(RX0, TX0, 5), (RX1, TX1, 3), (RX2, TX2, 8), (RX3, TX3, 15)]
abbrev MI : Type := MethodName × ByteArray × Nat × Option FieldType
abbrev mX0_init : MI := (yX0_init, cX0_init, 3, none)
abbrev mX0_becomeAs : MI := (yX0_becomeAs, cX0_becomeAs, 3, none)
abbrev mX0_spanHas : MI := (yX0_spanHas, cX0_spanHas, 3, (some .boolean))
abbrev mX0_strictLevel : MI := (yX0_strictLevel, cX0_strictLevel, 3, (some .int))
abbrev mX0_greatestBelow : MI := (yX0_greatestBelow, cX0_greatestBelow, 3, (some .int))
abbrev mX0_filledLevel : MI := (yX0_filledLevel, cX0_filledLevel, 3, (some .int))
abbrev mX0_kindLevel : MI := (yX0_kindLevel, cX0_kindLevel, 4, (some .int))
abbrev mJ_min : MI := (Lib.Math.min.name, Lib.Math.min.code, 2, (some .int))
abbrev mX0_levelFor : MI := (yX0_levelFor, cX0_levelFor, 2, (some .int))
abbrev mX0_traceOfAsking : MI := (yX0_traceOfAsking, cX0_traceOfAsking, 1, (some .int))
abbrev mX0_countSpansWith : MI := (yX0_countSpansWith, cX0_countSpansWith, 4, (some .int))
abbrev mX0_gaps : MI := (yX0_gaps, cX0_gaps, 3, (some .int))
abbrev mX0_overlaps : MI := (yX0_overlaps, cX0_overlaps, 3, (some .int))
abbrev mX0_neverFalls : MI := (yX0_neverFalls, cX0_neverFalls, 2, (some .boolean))
abbrev mX0_isSensible : MI := (yX0_isSensible, cX0_isSensible, 1, (some .boolean))
abbrev mX1_init : MI := (yX1_init, cX1_init, 6, none)
abbrev mX1_isAnchor : MI := (yX1_isAnchor, cX1_isAnchor, 1, (some .boolean))
abbrev mX1_isMarkedBy : MI := (yX1_isMarkedBy, cX1_isMarkedBy, 2, (some .boolean))
abbrev mX1_isMarkedByBoth : MI := (yX1_isMarkedByBoth, cX1_isMarkedByBoth, 3, (some .boolean))
abbrev mX2_init : MI := (yX2_init, cX2_init, 2, none)
abbrev mX2_isBelow : MI := (yX2_isBelow, cX2_isBelow, 2, (some .boolean))
abbrev mX2_lineAt : MI := (yX2_lineAt, cX2_lineAt, 3, (some (.object "MarkSheets$Line")))
abbrev mX2_isUpTo : MI := (yX2_isUpTo, cX2_isUpTo, 2, (some .boolean))
abbrev mX2_line : MI := (yX2_line, cX2_line, 7, (some .int))
abbrev mX2_span : MI := (yX2_span, cX2_span, 7, (some .int))
abbrev mX2_about : MI := (yX2_about, cX2_about, 7, (some .int))
abbrev mX2_level : MI := (yX2_level, cX2_level, 5, (some .int))
abbrev mX2_sense : MI := (yX2_sense, cX2_sense, 5, (some .int))
abbrev mX2_sensible : MI := (yX2_sensible, cX2_sensible, 4, (some .int))
abbrev mX2_work : MI := (yX2_work, cX2_work, 5, (some .int))
abbrev mX2_workAt : MI := (yX2_workAt, cX2_workAt, 2, (some (.object "MarkSheets$Work")))
abbrev mX2_fact : MI := (yX2_fact, cX2_fact, 6, (some .int))
abbrev mX2_pointsBy : MI := (yX2_pointsBy, cX2_pointsBy, 7, (some .int))
abbrev mX2_points : MI := (yX2_points, cX2_points, 4, (some .int))
abbrev mX2_isMarkOrNone : MI := (yX2_isMarkOrNone, cX2_isMarkOrNone, 1, (some .boolean))
abbrev mX2_mark : MI := (yX2_mark, cX2_mark, 6, (some .int))
abbrev mX2_given : MI := (yX2_given, cX2_given, 4, (some .int))
abbrev mX2_areTwoMarkers : MI := (yX2_areTwoMarkers, cX2_areTwoMarkers, 2, (some .boolean))
abbrev mX2_countBothMarked : MI := (yX2_countBothMarked, cX2_countBothMarked, 5, (some .int))
abbrev mX2_countGave : MI := (yX2_countGave, cX2_countGave, 6, (some .int))
abbrev mX2_chanceOfAlike : MI := (yX2_chanceOfAlike, cX2_chanceOfAlike, 5, (some .int))
abbrev mX2_countAlike : MI := (yX2_countAlike, cX2_countAlike, 5, (some .int))
abbrev mX2_partOfRatio : MI := (yX2_partOfRatio, cX2_partOfRatio, 4, (some .int))
abbrev mX2_like : MI := (yX2_like, cX2_like, 6, (some .int))
abbrev mX2_parts : MI := (yX2_parts, cX2_parts, 8, (some .int))
abbrev mJ_abs : MI := (Lib.Math.abs.name, Lib.Math.abs.code, 1, (some .int))
abbrev mX2_anchor : MI := (yX2_anchor, cX2_anchor, 5, (some .int))
abbrev mX2_countMarkedAnchors : MI := (yX2_countMarkedAnchors, cX2_countMarkedAnchors, 4, (some .int))
abbrev mX2_sumOffAnchors : MI := (yX2_sumOffAnchors, cX2_sumOffAnchors, 4, (some .int))
abbrev mX2_off : MI := (yX2_off, cX2_off, 4, (some .int))
abbrev mJ9_floorDiv_7cf53 : MI := (yJ9_floorDiv_7cf53, cJ9_floorDiv_7cf53, 3, (some .int))
abbrev mJ_max : MI := (Lib.Math.max.name, Lib.Math.max.code, 2, (some .int))
abbrev mX2_fair : MI := (yX2_fair, cX2_fair, 7, (some .int))
abbrev mX2_gatherPile : MI := (yX2_gatherPile, cX2_gatherPile, 4, (some .int))
abbrev mJ6_compare_7cf53 : MI := (yJ6_compare_7cf53, cJ6_compare_7cf53, 2, (some .int))
abbrev mX2_driftOfPile : MI := (yX2_driftOfPile, cX2_driftOfPile, 5, (some .int))
abbrev mX2_countInPile : MI := (yX2_countInPile, cX2_countInPile, 5, (some .int))
abbrev mX2_driftBehind : MI := (yX2_driftBehind, cX2_driftBehind, 4, (some .int))
abbrev mX2_countOrders : MI := (yX2_countOrders, cX2_countOrders, 6, (some .int))
abbrev mX2_oddsOfPile : MI := (yX2_oddsOfPile, cX2_oddsOfPile, 4, (some .int))
abbrev mX2_drift : MI := (yX2_drift, cX2_drift, 5, (some .int))
abbrev mX2_countMoved : MI := (yX2_countMoved, cX2_countMoved, 3, (some .int))
abbrev mX2_countTurned : MI := (yX2_countTurned, cX2_countTurned, 4, (some .int))
abbrev mX2_moves : MI := (yX2_moves, cX2_moves, 3, (some .int))
abbrev mX2_copy : MI := (yX2_copy, cX2_copy, 5, (some .int))
abbrev mX2_countAnchors : MI := (yX2_countAnchors, cX2_countAnchors, 3, (some .int))
abbrev mX2_countMarks : MI := (yX2_countMarks, cX2_countMarks, 4, (some .int))
abbrev mX2_countSensible : MI := (yX2_countSensible, cX2_countSensible, 4, (some .int))
abbrev mX2_count : MI := (yX2_count, cX2_count, 2, (some .int))
abbrev mX2_trace : MI := (yX2_trace, cX2_trace, 1, (some .long))
abbrev mX3_init : MI := (yX3_init, cX3_init, 3, none)
abbrev mX3_in : MI := (yX3_in, cX3_in, 3, (some .boolean))
abbrev mX3_size : MI := (yX3_size, cX3_size, 1, (some .int))
abbrev mX3_isLine : MI := (yX3_isLine, cX3_isLine, 2, (some .boolean))
abbrev mX3_line : MI := (yX3_line, cX3_line, 6, (some .int))
abbrev mX3_span : MI := (yX3_span, cX3_span, 6, (some .int))
abbrev mX3_about : MI := (yX3_about, cX3_about, 6, (some .int))
abbrev mX3_has : MI := (yX3_has, cX3_has, 4, (some .boolean))
abbrev mX3_strict : MI := (yX3_strict, cX3_strict, 4, (some .int))
abbrev mX3_filled : MI := (yX3_filled, cX3_filled, 5, (some .int))
abbrev mX3_levelOf : MI := (yX3_levelOf, cX3_levelOf, 5, (some .int))
abbrev mX3_level : MI := (yX3_level, cX3_level, 5, (some .int))
abbrev mX3_senseOf : MI := (yX3_senseOf, cX3_senseOf, 7, (some .int))
abbrev mX3_sense : MI := (yX3_sense, cX3_sense, 4, (some .int))
abbrev mX3_isSensible : MI := (yX3_isSensible, cX3_isSensible, 4, (some .boolean))
abbrev mX3_sensible : MI := (yX3_sensible, cX3_sensible, 3, (some .int))
abbrev mX3_isWork : MI := (yX3_isWork, cX3_isWork, 2, (some .boolean))
abbrev mX3_isMarker : MI := (yX3_isMarker, cX3_isMarker, 1, (some .boolean))
abbrev mX3_work : MI := (yX3_work, cX3_work, 5, (some .int))
abbrev mX3_fact : MI := (yX3_fact, cX3_fact, 5, (some .int))
abbrev mX3_pointsOf : MI := (yX3_pointsOf, cX3_pointsOf, 6, (some .int))
abbrev mX3_points : MI := (yX3_points, cX3_points, 3, (some .int))
abbrev mX3_isMark : MI := (yX3_isMark, cX3_isMark, 1, (some .boolean))
abbrev mX3_mark : MI := (yX3_mark, cX3_mark, 5, (some .int))
abbrev mX3_given : MI := (yX3_given, cX3_given, 3, (some .int))
abbrev mX3_common : MI := (yX3_common, cX3_common, 5, (some .int))
abbrev mX3_both : MI := (yX3_both, cX3_both, 4, (some .boolean))
abbrev mX3_times : MI := (yX3_times, cX3_times, 6, (some .int))
abbrev mX3_like : MI := (yX3_like, cX3_like, 10, (some .int))
abbrev mX3_parts : MI := (yX3_parts, cX3_parts, 7, (some .int))
abbrev mX3_anchor : MI := (yX3_anchor, cX3_anchor, 4, (some .int))
abbrev mX3_findOff : MI := (yX3_findOff, cX3_findOff, 3, none)
abbrev mX3_off : MI := (yX3_off, cX3_off, 4, (some .int))
abbrev mX3_fair : MI := (yX3_fair, cX3_fair, 6, (some .int))
abbrev mX3_collect : MI := (yX3_collect, cX3_collect, 3, none)
abbrev mX3_drifts : MI := (yX3_drifts, cX3_drifts, 4, (some .int))
abbrev mX3_take : MI := (yX3_take, cX3_take, 6, none)
abbrev mX3_drift : MI := (yX3_drift, cX3_drift, 7, (some .int))
abbrev mX3_moves : MI := (yX3_moves, cX3_moves, 6, (some .int))
abbrev mX3_become : MI := (yX3_become, cX3_become, 8, none)
abbrev mX3_copy : MI := (yX3_copy, cX3_copy, 3, (some .int))
abbrev mX3_count : MI := (yX3_count, cX3_count, 4, (some .int))
abbrev mX3_trace : MI := (yX3_trace, cX3_trace, 1, (some .long))
abbrev mJ9_abs_0f7a4 : MI := (yJ9_abs_0f7a4, cJ9_abs_0f7a4, 1, (some .int))
abbrev mJ9_max_7cf53 : MI := (yJ9_max_7cf53, cJ9_max_7cf53, 2, (some .int))
abbrev mJ9_min_7cf53 : MI := (yJ9_min_7cf53, cJ9_min_7cf53, 2, (some .int))
end
section
theorem dX0_init_0 : decode cX0_init 0 = .ok (.aload_n 0, 1) := by decide +kernel
theorem dX0_init_1 : decode cX0_init 1 = .ok (.invokespecial 3, 3) := by decide +kernel
theorem dX0_init_4 : decode cX0_init 4 = .ok (.aload_n 0, 1) := by decide +kernel
theorem dX0_init_5 : decode cX0_init 5 = .ok (.iconst 0, 1) := by decide +kernel
theorem dX0_init_6 : decode cX0_init 6 = .ok (.putfield 9, 3) := by decide +kernel
theorem dX0_init_9 : decode cX0_init 9 = .ok (.aload_n 0, 1) := by decide +kernel
theorem dX0_init_10 : decode cX0_init 10 = .ok (.iconst 1, 1) := by decide +kernel
theorem dX0_init_11 : decode cX0_init 11 = .ok (.putfield 15, 3) := by decide +kernel
theorem dX0_init_14 : decode cX0_init 14 = .ok (.aload_n 0, 1) := by decide +kernel
theorem dX0_init_15 : decode cX0_init 15 = .ok (.iconst 4, 1) := by decide +kernel
theorem dX0_init_16 : decode cX0_init 16 = .ok (.newarray .int, 2) := by decide +kernel
theorem dX0_init_18 : decode cX0_init 18 = .ok (.putfield 18, 3) := by decide +kernel
theorem dX0_init_21 : decode cX0_init 21 = .ok (.aload_n 0, 1) := by decide +kernel
theorem dX0_init_22 : decode cX0_init 22 = .ok (.iconst 4, 1) := by decide +kernel
theorem dX0_init_23 : decode cX0_init 23 = .ok (.newarray .int, 2) := by decide +kernel
theorem dX0_init_25 : decode cX0_init 25 = .ok (.putfield 22, 3) := by decide +kernel
theorem dX0_init_28 : decode cX0_init 28 = .ok (.aload_n 0, 1) := by decide +kernel
theorem dX0_init_29 : decode cX0_init 29 = .ok (.iload_n 1, 1) := by decide +kernel
theorem dX0_init_30 : decode cX0_init 30 = .ok (.putfield 25, 3) := by decide +kernel
theorem dX0_init_33 : decode cX0_init 33 = .ok (.iconst 1, 1) := by decide +kernel
theorem dX0_init_34 : decode cX0_init 34 = .ok (.istore_n 2, 1) := by decide +kernel
theorem dX0_init_35 : decode cX0_init 35 = .ok (.iload_n 2, 1) := by decide +kernel
theorem dX0_init_36 : decode cX0_init 36 = .ok (.iconst 4, 1) := by decide +kernel
theorem dX0_init_37 : decode cX0_init 37 = .ok (.if_icmp .ge 29, 3) := by decide +kernel
theorem dX0_init_40 : decode cX0_init 40 = .ok (.aload_n 0, 1) := by decide +kernel
theorem dX0_init_41 : decode cX0_init 41 = .ok (.getfield 18, 3) := by decide +kernel
theorem dX0_init_44 : decode cX0_init 44 = .ok (.iload_n 2, 1) := by decide +kernel
theorem dX0_init_45 : decode cX0_init 45 = .ok (.iconst 3, 1) := by decide +kernel
theorem dX0_init_46 : decode cX0_init 46 = .ok (.iload_n 2, 1) := by decide +kernel
theorem dX0_init_47 : decode cX0_init 47 = .ok (.imul, 1) := by decide +kernel
theorem dX0_init_48 : decode cX0_init 48 = .ok (.iconst 2, 1) := by decide +kernel
theorem dX0_init_49 : decode cX0_init 49 = .ok (.isub, 1) := by decide +kernel
theorem dX0_init_50 : decode cX0_init 50 = .ok (.iastore, 1) := by decide +kernel
theorem dX0_init_51 : decode cX0_init 51 = .ok (.aload_n 0, 1) := by decide +kernel
theorem dX0_init_52 : decode cX0_init 52 = .ok (.getfield 22, 3) := by decide +kernel
theorem dX0_init_55 : decode cX0_init 55 = .ok (.iload_n 2, 1) := by decide +kernel
theorem dX0_init_56 : decode cX0_init 56 = .ok (.iconst 3, 1) := by decide +kernel
theorem dX0_init_57 : decode cX0_init 57 = .ok (.iload_n 2, 1) := by decide +kernel
theorem dX0_init_58 : decode cX0_init 58 = .ok (.imul, 1) := by decide +kernel
theorem dX0_init_59 : decode cX0_init 59 = .ok (.iastore, 1) := by decide +kernel
theorem dX0_init_60 : decode cX0_init 60 = .ok (.iinc 2 1, 3) := by decide +kernel
theorem dX0_init_63 : decode cX0_init 63 = .ok (.goto (-28), 3) := by decide +kernel
theorem dX0_init_66 : decode cX0_init 66 = .ok (.return_, 1) := by decide +kernel
theorem dX0_becomeAs_0 : decode cX0_becomeAs 0 = .ok (.aload_n 0, 1) := by decide +kernel
theorem dX0_becomeAs_1 : decode cX0_becomeAs 1 = .ok (.aload_n 1, 1) := by decide +kernel
theorem dX0_becomeAs_2 : decode cX0_becomeAs 2 = .ok (.getfield 9, 3) := by decide +kernel
theorem dX0_becomeAs_5 : decode cX0_becomeAs 5 = .ok (.putfield 9, 3) := by decide +kernel
theorem dX0_becomeAs_8 : decode cX0_becomeAs 8 = .ok (.aload_n 0, 1) := by decide +kernel
theorem dX0_becomeAs_9 : decode cX0_becomeAs 9 = .ok (.aload_n 1, 1) := by decide +kernel
theorem dX0_becomeAs_10 : decode cX0_becomeAs 10 = .ok (.getfield 25, 3) := by decide +kernel
theorem dX0_becomeAs_13 : decode cX0_becomeAs 13 = .ok (.putfield 25, 3) := by decide +kernel
theorem dX0_becomeAs_16 : decode cX0_becomeAs 16 = .ok (.aload_n 0, 1) := by decide +kernel
theorem dX0_becomeAs_17 : decode cX0_becomeAs 17 = .ok (.aload_n 1, 1) := by decide +kernel
theorem dX0_becomeAs_18 : decode cX0_becomeAs 18 = .ok (.getfield 15, 3) := by decide +kernel
theorem dX0_becomeAs_21 : decode cX0_becomeAs 21 = .ok (.putfield 15, 3) := by decide +kernel
theorem dX0_becomeAs_24 : decode cX0_becomeAs 24 = .ok (.iconst 0, 1) := by decide +kernel
theorem dX0_becomeAs_25 : decode cX0_becomeAs 25 = .ok (.istore_n 2, 1) := by decide +kernel
theorem dX0_becomeAs_26 : decode cX0_becomeAs 26 = .ok (.iload_n 2, 1) := by decide +kernel
theorem dX0_becomeAs_27 : decode cX0_becomeAs 27 = .ok (.iconst 4, 1) := by decide +kernel
theorem dX0_becomeAs_28 : decode cX0_becomeAs 28 = .ok (.if_icmp .ge 33, 3) := by decide +kernel
theorem dX0_becomeAs_31 : decode cX0_becomeAs 31 = .ok (.aload_n 0, 1) := by decide +kernel
theorem dX0_becomeAs_32 : decode cX0_becomeAs 32 = .ok (.getfield 18, 3) := by decide +kernel
theorem dX0_becomeAs_35 : decode cX0_becomeAs 35 = .ok (.iload_n 2, 1) := by decide +kernel
theorem dX0_becomeAs_36 : decode cX0_becomeAs 36 = .ok (.aload_n 1, 1) := by decide +kernel
theorem dX0_becomeAs_37 : decode cX0_becomeAs 37 = .ok (.getfield 18, 3) := by decide +kernel
theorem dX0_becomeAs_40 : decode cX0_becomeAs 40 = .ok (.iload_n 2, 1) := by decide +kernel
theorem dX0_becomeAs_41 : decode cX0_becomeAs 41 = .ok (.iaload, 1) := by decide +kernel
theorem dX0_becomeAs_42 : decode cX0_becomeAs 42 = .ok (.iastore, 1) := by decide +kernel
theorem dX0_becomeAs_43 : decode cX0_becomeAs 43 = .ok (.aload_n 0, 1) := by decide +kernel
theorem dX0_becomeAs_44 : decode cX0_becomeAs 44 = .ok (.getfield 22, 3) := by decide +kernel
theorem dX0_becomeAs_47 : decode cX0_becomeAs 47 = .ok (.iload_n 2, 1) := by decide +kernel
theorem dX0_becomeAs_48 : decode cX0_becomeAs 48 = .ok (.aload_n 1, 1) := by decide +kernel
theorem dX0_becomeAs_49 : decode cX0_becomeAs 49 = .ok (.getfield 22, 3) := by decide +kernel
theorem dX0_becomeAs_52 : decode cX0_becomeAs 52 = .ok (.iload_n 2, 1) := by decide +kernel
theorem dX0_becomeAs_53 : decode cX0_becomeAs 53 = .ok (.iaload, 1) := by decide +kernel
theorem dX0_becomeAs_54 : decode cX0_becomeAs 54 = .ok (.iastore, 1) := by decide +kernel
theorem dX0_becomeAs_55 : decode cX0_becomeAs 55 = .ok (.iinc 2 1, 3) := by decide +kernel
theorem dX0_becomeAs_58 : decode cX0_becomeAs 58 = .ok (.goto (-32), 3) := by decide +kernel
theorem dX0_becomeAs_61 : decode cX0_becomeAs 61 = .ok (.return_, 1) := by decide +kernel
theorem dX0_levelFor_0 : decode cX0_levelFor 0 = .ok (.aload_n 0, 1) := by decide +kernel
theorem dX0_levelFor_1 : decode cX0_levelFor 1 = .ok (.getfield 9, 3) := by decide +kernel
theorem dX0_levelFor_4 : decode cX0_levelFor 4 = .ok (.ifCond .ne 11, 3) := by decide +kernel
theorem dX0_levelFor_7 : decode cX0_levelFor 7 = .ok (.aload_n 0, 1) := by decide +kernel
theorem dX0_levelFor_8 : decode cX0_levelFor 8 = .ok (.iload_n 1, 1) := by decide +kernel
theorem dX0_levelFor_9 : decode cX0_levelFor 9 = .ok (.invokevirtual 28, 3) := by decide +kernel
theorem dX0_levelFor_12 : decode cX0_levelFor 12 = .ok (.goto 24, 3) := by decide +kernel
theorem dX0_levelFor_15 : decode cX0_levelFor 15 = .ok (.aload_n 0, 1) := by decide +kernel
theorem dX0_levelFor_16 : decode cX0_levelFor 16 = .ok (.getfield 9, 3) := by decide +kernel
theorem dX0_levelFor_19 : decode cX0_levelFor 19 = .ok (.iconst 1, 1) := by decide +kernel
theorem dX0_levelFor_20 : decode cX0_levelFor 20 = .ok (.if_icmp .ne 11, 3) := by decide +kernel
theorem dX0_levelFor_23 : decode cX0_levelFor 23 = .ok (.aload_n 0, 1) := by decide +kernel
theorem dX0_levelFor_24 : decode cX0_levelFor 24 = .ok (.iload_n 1, 1) := by decide +kernel
theorem dX0_levelFor_25 : decode cX0_levelFor 25 = .ok (.invokevirtual 32, 3) := by decide +kernel
theorem dX0_levelFor_28 : decode cX0_levelFor 28 = .ok (.goto 8, 3) := by decide +kernel
theorem dX0_levelFor_31 : decode cX0_levelFor 31 = .ok (.aload_n 0, 1) := by decide +kernel
theorem dX0_levelFor_32 : decode cX0_levelFor 32 = .ok (.iload_n 1, 1) := by decide +kernel
theorem dX0_levelFor_33 : decode cX0_levelFor 33 = .ok (.invokevirtual 35, 3) := by decide +kernel
theorem dX0_levelFor_36 : decode cX0_levelFor 36 = .ok (.ireturn, 1) := by decide +kernel
theorem dX0_traceOfAsking_0 : decode cX0_traceOfAsking 0 = .ok (.aload_n 0, 1) := by decide +kernel
theorem dX0_traceOfAsking_1 : decode cX0_traceOfAsking 1 = .ok (.getfield 9, 3) := by decide +kernel
theorem dX0_traceOfAsking_4 : decode cX0_traceOfAsking 4 = .ok (.ifCond .ne 5, 3) := by decide +kernel
theorem dX0_traceOfAsking_7 : decode cX0_traceOfAsking 7 = .ok (.iconst 1, 1) := by decide +kernel
theorem dX0_traceOfAsking_8 : decode cX0_traceOfAsking 8 = .ok (.ireturn, 1) := by decide +kernel
theorem dX0_traceOfAsking_9 : decode cX0_traceOfAsking 9 = .ok (.aload_n 0, 1) := by decide +kernel
theorem dX0_traceOfAsking_10 : decode cX0_traceOfAsking 10 = .ok (.getfield 9, 3) := by decide +kernel
theorem dX0_traceOfAsking_13 : decode cX0_traceOfAsking 13 = .ok (.iconst 1, 1) := by decide +kernel
theorem dX0_traceOfAsking_14 : decode cX0_traceOfAsking 14 = .ok (.if_icmp .ne 8, 3) := by decide +kernel
theorem dX0_traceOfAsking_17 : decode cX0_traceOfAsking 17 = .ok (.bipush 11, 2) := by decide +kernel
theorem dX0_traceOfAsking_19 : decode cX0_traceOfAsking 19 = .ok (.goto 5, 3) := by decide +kernel
theorem dX0_traceOfAsking_22 : decode cX0_traceOfAsking 22 = .ok (.bipush 111, 2) := by decide +kernel
theorem dX0_traceOfAsking_24 : decode cX0_traceOfAsking 24 = .ok (.ireturn, 1) := by decide +kernel
theorem dX0_strictLevel_0 : decode cX0_strictLevel 0 = .ok (.iconst 3, 1) := by decide +kernel
theorem dX0_strictLevel_1 : decode cX0_strictLevel 1 = .ok (.istore_n 2, 1) := by decide +kernel
theorem dX0_strictLevel_2 : decode cX0_strictLevel 2 = .ok (.iload_n 2, 1) := by decide +kernel
theorem dX0_strictLevel_3 : decode cX0_strictLevel 3 = .ok (.ifCond .lt 20, 3) := by decide +kernel
theorem dX0_strictLevel_6 : decode cX0_strictLevel 6 = .ok (.aload_n 0, 1) := by decide +kernel
theorem dX0_strictLevel_7 : decode cX0_strictLevel 7 = .ok (.iload_n 2, 1) := by decide +kernel
theorem dX0_strictLevel_8 : decode cX0_strictLevel 8 = .ok (.iload_n 1, 1) := by decide +kernel
theorem dX0_strictLevel_9 : decode cX0_strictLevel 9 = .ok (.invokevirtual 38, 3) := by decide +kernel
theorem dX0_strictLevel_12 : decode cX0_strictLevel 12 = .ok (.ifCond .eq 5, 3) := by decide +kernel
theorem dX0_strictLevel_15 : decode cX0_strictLevel 15 = .ok (.iload_n 2, 1) := by decide +kernel
theorem dX0_strictLevel_16 : decode cX0_strictLevel 16 = .ok (.ireturn, 1) := by decide +kernel
theorem dX0_strictLevel_17 : decode cX0_strictLevel 17 = .ok (.iinc 2 (-1), 3) := by decide +kernel
theorem dX0_strictLevel_20 : decode cX0_strictLevel 20 = .ok (.goto (-18), 3) := by decide +kernel
theorem dX0_strictLevel_23 : decode cX0_strictLevel 23 = .ok (.sipush (-900), 3) := by decide +kernel
theorem dX0_strictLevel_26 : decode cX0_strictLevel 26 = .ok (.ireturn, 1) := by decide +kernel
theorem dX0_filledLevel_0 : decode cX0_filledLevel 0 = .ok (.aload_n 0, 1) := by decide +kernel
theorem dX0_filledLevel_1 : decode cX0_filledLevel 1 = .ok (.iload_n 1, 1) := by decide +kernel
theorem dX0_filledLevel_2 : decode cX0_filledLevel 2 = .ok (.invokevirtual 28, 3) := by decide +kernel
theorem dX0_filledLevel_5 : decode cX0_filledLevel 5 = .ok (.istore_n 2, 1) := by decide +kernel
theorem dX0_filledLevel_6 : decode cX0_filledLevel 6 = .ok (.iload_n 2, 1) := by decide +kernel
theorem dX0_filledLevel_7 : decode cX0_filledLevel 7 = .ok (.sipush (-900), 3) := by decide +kernel
theorem dX0_filledLevel_10 : decode cX0_filledLevel 10 = .ok (.if_icmp .ne 11, 3) := by decide +kernel
theorem dX0_filledLevel_13 : decode cX0_filledLevel 13 = .ok (.aload_n 0, 1) := by decide +kernel
theorem dX0_filledLevel_14 : decode cX0_filledLevel 14 = .ok (.iload_n 1, 1) := by decide +kernel
theorem dX0_filledLevel_15 : decode cX0_filledLevel 15 = .ok (.invokevirtual 42, 3) := by decide +kernel
theorem dX0_filledLevel_18 : decode cX0_filledLevel 18 = .ok (.goto 4, 3) := by decide +kernel
theorem dX0_filledLevel_21 : decode cX0_filledLevel 21 = .ok (.iload_n 2, 1) := by decide +kernel
theorem dX0_filledLevel_22 : decode cX0_filledLevel 22 = .ok (.ireturn, 1) := by decide +kernel
theorem dX0_kindLevel_0 : decode cX0_kindLevel 0 = .ok (.aload_n 0, 1) := by decide +kernel
theorem dX0_kindLevel_1 : decode cX0_kindLevel 1 = .ok (.iload_n 1, 1) := by decide +kernel
theorem dX0_kindLevel_2 : decode cX0_kindLevel 2 = .ok (.invokevirtual 32, 3) := by decide +kernel
theorem dX0_kindLevel_5 : decode cX0_kindLevel 5 = .ok (.istore_n 2, 1) := by decide +kernel
theorem dX0_kindLevel_6 : decode cX0_kindLevel 6 = .ok (.aload_n 0, 1) := by decide +kernel
theorem dX0_kindLevel_7 : decode cX0_kindLevel 7 = .ok (.iload_n 2, 1) := by decide +kernel
theorem dX0_kindLevel_8 : decode cX0_kindLevel 8 = .ok (.iload_n 1, 1) := by decide +kernel
theorem dX0_kindLevel_9 : decode cX0_kindLevel 9 = .ok (.invokevirtual 38, 3) := by decide +kernel
theorem dX0_kindLevel_12 : decode cX0_kindLevel 12 = .ok (.ifCond .eq 17, 3) := by decide +kernel
theorem dX0_kindLevel_15 : decode cX0_kindLevel 15 = .ok (.aload_n 0, 1) := by decide +kernel
theorem dX0_kindLevel_16 : decode cX0_kindLevel 16 = .ok (.getfield 22, 3) := by decide +kernel
theorem dX0_kindLevel_19 : decode cX0_kindLevel 19 = .ok (.iload_n 2, 1) := by decide +kernel
theorem dX0_kindLevel_20 : decode cX0_kindLevel 20 = .ok (.iaload, 1) := by decide +kernel
theorem dX0_kindLevel_21 : decode cX0_kindLevel 21 = .ok (.iload_n 1, 1) := by decide +kernel
theorem dX0_kindLevel_22 : decode cX0_kindLevel 22 = .ok (.if_icmp .ne 7, 3) := by decide +kernel
theorem dX0_kindLevel_25 : decode cX0_kindLevel 25 = .ok (.iconst 1, 1) := by decide +kernel
theorem dX0_kindLevel_26 : decode cX0_kindLevel 26 = .ok (.goto 4, 3) := by decide +kernel
theorem dX0_kindLevel_29 : decode cX0_kindLevel 29 = .ok (.iconst 0, 1) := by decide +kernel
theorem dX0_kindLevel_30 : decode cX0_kindLevel 30 = .ok (.istore_n 3, 1) := by decide +kernel
theorem dX0_kindLevel_31 : decode cX0_kindLevel 31 = .ok (.iload_n 3, 1) := by decide +kernel
theorem dX0_kindLevel_32 : decode cX0_kindLevel 32 = .ok (.ifCond .eq 13, 3) := by decide +kernel
theorem dX0_kindLevel_35 : decode cX0_kindLevel 35 = .ok (.iconst 3, 1) := by decide +kernel
theorem dX0_kindLevel_36 : decode cX0_kindLevel 36 = .ok (.iload_n 2, 1) := by decide +kernel
theorem dX0_kindLevel_37 : decode cX0_kindLevel 37 = .ok (.iconst 1, 1) := by decide +kernel
theorem dX0_kindLevel_38 : decode cX0_kindLevel 38 = .ok (.iadd, 1) := by decide +kernel
theorem dX0_kindLevel_39 : decode cX0_kindLevel 39 = .ok (.invokestatic 45, 3) := by decide +kernel
theorem dX0_kindLevel_42 : decode cX0_kindLevel 42 = .ok (.goto 4, 3) := by decide +kernel
theorem dX0_kindLevel_45 : decode cX0_kindLevel 45 = .ok (.iload_n 2, 1) := by decide +kernel
theorem dX0_kindLevel_46 : decode cX0_kindLevel 46 = .ok (.ireturn, 1) := by decide +kernel
theorem dX0_greatestBelow_0 : decode cX0_greatestBelow 0 = .ok (.iconst 3, 1) := by decide +kernel
theorem dX0_greatestBelow_1 : decode cX0_greatestBelow 1 = .ok (.istore_n 2, 1) := by decide +kernel
theorem dX0_greatestBelow_2 : decode cX0_greatestBelow 2 = .ok (.iload_n 2, 1) := by decide +kernel
theorem dX0_greatestBelow_3 : decode cX0_greatestBelow 3 = .ok (.ifCond .lt 36, 3) := by decide +kernel
theorem dX0_greatestBelow_6 : decode cX0_greatestBelow 6 = .ok (.aload_n 0, 1) := by decide +kernel
theorem dX0_greatestBelow_7 : decode cX0_greatestBelow 7 = .ok (.getfield 18, 3) := by decide +kernel
theorem dX0_greatestBelow_10 : decode cX0_greatestBelow 10 = .ok (.iload_n 2, 1) := by decide +kernel
theorem dX0_greatestBelow_11 : decode cX0_greatestBelow 11 = .ok (.iaload, 1) := by decide +kernel
theorem dX0_greatestBelow_12 : decode cX0_greatestBelow 12 = .ok (.aload_n 0, 1) := by decide +kernel
theorem dX0_greatestBelow_13 : decode cX0_greatestBelow 13 = .ok (.getfield 22, 3) := by decide +kernel
theorem dX0_greatestBelow_16 : decode cX0_greatestBelow 16 = .ok (.iload_n 2, 1) := by decide +kernel
theorem dX0_greatestBelow_17 : decode cX0_greatestBelow 17 = .ok (.iaload, 1) := by decide +kernel
theorem dX0_greatestBelow_18 : decode cX0_greatestBelow 18 = .ok (.if_icmp .gt 15, 3) := by decide +kernel
theorem dX0_greatestBelow_21 : decode cX0_greatestBelow 21 = .ok (.aload_n 0, 1) := by decide +kernel
theorem dX0_greatestBelow_22 : decode cX0_greatestBelow 22 = .ok (.getfield 22, 3) := by decide +kernel
theorem dX0_greatestBelow_25 : decode cX0_greatestBelow 25 = .ok (.iload_n 2, 1) := by decide +kernel
theorem dX0_greatestBelow_26 : decode cX0_greatestBelow 26 = .ok (.iaload, 1) := by decide +kernel
theorem dX0_greatestBelow_27 : decode cX0_greatestBelow 27 = .ok (.iload_n 1, 1) := by decide +kernel
theorem dX0_greatestBelow_28 : decode cX0_greatestBelow 28 = .ok (.if_icmp .ge 5, 3) := by decide +kernel
theorem dX0_greatestBelow_31 : decode cX0_greatestBelow 31 = .ok (.iload_n 2, 1) := by decide +kernel
theorem dX0_greatestBelow_32 : decode cX0_greatestBelow 32 = .ok (.ireturn, 1) := by decide +kernel
theorem dX0_greatestBelow_33 : decode cX0_greatestBelow 33 = .ok (.iinc 2 (-1), 3) := by decide +kernel
theorem dX0_greatestBelow_36 : decode cX0_greatestBelow 36 = .ok (.goto (-34), 3) := by decide +kernel
theorem dX0_greatestBelow_39 : decode cX0_greatestBelow 39 = .ok (.iconst 0, 1) := by decide +kernel
theorem dX0_greatestBelow_40 : decode cX0_greatestBelow 40 = .ok (.ireturn, 1) := by decide +kernel
theorem dX0_spanHas_0 : decode cX0_spanHas 0 = .ok (.aload_n 0, 1) := by decide +kernel
theorem dX0_spanHas_1 : decode cX0_spanHas 1 = .ok (.getfield 18, 3) := by decide +kernel
theorem dX0_spanHas_4 : decode cX0_spanHas 4 = .ok (.iload_n 1, 1) := by decide +kernel
theorem dX0_spanHas_5 : decode cX0_spanHas 5 = .ok (.iaload, 1) := by decide +kernel
theorem dX0_spanHas_6 : decode cX0_spanHas 6 = .ok (.iload_n 2, 1) := by decide +kernel
theorem dX0_spanHas_7 : decode cX0_spanHas 7 = .ok (.if_icmp .gt 17, 3) := by decide +kernel
theorem dX0_spanHas_10 : decode cX0_spanHas 10 = .ok (.iload_n 2, 1) := by decide +kernel
theorem dX0_spanHas_11 : decode cX0_spanHas 11 = .ok (.aload_n 0, 1) := by decide +kernel
theorem dX0_spanHas_12 : decode cX0_spanHas 12 = .ok (.getfield 22, 3) := by decide +kernel
theorem dX0_spanHas_15 : decode cX0_spanHas 15 = .ok (.iload_n 1, 1) := by decide +kernel
theorem dX0_spanHas_16 : decode cX0_spanHas 16 = .ok (.iaload, 1) := by decide +kernel
theorem dX0_spanHas_17 : decode cX0_spanHas 17 = .ok (.if_icmp .gt 7, 3) := by decide +kernel
theorem dX0_spanHas_20 : decode cX0_spanHas 20 = .ok (.iconst 1, 1) := by decide +kernel
theorem dX0_spanHas_21 : decode cX0_spanHas 21 = .ok (.goto 4, 3) := by decide +kernel
theorem dX0_spanHas_24 : decode cX0_spanHas 24 = .ok (.iconst 0, 1) := by decide +kernel
theorem dX0_spanHas_25 : decode cX0_spanHas 25 = .ok (.ireturn, 1) := by decide +kernel
theorem dX0_countSpansWith_0 : decode cX0_countSpansWith 0 = .ok (.iconst 0, 1) := by decide +kernel
theorem dX0_countSpansWith_1 : decode cX0_countSpansWith 1 = .ok (.istore_n 2, 1) := by decide +kernel
theorem dX0_countSpansWith_2 : decode cX0_countSpansWith 2 = .ok (.iconst 0, 1) := by decide +kernel
theorem dX0_countSpansWith_3 : decode cX0_countSpansWith 3 = .ok (.istore_n 3, 1) := by decide +kernel
theorem dX0_countSpansWith_4 : decode cX0_countSpansWith 4 = .ok (.iload_n 3, 1) := by decide +kernel
theorem dX0_countSpansWith_5 : decode cX0_countSpansWith 5 = .ok (.iconst 4, 1) := by decide +kernel
theorem dX0_countSpansWith_6 : decode cX0_countSpansWith 6 = .ok (.if_icmp .ge 21, 3) := by decide +kernel
theorem dX0_countSpansWith_9 : decode cX0_countSpansWith 9 = .ok (.aload_n 0, 1) := by decide +kernel
theorem dX0_countSpansWith_10 : decode cX0_countSpansWith 10 = .ok (.iload_n 3, 1) := by decide +kernel
theorem dX0_countSpansWith_11 : decode cX0_countSpansWith 11 = .ok (.iload_n 1, 1) := by decide +kernel
theorem dX0_countSpansWith_12 : decode cX0_countSpansWith 12 = .ok (.invokevirtual 38, 3) := by decide +kernel
theorem dX0_countSpansWith_15 : decode cX0_countSpansWith 15 = .ok (.ifCond .eq 6, 3) := by decide +kernel
theorem dX0_countSpansWith_18 : decode cX0_countSpansWith 18 = .ok (.iinc 2 1, 3) := by decide +kernel
theorem dX0_countSpansWith_21 : decode cX0_countSpansWith 21 = .ok (.iinc 3 1, 3) := by decide +kernel
theorem dX0_countSpansWith_24 : decode cX0_countSpansWith 24 = .ok (.goto (-20), 3) := by decide +kernel
theorem dX0_countSpansWith_27 : decode cX0_countSpansWith 27 = .ok (.iload_n 2, 1) := by decide +kernel
theorem dX0_countSpansWith_28 : decode cX0_countSpansWith 28 = .ok (.ireturn, 1) := by decide +kernel
theorem dX0_gaps_0 : decode cX0_gaps 0 = .ok (.iconst 0, 1) := by decide +kernel
theorem dX0_gaps_1 : decode cX0_gaps 1 = .ok (.istore_n 1, 1) := by decide +kernel
theorem dX0_gaps_2 : decode cX0_gaps 2 = .ok (.iconst 0, 1) := by decide +kernel
theorem dX0_gaps_3 : decode cX0_gaps 3 = .ok (.istore_n 2, 1) := by decide +kernel
theorem dX0_gaps_4 : decode cX0_gaps 4 = .ok (.iload_n 2, 1) := by decide +kernel
theorem dX0_gaps_5 : decode cX0_gaps 5 = .ok (.bipush 9, 2) := by decide +kernel
theorem dX0_gaps_7 : decode cX0_gaps 7 = .ok (.if_icmp .gt 23, 3) := by decide +kernel
theorem dX0_gaps_10 : decode cX0_gaps 10 = .ok (.aload_n 0, 1) := by decide +kernel
theorem dX0_gaps_11 : decode cX0_gaps 11 = .ok (.iload_n 2, 1) := by decide +kernel
theorem dX0_gaps_12 : decode cX0_gaps 12 = .ok (.invokevirtual 51, 3) := by decide +kernel
theorem dX0_gaps_15 : decode cX0_gaps 15 = .ok (.ifCond .ne 9, 3) := by decide +kernel
theorem dX0_gaps_18 : decode cX0_gaps 18 = .ok (.iload_n 1, 1) := by decide +kernel
theorem dX0_gaps_19 : decode cX0_gaps 19 = .ok (.iconst 1, 1) := by decide +kernel
theorem dX0_gaps_20 : decode cX0_gaps 20 = .ok (.iload_n 2, 1) := by decide +kernel
theorem dX0_gaps_21 : decode cX0_gaps 21 = .ok (.ishl, 1) := by decide +kernel
theorem dX0_gaps_22 : decode cX0_gaps 22 = .ok (.ior, 1) := by decide +kernel
theorem dX0_gaps_23 : decode cX0_gaps 23 = .ok (.istore_n 1, 1) := by decide +kernel
theorem dX0_gaps_24 : decode cX0_gaps 24 = .ok (.iinc 2 1, 3) := by decide +kernel
theorem dX0_gaps_27 : decode cX0_gaps 27 = .ok (.goto (-23), 3) := by decide +kernel
theorem dX0_gaps_30 : decode cX0_gaps 30 = .ok (.iload_n 1, 1) := by decide +kernel
theorem dX0_gaps_31 : decode cX0_gaps 31 = .ok (.ireturn, 1) := by decide +kernel
theorem dX0_overlaps_0 : decode cX0_overlaps 0 = .ok (.iconst 0, 1) := by decide +kernel
theorem dX0_overlaps_1 : decode cX0_overlaps 1 = .ok (.istore_n 1, 1) := by decide +kernel
theorem dX0_overlaps_2 : decode cX0_overlaps 2 = .ok (.iconst 0, 1) := by decide +kernel
theorem dX0_overlaps_3 : decode cX0_overlaps 3 = .ok (.istore_n 2, 1) := by decide +kernel
theorem dX0_overlaps_4 : decode cX0_overlaps 4 = .ok (.iload_n 2, 1) := by decide +kernel
theorem dX0_overlaps_5 : decode cX0_overlaps 5 = .ok (.bipush 9, 2) := by decide +kernel
theorem dX0_overlaps_7 : decode cX0_overlaps 7 = .ok (.if_icmp .gt 24, 3) := by decide +kernel
theorem dX0_overlaps_10 : decode cX0_overlaps 10 = .ok (.aload_n 0, 1) := by decide +kernel
theorem dX0_overlaps_11 : decode cX0_overlaps 11 = .ok (.iload_n 2, 1) := by decide +kernel
theorem dX0_overlaps_12 : decode cX0_overlaps 12 = .ok (.invokevirtual 51, 3) := by decide +kernel
theorem dX0_overlaps_15 : decode cX0_overlaps 15 = .ok (.iconst 2, 1) := by decide +kernel
theorem dX0_overlaps_16 : decode cX0_overlaps 16 = .ok (.if_icmp .lt 9, 3) := by decide +kernel
theorem dX0_overlaps_19 : decode cX0_overlaps 19 = .ok (.iload_n 1, 1) := by decide +kernel
theorem dX0_overlaps_20 : decode cX0_overlaps 20 = .ok (.iconst 1, 1) := by decide +kernel
theorem dX0_overlaps_21 : decode cX0_overlaps 21 = .ok (.iload_n 2, 1) := by decide +kernel
theorem dX0_overlaps_22 : decode cX0_overlaps 22 = .ok (.ishl, 1) := by decide +kernel
theorem dX0_overlaps_23 : decode cX0_overlaps 23 = .ok (.ior, 1) := by decide +kernel
theorem dX0_overlaps_24 : decode cX0_overlaps 24 = .ok (.istore_n 1, 1) := by decide +kernel
theorem dX0_overlaps_25 : decode cX0_overlaps 25 = .ok (.iinc 2 1, 3) := by decide +kernel
theorem dX0_overlaps_28 : decode cX0_overlaps 28 = .ok (.goto (-24), 3) := by decide +kernel
theorem dX0_overlaps_31 : decode cX0_overlaps 31 = .ok (.iload_n 1, 1) := by decide +kernel
theorem dX0_overlaps_32 : decode cX0_overlaps 32 = .ok (.ireturn, 1) := by decide +kernel
theorem dX0_isSensible_0 : decode cX0_isSensible 0 = .ok (.aload_n 0, 1) := by decide +kernel
theorem dX0_isSensible_1 : decode cX0_isSensible 1 = .ok (.invokevirtual 54, 3) := by decide +kernel
theorem dX0_isSensible_4 : decode cX0_isSensible 4 = .ok (.ifCond .ne 21, 3) := by decide +kernel
theorem dX0_isSensible_7 : decode cX0_isSensible 7 = .ok (.aload_n 0, 1) := by decide +kernel
theorem dX0_isSensible_8 : decode cX0_isSensible 8 = .ok (.invokevirtual 58, 3) := by decide +kernel
theorem dX0_isSensible_11 : decode cX0_isSensible 11 = .ok (.ifCond .ne 14, 3) := by decide +kernel
theorem dX0_isSensible_14 : decode cX0_isSensible 14 = .ok (.aload_n 0, 1) := by decide +kernel
theorem dX0_isSensible_15 : decode cX0_isSensible 15 = .ok (.invokevirtual 61, 3) := by decide +kernel
theorem dX0_isSensible_18 : decode cX0_isSensible 18 = .ok (.ifCond .eq 7, 3) := by decide +kernel
theorem dX0_isSensible_21 : decode cX0_isSensible 21 = .ok (.iconst 1, 1) := by decide +kernel
theorem dX0_isSensible_22 : decode cX0_isSensible 22 = .ok (.goto 4, 3) := by decide +kernel
theorem dX0_isSensible_25 : decode cX0_isSensible 25 = .ok (.iconst 0, 1) := by decide +kernel
theorem dX0_isSensible_26 : decode cX0_isSensible 26 = .ok (.ireturn, 1) := by decide +kernel
theorem dX0_neverFalls_0 : decode cX0_neverFalls 0 = .ok (.iconst 1, 1) := by decide +kernel
theorem dX0_neverFalls_1 : decode cX0_neverFalls 1 = .ok (.istore_n 1, 1) := by decide +kernel
theorem dX0_neverFalls_2 : decode cX0_neverFalls 2 = .ok (.iload_n 1, 1) := by decide +kernel
theorem dX0_neverFalls_3 : decode cX0_neverFalls 3 = .ok (.bipush 9, 2) := by decide +kernel
theorem dX0_neverFalls_5 : decode cX0_neverFalls 5 = .ok (.if_icmp .gt 26, 3) := by decide +kernel
theorem dX0_neverFalls_8 : decode cX0_neverFalls 8 = .ok (.aload_n 0, 1) := by decide +kernel
theorem dX0_neverFalls_9 : decode cX0_neverFalls 9 = .ok (.iload_n 1, 1) := by decide +kernel
theorem dX0_neverFalls_10 : decode cX0_neverFalls 10 = .ok (.invokevirtual 65, 3) := by decide +kernel
theorem dX0_neverFalls_13 : decode cX0_neverFalls 13 = .ok (.aload_n 0, 1) := by decide +kernel
theorem dX0_neverFalls_14 : decode cX0_neverFalls 14 = .ok (.iload_n 1, 1) := by decide +kernel
theorem dX0_neverFalls_15 : decode cX0_neverFalls 15 = .ok (.iconst 1, 1) := by decide +kernel
theorem dX0_neverFalls_16 : decode cX0_neverFalls 16 = .ok (.isub, 1) := by decide +kernel
theorem dX0_neverFalls_17 : decode cX0_neverFalls 17 = .ok (.invokevirtual 65, 3) := by decide +kernel
theorem dX0_neverFalls_20 : decode cX0_neverFalls 20 = .ok (.if_icmp .ge 5, 3) := by decide +kernel
theorem dX0_neverFalls_23 : decode cX0_neverFalls 23 = .ok (.iconst 0, 1) := by decide +kernel
theorem dX0_neverFalls_24 : decode cX0_neverFalls 24 = .ok (.ireturn, 1) := by decide +kernel
theorem dX0_neverFalls_25 : decode cX0_neverFalls 25 = .ok (.iinc 1 1, 3) := by decide +kernel
theorem dX0_neverFalls_28 : decode cX0_neverFalls 28 = .ok (.goto (-26), 3) := by decide +kernel
theorem dX0_neverFalls_31 : decode cX0_neverFalls 31 = .ok (.iconst 1, 1) := by decide +kernel
theorem dX0_neverFalls_32 : decode cX0_neverFalls 32 = .ok (.ireturn, 1) := by decide +kernel
theorem dX1_init_0 : decode cX1_init 0 = .ok (.aload_n 0, 1) := by decide +kernel
theorem dX1_init_1 : decode cX1_init 1 = .ok (.invokespecial 3, 3) := by decide +kernel
theorem dX1_init_4 : decode cX1_init 4 = .ok (.aload_n 0, 1) := by decide +kernel
theorem dX1_init_5 : decode cX1_init 5 = .ok (.iconst 4, 1) := by decide +kernel
theorem dX1_init_6 : decode cX1_init 6 = .ok (.newarray .int, 2) := by decide +kernel
theorem dX1_init_8 : decode cX1_init 8 = .ok (.putfield 9, 3) := by decide +kernel
theorem dX1_init_11 : decode cX1_init 11 = .ok (.aload_n 0, 1) := by decide +kernel
theorem dX1_init_12 : decode cX1_init 12 = .ok (.iconst 3, 1) := by decide +kernel
theorem dX1_init_13 : decode cX1_init 13 = .ok (.newarray .int, 2) := by decide +kernel
theorem dX1_init_15 : decode cX1_init 15 = .ok (.putfield 15, 3) := by decide +kernel
theorem dX1_init_18 : decode cX1_init 18 = .ok (.aload_n 0, 1) := by decide +kernel
theorem dX1_init_19 : decode cX1_init 19 = .ok (.sipush (-900), 3) := by decide +kernel
theorem dX1_init_22 : decode cX1_init 22 = .ok (.putfield 18, 3) := by decide +kernel
theorem dX1_init_25 : decode cX1_init 25 = .ok (.aload_n 0, 1) := by decide +kernel
theorem dX1_init_26 : decode cX1_init 26 = .ok (.getfield 9, 3) := by decide +kernel
theorem dX1_init_29 : decode cX1_init 29 = .ok (.iconst 0, 1) := by decide +kernel
theorem dX1_init_30 : decode cX1_init 30 = .ok (.iload_n 1, 1) := by decide +kernel
theorem dX1_init_31 : decode cX1_init 31 = .ok (.iastore, 1) := by decide +kernel
theorem dX1_init_32 : decode cX1_init 32 = .ok (.aload_n 0, 1) := by decide +kernel
theorem dX1_init_33 : decode cX1_init 33 = .ok (.getfield 9, 3) := by decide +kernel
theorem dX1_init_36 : decode cX1_init 36 = .ok (.iconst 1, 1) := by decide +kernel
theorem dX1_init_37 : decode cX1_init 37 = .ok (.iload_n 2, 1) := by decide +kernel
theorem dX1_init_38 : decode cX1_init 38 = .ok (.iastore, 1) := by decide +kernel
theorem dX1_init_39 : decode cX1_init 39 = .ok (.aload_n 0, 1) := by decide +kernel
theorem dX1_init_40 : decode cX1_init 40 = .ok (.getfield 9, 3) := by decide +kernel
theorem dX1_init_43 : decode cX1_init 43 = .ok (.iconst 2, 1) := by decide +kernel
theorem dX1_init_44 : decode cX1_init 44 = .ok (.iload_n 3, 1) := by decide +kernel
theorem dX1_init_45 : decode cX1_init 45 = .ok (.iastore, 1) := by decide +kernel
theorem dX1_init_46 : decode cX1_init 46 = .ok (.aload_n 0, 1) := by decide +kernel
theorem dX1_init_47 : decode cX1_init 47 = .ok (.getfield 9, 3) := by decide +kernel
theorem dX1_init_50 : decode cX1_init 50 = .ok (.iconst 3, 1) := by decide +kernel
theorem dX1_init_51 : decode cX1_init 51 = .ok (.iload 4, 2) := by decide +kernel
theorem dX1_init_53 : decode cX1_init 53 = .ok (.iastore, 1) := by decide +kernel
theorem dX1_init_54 : decode cX1_init 54 = .ok (.iconst 0, 1) := by decide +kernel
theorem dX1_init_55 : decode cX1_init 55 = .ok (.istore 5, 2) := by decide +kernel
theorem dX1_init_57 : decode cX1_init 57 = .ok (.iload 5, 2) := by decide +kernel
theorem dX1_init_59 : decode cX1_init 59 = .ok (.iconst 3, 1) := by decide +kernel
theorem dX1_init_60 : decode cX1_init 60 = .ok (.if_icmp .ge 19, 3) := by decide +kernel
theorem dX1_init_63 : decode cX1_init 63 = .ok (.aload_n 0, 1) := by decide +kernel
theorem dX1_init_64 : decode cX1_init 64 = .ok (.getfield 15, 3) := by decide +kernel
theorem dX1_init_67 : decode cX1_init 67 = .ok (.iload 5, 2) := by decide +kernel
theorem dX1_init_69 : decode cX1_init 69 = .ok (.sipush (-900), 3) := by decide +kernel
theorem dX1_init_72 : decode cX1_init 72 = .ok (.iastore, 1) := by decide +kernel
theorem dX1_init_73 : decode cX1_init 73 = .ok (.iinc 5 1, 3) := by decide +kernel
theorem dX1_init_76 : decode cX1_init 76 = .ok (.goto (-19), 3) := by decide +kernel
theorem dX1_init_79 : decode cX1_init 79 = .ok (.return_, 1) := by decide +kernel
theorem dX1_isAnchor_0 : decode cX1_isAnchor 0 = .ok (.aload_n 0, 1) := by decide +kernel
theorem dX1_isAnchor_1 : decode cX1_isAnchor 1 = .ok (.getfield 18, 3) := by decide +kernel
theorem dX1_isAnchor_4 : decode cX1_isAnchor 4 = .ok (.sipush (-900), 3) := by decide +kernel
theorem dX1_isAnchor_7 : decode cX1_isAnchor 7 = .ok (.if_icmp .eq 7, 3) := by decide +kernel
theorem dX1_isAnchor_10 : decode cX1_isAnchor 10 = .ok (.iconst 1, 1) := by decide +kernel
theorem dX1_isAnchor_11 : decode cX1_isAnchor 11 = .ok (.goto 4, 3) := by decide +kernel
theorem dX1_isAnchor_14 : decode cX1_isAnchor 14 = .ok (.iconst 0, 1) := by decide +kernel
theorem dX1_isAnchor_15 : decode cX1_isAnchor 15 = .ok (.ireturn, 1) := by decide +kernel
theorem dX1_isMarkedBy_0 : decode cX1_isMarkedBy 0 = .ok (.aload_n 0, 1) := by decide +kernel
theorem dX1_isMarkedBy_1 : decode cX1_isMarkedBy 1 = .ok (.getfield 15, 3) := by decide +kernel
theorem dX1_isMarkedBy_4 : decode cX1_isMarkedBy 4 = .ok (.iload_n 1, 1) := by decide +kernel
theorem dX1_isMarkedBy_5 : decode cX1_isMarkedBy 5 = .ok (.iaload, 1) := by decide +kernel
theorem dX1_isMarkedBy_6 : decode cX1_isMarkedBy 6 = .ok (.sipush (-900), 3) := by decide +kernel
theorem dX1_isMarkedBy_9 : decode cX1_isMarkedBy 9 = .ok (.if_icmp .eq 7, 3) := by decide +kernel
theorem dX1_isMarkedBy_12 : decode cX1_isMarkedBy 12 = .ok (.iconst 1, 1) := by decide +kernel
theorem dX1_isMarkedBy_13 : decode cX1_isMarkedBy 13 = .ok (.goto 4, 3) := by decide +kernel
theorem dX1_isMarkedBy_16 : decode cX1_isMarkedBy 16 = .ok (.iconst 0, 1) := by decide +kernel
theorem dX1_isMarkedBy_17 : decode cX1_isMarkedBy 17 = .ok (.ireturn, 1) := by decide +kernel
theorem dX1_isMarkedByBoth_0 : decode cX1_isMarkedByBoth 0 = .ok (.aload_n 0, 1) := by decide +kernel
theorem dX1_isMarkedByBoth_1 : decode cX1_isMarkedByBoth 1 = .ok (.iload_n 1, 1) := by decide +kernel
theorem dX1_isMarkedByBoth_2 : decode cX1_isMarkedByBoth 2 = .ok (.invokevirtual 22, 3) := by decide +kernel
theorem dX1_isMarkedByBoth_5 : decode cX1_isMarkedByBoth 5 = .ok (.ifCond .eq 15, 3) := by decide +kernel
theorem dX1_isMarkedByBoth_8 : decode cX1_isMarkedByBoth 8 = .ok (.aload_n 0, 1) := by decide +kernel
theorem dX1_isMarkedByBoth_9 : decode cX1_isMarkedByBoth 9 = .ok (.iload_n 2, 1) := by decide +kernel
theorem dX1_isMarkedByBoth_10 : decode cX1_isMarkedByBoth 10 = .ok (.invokevirtual 22, 3) := by decide +kernel
theorem dX1_isMarkedByBoth_13 : decode cX1_isMarkedByBoth 13 = .ok (.ifCond .eq 7, 3) := by decide +kernel
theorem dX1_isMarkedByBoth_16 : decode cX1_isMarkedByBoth 16 = .ok (.iconst 1, 1) := by decide +kernel
theorem dX1_isMarkedByBoth_17 : decode cX1_isMarkedByBoth 17 = .ok (.goto 4, 3) := by decide +kernel
theorem dX1_isMarkedByBoth_20 : decode cX1_isMarkedByBoth 20 = .ok (.iconst 0, 1) := by decide +kernel
theorem dX1_isMarkedByBoth_21 : decode cX1_isMarkedByBoth 21 = .ok (.ireturn, 1) := by decide +kernel
theorem dX2_init_0 : decode cX2_init 0 = .ok (.aload_n 0, 1) := by decide +kernel
theorem dX2_init_1 : decode cX2_init 1 = .ok (.invokespecial 3, 3) := by decide +kernel
theorem dX2_init_4 : decode cX2_init 4 = .ok (.aload_n 0, 1) := by decide +kernel
theorem dX2_init_5 : decode cX2_init 5 = .ok (.bipush 8, 2) := by decide +kernel
theorem dX2_init_7 : decode cX2_init 7 = .ok (.anewarray 9, 3) := by decide +kernel
theorem dX2_init_10 : decode cX2_init 10 = .ok (.putfield 11, 3) := by decide +kernel
theorem dX2_init_13 : decode cX2_init 13 = .ok (.aload_n 0, 1) := by decide +kernel
theorem dX2_init_14 : decode cX2_init 14 = .ok (.bipush 12, 2) := by decide +kernel
theorem dX2_init_16 : decode cX2_init 16 = .ok (.anewarray 15, 3) := by decide +kernel
theorem dX2_init_19 : decode cX2_init 19 = .ok (.putfield 17, 3) := by decide +kernel
theorem dX2_init_22 : decode cX2_init 22 = .ok (.aload_n 0, 1) := by decide +kernel
theorem dX2_init_23 : decode cX2_init 23 = .ok (.iconst 0, 1) := by decide +kernel
theorem dX2_init_24 : decode cX2_init 24 = .ok (.putfield 21, 3) := by decide +kernel
theorem dX2_init_27 : decode cX2_init 27 = .ok (.aload_n 0, 1) := by decide +kernel
theorem dX2_init_28 : decode cX2_init 28 = .ok (.lconst 0, 1) := by decide +kernel
theorem dX2_init_29 : decode cX2_init 29 = .ok (.putfield 25, 3) := by decide +kernel
theorem dX2_init_32 : decode cX2_init 32 = .ok (.aload_n 0, 1) := by decide +kernel
theorem dX2_init_33 : decode cX2_init 33 = .ok (.bipush 6, 2) := by decide +kernel
theorem dX2_init_35 : decode cX2_init 35 = .ok (.newarray .int, 2) := by decide +kernel
theorem dX2_init_37 : decode cX2_init 37 = .ok (.putfield 29, 3) := by decide +kernel
theorem dX2_init_40 : decode cX2_init 40 = .ok (.aload_n 0, 1) := by decide +kernel
theorem dX2_init_41 : decode cX2_init 41 = .ok (.iconst 4, 1) := by decide +kernel
theorem dX2_init_42 : decode cX2_init 42 = .ok (.newarray .int, 2) := by decide +kernel
theorem dX2_init_44 : decode cX2_init 44 = .ok (.putfield 33, 3) := by decide +kernel
theorem dX2_init_47 : decode cX2_init 47 = .ok (.aload_n 0, 1) := by decide +kernel
theorem dX2_init_48 : decode cX2_init 48 = .ok (.bipush 12, 2) := by decide +kernel
theorem dX2_init_50 : decode cX2_init 50 = .ok (.newarray .int, 2) := by decide +kernel
theorem dX2_init_52 : decode cX2_init 52 = .ok (.putfield 36, 3) := by decide +kernel
theorem dX2_init_55 : decode cX2_init 55 = .ok (.aload_n 0, 1) := by decide +kernel
theorem dX2_init_56 : decode cX2_init 56 = .ok (.bipush 12, 2) := by decide +kernel
theorem dX2_init_58 : decode cX2_init 58 = .ok (.newarray .int, 2) := by decide +kernel
theorem dX2_init_60 : decode cX2_init 60 = .ok (.putfield 39, 3) := by decide +kernel
theorem dX2_init_63 : decode cX2_init 63 = .ok (.iconst 0, 1) := by decide +kernel
theorem dX2_init_64 : decode cX2_init 64 = .ok (.istore_n 1, 1) := by decide +kernel
theorem dX2_init_65 : decode cX2_init 65 = .ok (.iload_n 1, 1) := by decide +kernel
theorem dX2_init_66 : decode cX2_init 66 = .ok (.bipush 8, 2) := by decide +kernel
theorem dX2_init_68 : decode cX2_init 68 = .ok (.if_icmp .ge 25, 3) := by decide +kernel
theorem dX2_init_71 : decode cX2_init 71 = .ok (.aload_n 0, 1) := by decide +kernel
theorem dX2_init_72 : decode cX2_init 72 = .ok (.getfield 11, 3) := by decide +kernel
theorem dX2_init_75 : decode cX2_init 75 = .ok (.iload_n 1, 1) := by decide +kernel
theorem dX2_init_76 : decode cX2_init 76 = .ok (.new 9, 3) := by decide +kernel
theorem dX2_init_79 : decode cX2_init 79 = .ok (.dup, 1) := by decide +kernel
theorem dX2_init_80 : decode cX2_init 80 = .ok (.iload_n 1, 1) := by decide +kernel
theorem dX2_init_81 : decode cX2_init 81 = .ok (.iconst 4, 1) := by decide +kernel
theorem dX2_init_82 : decode cX2_init 82 = .ok (.irem, 1) := by decide +kernel
theorem dX2_init_83 : decode cX2_init 83 = .ok (.invokespecial 42, 3) := by decide +kernel
theorem dX2_init_86 : decode cX2_init 86 = .ok (.aastore, 1) := by decide +kernel
theorem dX2_init_87 : decode cX2_init 87 = .ok (.iinc 1 1, 3) := by decide +kernel
theorem dX2_init_90 : decode cX2_init 90 = .ok (.goto (-25), 3) := by decide +kernel
theorem dX2_init_93 : decode cX2_init 93 = .ok (.return_, 1) := by decide +kernel
theorem dX2_line_0 : decode cX2_line 0 = .ok (.aload_n 0, 1) := by decide +kernel
theorem dX2_line_1 : decode cX2_line 1 = .ok (.iload_n 1, 1) := by decide +kernel
theorem dX2_line_2 : decode cX2_line 2 = .ok (.iload_n 2, 1) := by decide +kernel
theorem dX2_line_3 : decode cX2_line 3 = .ok (.invokevirtual 45, 3) := by decide +kernel
theorem dX2_line_6 : decode cX2_line 6 = .ok (.astore 6, 2) := by decide +kernel
theorem dX2_line_8 : decode cX2_line 8 = .ok (.aload 6, 2) := by decide +kernel
theorem dX2_line_10 : decode cX2_line 10 = .ok (.ifnull 30, 3) := by decide +kernel
theorem dX2_line_13 : decode cX2_line 13 = .ok (.iload_n 3, 1) := by decide +kernel
theorem dX2_line_14 : decode cX2_line 14 = .ok (.iconst 3, 1) := by decide +kernel
theorem dX2_line_15 : decode cX2_line 15 = .ok (.invokestatic 49, 3) := by decide +kernel
theorem dX2_line_18 : decode cX2_line 18 = .ok (.ifCond .eq 22, 3) := by decide +kernel
theorem dX2_line_21 : decode cX2_line 21 = .ok (.iload 4, 2) := by decide +kernel
theorem dX2_line_23 : decode cX2_line 23 = .ok (.iconst 4, 1) := by decide +kernel
theorem dX2_line_24 : decode cX2_line 24 = .ok (.invokestatic 49, 3) := by decide +kernel
theorem dX2_line_27 : decode cX2_line 27 = .ok (.ifCond .eq 13, 3) := by decide +kernel
theorem dX2_line_30 : decode cX2_line 30 = .ok (.iload 5, 2) := by decide +kernel
theorem dX2_line_32 : decode cX2_line 32 = .ok (.bipush 9, 2) := by decide +kernel
theorem dX2_line_34 : decode cX2_line 34 = .ok (.invokestatic 53, 3) := by decide +kernel
theorem dX2_line_37 : decode cX2_line 37 = .ok (.ifCond .ne 6, 3) := by decide +kernel
theorem dX2_line_40 : decode cX2_line 40 = .ok (.bipush (-100), 2) := by decide +kernel
theorem dX2_line_42 : decode cX2_line 42 = .ok (.ireturn, 1) := by decide +kernel
theorem dX2_line_43 : decode cX2_line 43 = .ok (.aload 6, 2) := by decide +kernel
theorem dX2_line_45 : decode cX2_line 45 = .ok (.iload_n 3, 1) := by decide +kernel
theorem dX2_line_46 : decode cX2_line 46 = .ok (.putfield 56, 3) := by decide +kernel
theorem dX2_line_49 : decode cX2_line 49 = .ok (.aload 6, 2) := by decide +kernel
theorem dX2_line_51 : decode cX2_line 51 = .ok (.iload 4, 2) := by decide +kernel
theorem dX2_line_53 : decode cX2_line 53 = .ok (.putfield 59, 3) := by decide +kernel
theorem dX2_line_56 : decode cX2_line 56 = .ok (.aload 6, 2) := by decide +kernel
theorem dX2_line_58 : decode cX2_line 58 = .ok (.iload 5, 2) := by decide +kernel
theorem dX2_line_60 : decode cX2_line 60 = .ok (.putfield 62, 3) := by decide +kernel
theorem dX2_line_63 : decode cX2_line 63 = .ok (.iconst 1, 1) := by decide +kernel
theorem dX2_line_64 : decode cX2_line 64 = .ok (.ireturn, 1) := by decide +kernel
theorem dX2_span_0 : decode cX2_span 0 = .ok (.aload_n 0, 1) := by decide +kernel
theorem dX2_span_1 : decode cX2_span 1 = .ok (.iload_n 1, 1) := by decide +kernel
theorem dX2_span_2 : decode cX2_span 2 = .ok (.iload_n 2, 1) := by decide +kernel
theorem dX2_span_3 : decode cX2_span 3 = .ok (.invokevirtual 45, 3) := by decide +kernel
theorem dX2_span_6 : decode cX2_span 6 = .ok (.astore 6, 2) := by decide +kernel
theorem dX2_span_8 : decode cX2_span 8 = .ok (.aload 6, 2) := by decide +kernel
theorem dX2_span_10 : decode cX2_span 10 = .ok (.ifnull 31, 3) := by decide +kernel
theorem dX2_span_13 : decode cX2_span 13 = .ok (.iload_n 3, 1) := by decide +kernel
theorem dX2_span_14 : decode cX2_span 14 = .ok (.iconst 4, 1) := by decide +kernel
theorem dX2_span_15 : decode cX2_span 15 = .ok (.invokestatic 49, 3) := by decide +kernel
theorem dX2_span_18 : decode cX2_span 18 = .ok (.ifCond .eq 23, 3) := by decide +kernel
theorem dX2_span_21 : decode cX2_span 21 = .ok (.iload 4, 2) := by decide +kernel
theorem dX2_span_23 : decode cX2_span 23 = .ok (.bipush 9, 2) := by decide +kernel
theorem dX2_span_25 : decode cX2_span 25 = .ok (.invokestatic 53, 3) := by decide +kernel
theorem dX2_span_28 : decode cX2_span 28 = .ok (.ifCond .eq 13, 3) := by decide +kernel
theorem dX2_span_31 : decode cX2_span 31 = .ok (.iload 5, 2) := by decide +kernel
theorem dX2_span_33 : decode cX2_span 33 = .ok (.bipush 9, 2) := by decide +kernel
theorem dX2_span_35 : decode cX2_span 35 = .ok (.invokestatic 53, 3) := by decide +kernel
theorem dX2_span_38 : decode cX2_span 38 = .ok (.ifCond .ne 6, 3) := by decide +kernel
theorem dX2_span_41 : decode cX2_span 41 = .ok (.bipush (-100), 2) := by decide +kernel
theorem dX2_span_43 : decode cX2_span 43 = .ok (.ireturn, 1) := by decide +kernel
theorem dX2_span_44 : decode cX2_span 44 = .ok (.aload 6, 2) := by decide +kernel
theorem dX2_span_46 : decode cX2_span 46 = .ok (.getfield 65, 3) := by decide +kernel
theorem dX2_span_49 : decode cX2_span 49 = .ok (.iload_n 3, 1) := by decide +kernel
theorem dX2_span_50 : decode cX2_span 50 = .ok (.iload 4, 2) := by decide +kernel
theorem dX2_span_52 : decode cX2_span 52 = .ok (.iastore, 1) := by decide +kernel
theorem dX2_span_53 : decode cX2_span 53 = .ok (.aload 6, 2) := by decide +kernel
theorem dX2_span_55 : decode cX2_span 55 = .ok (.getfield 68, 3) := by decide +kernel
theorem dX2_span_58 : decode cX2_span 58 = .ok (.iload_n 3, 1) := by decide +kernel
theorem dX2_span_59 : decode cX2_span 59 = .ok (.iload 5, 2) := by decide +kernel
theorem dX2_span_61 : decode cX2_span 61 = .ok (.iastore, 1) := by decide +kernel
theorem dX2_span_62 : decode cX2_span 62 = .ok (.iconst 1, 1) := by decide +kernel
theorem dX2_span_63 : decode cX2_span 63 = .ok (.ireturn, 1) := by decide +kernel
theorem dX2_about_0 : decode cX2_about 0 = .ok (.aload_n 0, 1) := by decide +kernel
theorem dX2_about_1 : decode cX2_about 1 = .ok (.iload_n 1, 1) := by decide +kernel
theorem dX2_about_2 : decode cX2_about 2 = .ok (.iload_n 2, 1) := by decide +kernel
theorem dX2_about_3 : decode cX2_about 3 = .ok (.invokevirtual 45, 3) := by decide +kernel
theorem dX2_about_6 : decode cX2_about 6 = .ok (.astore 4, 2) := by decide +kernel
theorem dX2_about_8 : decode cX2_about 8 = .ok (.aload 4, 2) := by decide +kernel
theorem dX2_about_10 : decode cX2_about 10 = .ok (.ifnull 12, 3) := by decide +kernel
theorem dX2_about_13 : decode cX2_about 13 = .ok (.iload_n 3, 1) := by decide +kernel
theorem dX2_about_14 : decode cX2_about 14 = .ok (.bipush 11, 2) := by decide +kernel
theorem dX2_about_16 : decode cX2_about 16 = .ok (.invokestatic 49, 3) := by decide +kernel
theorem dX2_about_19 : decode cX2_about 19 = .ok (.ifCond .ne 6, 3) := by decide +kernel
theorem dX2_about_22 : decode cX2_about 22 = .ok (.bipush (-100), 2) := by decide +kernel
theorem dX2_about_24 : decode cX2_about 24 = .ok (.ireturn, 1) := by decide +kernel
theorem dX2_about_25 : decode cX2_about 25 = .ok (.iload_n 3, 1) := by decide +kernel
theorem dX2_about_26 : decode cX2_about 26 = .ok (.iconst 3, 1) := by decide +kernel
theorem dX2_about_27 : decode cX2_about 27 = .ok (.if_icmp .ge 34, 3) := by decide +kernel
theorem dX2_about_30 : decode cX2_about 30 = .ok (.iload_n 3, 1) := by decide +kernel
theorem dX2_about_31 : decode cX2_about 31 = .ok (.ifCond .ne 11, 3) := by decide +kernel
theorem dX2_about_34 : decode cX2_about 34 = .ok (.aload 4, 2) := by decide +kernel
theorem dX2_about_36 : decode cX2_about 36 = .ok (.getfield 56, 3) := by decide +kernel
theorem dX2_about_39 : decode cX2_about 39 = .ok (.goto 21, 3) := by decide +kernel
theorem dX2_about_42 : decode cX2_about 42 = .ok (.iload_n 3, 1) := by decide +kernel
theorem dX2_about_43 : decode cX2_about 43 = .ok (.iconst 1, 1) := by decide +kernel
theorem dX2_about_44 : decode cX2_about 44 = .ok (.if_icmp .ne 11, 3) := by decide +kernel
theorem dX2_about_47 : decode cX2_about 47 = .ok (.aload 4, 2) := by decide +kernel
theorem dX2_about_49 : decode cX2_about 49 = .ok (.getfield 59, 3) := by decide +kernel
theorem dX2_about_52 : decode cX2_about 52 = .ok (.goto 8, 3) := by decide +kernel
theorem dX2_about_55 : decode cX2_about 55 = .ok (.aload 4, 2) := by decide +kernel
theorem dX2_about_57 : decode cX2_about 57 = .ok (.getfield 62, 3) := by decide +kernel
theorem dX2_about_60 : decode cX2_about 60 = .ok (.ireturn, 1) := by decide +kernel
theorem dX2_about_61 : decode cX2_about 61 = .ok (.iload_n 3, 1) := by decide +kernel
theorem dX2_about_62 : decode cX2_about 62 = .ok (.iconst 3, 1) := by decide +kernel
theorem dX2_about_63 : decode cX2_about 63 = .ok (.isub, 1) := by decide +kernel
theorem dX2_about_64 : decode cX2_about 64 = .ok (.iconst 2, 1) := by decide +kernel
theorem dX2_about_65 : decode cX2_about 65 = .ok (.idiv, 1) := by decide +kernel
theorem dX2_about_66 : decode cX2_about 66 = .ok (.istore 5, 2) := by decide +kernel
theorem dX2_about_68 : decode cX2_about 68 = .ok (.iload_n 3, 1) := by decide +kernel
theorem dX2_about_69 : decode cX2_about 69 = .ok (.iconst 3, 1) := by decide +kernel
theorem dX2_about_70 : decode cX2_about 70 = .ok (.isub, 1) := by decide +kernel
theorem dX2_about_71 : decode cX2_about 71 = .ok (.iconst 2, 1) := by decide +kernel
theorem dX2_about_72 : decode cX2_about 72 = .ok (.irem, 1) := by decide +kernel
theorem dX2_about_73 : decode cX2_about 73 = .ok (.ifCond .ne 7, 3) := by decide +kernel
theorem dX2_about_76 : decode cX2_about 76 = .ok (.iconst 1, 1) := by decide +kernel
theorem dX2_about_77 : decode cX2_about 77 = .ok (.goto 4, 3) := by decide +kernel
theorem dX2_about_80 : decode cX2_about 80 = .ok (.iconst 0, 1) := by decide +kernel
theorem dX2_about_81 : decode cX2_about 81 = .ok (.istore 6, 2) := by decide +kernel
theorem dX2_about_83 : decode cX2_about 83 = .ok (.iload 6, 2) := by decide +kernel
theorem dX2_about_85 : decode cX2_about 85 = .ok (.ifCond .eq 14, 3) := by decide +kernel
theorem dX2_about_88 : decode cX2_about 88 = .ok (.aload 4, 2) := by decide +kernel
theorem dX2_about_90 : decode cX2_about 90 = .ok (.getfield 65, 3) := by decide +kernel
theorem dX2_about_93 : decode cX2_about 93 = .ok (.iload 5, 2) := by decide +kernel
theorem dX2_about_95 : decode cX2_about 95 = .ok (.iaload, 1) := by decide +kernel
theorem dX2_about_96 : decode cX2_about 96 = .ok (.goto 11, 3) := by decide +kernel
theorem dX2_about_99 : decode cX2_about 99 = .ok (.aload 4, 2) := by decide +kernel
theorem dX2_about_101 : decode cX2_about 101 = .ok (.getfield 68, 3) := by decide +kernel
theorem dX2_about_104 : decode cX2_about 104 = .ok (.iload 5, 2) := by decide +kernel
theorem dX2_about_106 : decode cX2_about 106 = .ok (.iaload, 1) := by decide +kernel
theorem dX2_about_107 : decode cX2_about 107 = .ok (.ireturn, 1) := by decide +kernel
theorem dX2_level_0 : decode cX2_level 0 = .ok (.aload_n 0, 1) := by decide +kernel
theorem dX2_level_1 : decode cX2_level 1 = .ok (.iload_n 1, 1) := by decide +kernel
theorem dX2_level_2 : decode cX2_level 2 = .ok (.iload_n 2, 1) := by decide +kernel
theorem dX2_level_3 : decode cX2_level 3 = .ok (.invokevirtual 45, 3) := by decide +kernel
theorem dX2_level_6 : decode cX2_level 6 = .ok (.astore 4, 2) := by decide +kernel
theorem dX2_level_8 : decode cX2_level 8 = .ok (.aload 4, 2) := by decide +kernel
theorem dX2_level_10 : decode cX2_level 10 = .ok (.ifnull 12, 3) := by decide +kernel
theorem dX2_level_13 : decode cX2_level 13 = .ok (.iload_n 3, 1) := by decide +kernel
theorem dX2_level_14 : decode cX2_level 14 = .ok (.bipush 9, 2) := by decide +kernel
theorem dX2_level_16 : decode cX2_level 16 = .ok (.invokestatic 53, 3) := by decide +kernel
theorem dX2_level_19 : decode cX2_level 19 = .ok (.ifCond .ne 6, 3) := by decide +kernel
theorem dX2_level_22 : decode cX2_level 22 = .ok (.bipush (-100), 2) := by decide +kernel
theorem dX2_level_24 : decode cX2_level 24 = .ok (.ireturn, 1) := by decide +kernel
theorem dX2_level_25 : decode cX2_level 25 = .ok (.aload_n 0, 1) := by decide +kernel
theorem dX2_level_26 : decode cX2_level 26 = .ok (.dup, 1) := by decide +kernel
theorem dX2_level_27 : decode cX2_level 27 = .ok (.getfield 25, 3) := by decide +kernel
theorem dX2_level_30 : decode cX2_level 30 = .ok (.aload 4, 2) := by decide +kernel
theorem dX2_level_32 : decode cX2_level 32 = .ok (.invokevirtual 71, 3) := by decide +kernel
theorem dX2_level_35 : decode cX2_level 35 = .ok (.i2l, 1) := by decide +kernel
theorem dX2_level_36 : decode cX2_level 36 = .ok (.ladd, 1) := by decide +kernel
theorem dX2_level_37 : decode cX2_level 37 = .ok (.putfield 25, 3) := by decide +kernel
theorem dX2_level_40 : decode cX2_level 40 = .ok (.aload 4, 2) := by decide +kernel
theorem dX2_level_42 : decode cX2_level 42 = .ok (.iload_n 3, 1) := by decide +kernel
theorem dX2_level_43 : decode cX2_level 43 = .ok (.invokevirtual 75, 3) := by decide +kernel
theorem dX2_level_46 : decode cX2_level 46 = .ok (.ireturn, 1) := by decide +kernel
theorem dX2_sense_0 : decode cX2_sense 0 = .ok (.aload_n 0, 1) := by decide +kernel
theorem dX2_sense_1 : decode cX2_sense 1 = .ok (.iload_n 1, 1) := by decide +kernel
theorem dX2_sense_2 : decode cX2_sense 2 = .ok (.iload_n 2, 1) := by decide +kernel
theorem dX2_sense_3 : decode cX2_sense 3 = .ok (.invokevirtual 45, 3) := by decide +kernel
theorem dX2_sense_6 : decode cX2_sense 6 = .ok (.astore 4, 2) := by decide +kernel
theorem dX2_sense_8 : decode cX2_sense 8 = .ok (.aload 4, 2) := by decide +kernel
theorem dX2_sense_10 : decode cX2_sense 10 = .ok (.ifnull 11, 3) := by decide +kernel
theorem dX2_sense_13 : decode cX2_sense 13 = .ok (.iload_n 3, 1) := by decide +kernel
theorem dX2_sense_14 : decode cX2_sense 14 = .ok (.iconst 2, 1) := by decide +kernel
theorem dX2_sense_15 : decode cX2_sense 15 = .ok (.invokestatic 49, 3) := by decide +kernel
theorem dX2_sense_18 : decode cX2_sense 18 = .ok (.ifCond .ne 6, 3) := by decide +kernel
theorem dX2_sense_21 : decode cX2_sense 21 = .ok (.bipush (-100), 2) := by decide +kernel
theorem dX2_sense_23 : decode cX2_sense 23 = .ok (.ireturn, 1) := by decide +kernel
theorem dX2_sense_24 : decode cX2_sense 24 = .ok (.iload_n 3, 1) := by decide +kernel
theorem dX2_sense_25 : decode cX2_sense 25 = .ok (.ifCond .ne 11, 3) := by decide +kernel
theorem dX2_sense_28 : decode cX2_sense 28 = .ok (.aload 4, 2) := by decide +kernel
theorem dX2_sense_30 : decode cX2_sense 30 = .ok (.invokevirtual 79, 3) := by decide +kernel
theorem dX2_sense_33 : decode cX2_sense 33 = .ok (.goto 8, 3) := by decide +kernel
theorem dX2_sense_36 : decode cX2_sense 36 = .ok (.aload 4, 2) := by decide +kernel
theorem dX2_sense_38 : decode cX2_sense 38 = .ok (.invokevirtual 82, 3) := by decide +kernel
theorem dX2_sense_41 : decode cX2_sense 41 = .ok (.ireturn, 1) := by decide +kernel
theorem dX2_sensible_0 : decode cX2_sensible 0 = .ok (.aload_n 0, 1) := by decide +kernel
theorem dX2_sensible_1 : decode cX2_sensible 1 = .ok (.iload_n 1, 1) := by decide +kernel
theorem dX2_sensible_2 : decode cX2_sensible 2 = .ok (.iload_n 2, 1) := by decide +kernel
theorem dX2_sensible_3 : decode cX2_sensible 3 = .ok (.invokevirtual 45, 3) := by decide +kernel
theorem dX2_sensible_6 : decode cX2_sensible 6 = .ok (.astore_n 3, 1) := by decide +kernel
theorem dX2_sensible_7 : decode cX2_sensible 7 = .ok (.aload_n 3, 1) := by decide +kernel
theorem dX2_sensible_8 : decode cX2_sensible 8 = .ok (.ifnonnull 6, 3) := by decide +kernel
theorem dX2_sensible_11 : decode cX2_sensible 11 = .ok (.bipush (-100), 2) := by decide +kernel
theorem dX2_sensible_13 : decode cX2_sensible 13 = .ok (.ireturn, 1) := by decide +kernel
theorem dX2_sensible_14 : decode cX2_sensible 14 = .ok (.aload_n 3, 1) := by decide +kernel
theorem dX2_sensible_15 : decode cX2_sensible 15 = .ok (.invokevirtual 85, 3) := by decide +kernel
theorem dX2_sensible_18 : decode cX2_sensible 18 = .ok (.ifCond .eq 7, 3) := by decide +kernel
theorem dX2_sensible_21 : decode cX2_sensible 21 = .ok (.iconst 1, 1) := by decide +kernel
theorem dX2_sensible_22 : decode cX2_sensible 22 = .ok (.goto 4, 3) := by decide +kernel
theorem dX2_sensible_25 : decode cX2_sensible 25 = .ok (.iconst 0, 1) := by decide +kernel
theorem dX2_sensible_26 : decode cX2_sensible 26 = .ok (.ireturn, 1) := by decide +kernel
theorem dX2_work_0 : decode cX2_work 0 = .ok (.iload_n 1, 1) := by decide +kernel
theorem dX2_work_1 : decode cX2_work 1 = .ok (.bipush 9, 2) := by decide +kernel
theorem dX2_work_3 : decode cX2_work 3 = .ok (.invokestatic 53, 3) := by decide +kernel
theorem dX2_work_6 : decode cX2_work 6 = .ok (.ifCond .eq 31, 3) := by decide +kernel
theorem dX2_work_9 : decode cX2_work 9 = .ok (.iload_n 2, 1) := by decide +kernel
theorem dX2_work_10 : decode cX2_work 10 = .ok (.bipush 9, 2) := by decide +kernel
theorem dX2_work_12 : decode cX2_work 12 = .ok (.invokestatic 53, 3) := by decide +kernel
theorem dX2_work_15 : decode cX2_work 15 = .ok (.ifCond .eq 22, 3) := by decide +kernel
theorem dX2_work_18 : decode cX2_work 18 = .ok (.iload_n 3, 1) := by decide +kernel
theorem dX2_work_19 : decode cX2_work 19 = .ok (.bipush 9, 2) := by decide +kernel
theorem dX2_work_21 : decode cX2_work 21 = .ok (.invokestatic 53, 3) := by decide +kernel
theorem dX2_work_24 : decode cX2_work 24 = .ok (.ifCond .eq 13, 3) := by decide +kernel
theorem dX2_work_27 : decode cX2_work 27 = .ok (.iload 4, 2) := by decide +kernel
theorem dX2_work_29 : decode cX2_work 29 = .ok (.bipush 9, 2) := by decide +kernel
theorem dX2_work_31 : decode cX2_work 31 = .ok (.invokestatic 53, 3) := by decide +kernel
theorem dX2_work_34 : decode cX2_work 34 = .ok (.ifCond .ne 6, 3) := by decide +kernel
theorem dX2_work_37 : decode cX2_work 37 = .ok (.bipush (-100), 2) := by decide +kernel
theorem dX2_work_39 : decode cX2_work 39 = .ok (.ireturn, 1) := by decide +kernel
theorem dX2_work_40 : decode cX2_work 40 = .ok (.aload_n 0, 1) := by decide +kernel
theorem dX2_work_41 : decode cX2_work 41 = .ok (.getfield 21, 3) := by decide +kernel
theorem dX2_work_44 : decode cX2_work 44 = .ok (.bipush 12, 2) := by decide +kernel
theorem dX2_work_46 : decode cX2_work 46 = .ok (.if_icmp .lt 7, 3) := by decide +kernel
theorem dX2_work_49 : decode cX2_work 49 = .ok (.sipush (-300), 3) := by decide +kernel
theorem dX2_work_52 : decode cX2_work 52 = .ok (.ireturn, 1) := by decide +kernel
theorem dX2_work_53 : decode cX2_work 53 = .ok (.aload_n 0, 1) := by decide +kernel
theorem dX2_work_54 : decode cX2_work 54 = .ok (.getfield 17, 3) := by decide +kernel
theorem dX2_work_57 : decode cX2_work 57 = .ok (.aload_n 0, 1) := by decide +kernel
theorem dX2_work_58 : decode cX2_work 58 = .ok (.getfield 21, 3) := by decide +kernel
theorem dX2_work_61 : decode cX2_work 61 = .ok (.new 15, 3) := by decide +kernel
theorem dX2_work_64 : decode cX2_work 64 = .ok (.dup, 1) := by decide +kernel
theorem dX2_work_65 : decode cX2_work 65 = .ok (.iload_n 1, 1) := by decide +kernel
theorem dX2_work_66 : decode cX2_work 66 = .ok (.iload_n 2, 1) := by decide +kernel
theorem dX2_work_67 : decode cX2_work 67 = .ok (.iload_n 3, 1) := by decide +kernel
theorem dX2_work_68 : decode cX2_work 68 = .ok (.iload 4, 2) := by decide +kernel
theorem dX2_work_70 : decode cX2_work 70 = .ok (.invokespecial 89, 3) := by decide +kernel
theorem dX2_work_73 : decode cX2_work 73 = .ok (.aastore, 1) := by decide +kernel
theorem dX2_work_74 : decode cX2_work 74 = .ok (.aload_n 0, 1) := by decide +kernel
theorem dX2_work_75 : decode cX2_work 75 = .ok (.dup, 1) := by decide +kernel
theorem dX2_work_76 : decode cX2_work 76 = .ok (.getfield 21, 3) := by decide +kernel
theorem dX2_work_79 : decode cX2_work 79 = .ok (.iconst 1, 1) := by decide +kernel
theorem dX2_work_80 : decode cX2_work 80 = .ok (.iadd, 1) := by decide +kernel
theorem dX2_work_81 : decode cX2_work 81 = .ok (.putfield 21, 3) := by decide +kernel
theorem dX2_work_84 : decode cX2_work 84 = .ok (.aload_n 0, 1) := by decide +kernel
theorem dX2_work_85 : decode cX2_work 85 = .ok (.getfield 21, 3) := by decide +kernel
theorem dX2_work_88 : decode cX2_work 88 = .ok (.iconst 1, 1) := by decide +kernel
theorem dX2_work_89 : decode cX2_work 89 = .ok (.isub, 1) := by decide +kernel
theorem dX2_work_90 : decode cX2_work 90 = .ok (.ireturn, 1) := by decide +kernel
theorem dX2_fact_0 : decode cX2_fact 0 = .ok (.aload_n 0, 1) := by decide +kernel
theorem dX2_fact_1 : decode cX2_fact 1 = .ok (.iload_n 1, 1) := by decide +kernel
theorem dX2_fact_2 : decode cX2_fact 2 = .ok (.invokevirtual 92, 3) := by decide +kernel
theorem dX2_fact_5 : decode cX2_fact 5 = .ok (.astore 4, 2) := by decide +kernel
theorem dX2_fact_7 : decode cX2_fact 7 = .ok (.aload 4, 2) := by decide +kernel
theorem dX2_fact_9 : decode cX2_fact 9 = .ok (.ifnull 20, 3) := by decide +kernel
theorem dX2_fact_12 : decode cX2_fact 12 = .ok (.iload_n 2, 1) := by decide +kernel
theorem dX2_fact_13 : decode cX2_fact 13 = .ok (.iconst 4, 1) := by decide +kernel
theorem dX2_fact_14 : decode cX2_fact 14 = .ok (.invokestatic 49, 3) := by decide +kernel
theorem dX2_fact_17 : decode cX2_fact 17 = .ok (.ifCond .eq 12, 3) := by decide +kernel
theorem dX2_fact_20 : decode cX2_fact 20 = .ok (.iload_n 3, 1) := by decide +kernel
theorem dX2_fact_21 : decode cX2_fact 21 = .ok (.bipush 9, 2) := by decide +kernel
theorem dX2_fact_23 : decode cX2_fact 23 = .ok (.invokestatic 53, 3) := by decide +kernel
theorem dX2_fact_26 : decode cX2_fact 26 = .ok (.ifCond .ne 6, 3) := by decide +kernel
theorem dX2_fact_29 : decode cX2_fact 29 = .ok (.bipush (-100), 2) := by decide +kernel
theorem dX2_fact_31 : decode cX2_fact 31 = .ok (.ireturn, 1) := by decide +kernel
theorem dX2_fact_32 : decode cX2_fact 32 = .ok (.aload 4, 2) := by decide +kernel
theorem dX2_fact_34 : decode cX2_fact 34 = .ok (.getfield 96, 3) := by decide +kernel
theorem dX2_fact_37 : decode cX2_fact 37 = .ok (.iload_n 2, 1) := by decide +kernel
theorem dX2_fact_38 : decode cX2_fact 38 = .ok (.iaload, 1) := by decide +kernel
theorem dX2_fact_39 : decode cX2_fact 39 = .ok (.istore 5, 2) := by decide +kernel
theorem dX2_fact_41 : decode cX2_fact 41 = .ok (.aload 4, 2) := by decide +kernel
theorem dX2_fact_43 : decode cX2_fact 43 = .ok (.getfield 96, 3) := by decide +kernel
theorem dX2_fact_46 : decode cX2_fact 46 = .ok (.iload_n 2, 1) := by decide +kernel
theorem dX2_fact_47 : decode cX2_fact 47 = .ok (.iload_n 3, 1) := by decide +kernel
theorem dX2_fact_48 : decode cX2_fact 48 = .ok (.iastore, 1) := by decide +kernel
theorem dX2_fact_49 : decode cX2_fact 49 = .ok (.iload 5, 2) := by decide +kernel
theorem dX2_fact_51 : decode cX2_fact 51 = .ok (.ireturn, 1) := by decide +kernel
theorem dX2_points_0 : decode cX2_points 0 = .ok (.aload_n 0, 1) := by decide +kernel
theorem dX2_points_1 : decode cX2_points 1 = .ok (.iload_n 2, 1) := by decide +kernel
theorem dX2_points_2 : decode cX2_points 2 = .ok (.invokevirtual 92, 3) := by decide +kernel
theorem dX2_points_5 : decode cX2_points 5 = .ok (.astore_n 3, 1) := by decide +kernel
theorem dX2_points_6 : decode cX2_points 6 = .ok (.aload_n 3, 1) := by decide +kernel
theorem dX2_points_7 : decode cX2_points 7 = .ok (.ifnull 11, 3) := by decide +kernel
theorem dX2_points_10 : decode cX2_points 10 = .ok (.iload_n 1, 1) := by decide +kernel
theorem dX2_points_11 : decode cX2_points 11 = .ok (.iconst 2, 1) := by decide +kernel
theorem dX2_points_12 : decode cX2_points 12 = .ok (.invokestatic 49, 3) := by decide +kernel
theorem dX2_points_15 : decode cX2_points 15 = .ok (.ifCond .ne 6, 3) := by decide +kernel
theorem dX2_points_18 : decode cX2_points 18 = .ok (.bipush (-100), 2) := by decide +kernel
theorem dX2_points_20 : decode cX2_points 20 = .ok (.ireturn, 1) := by decide +kernel
theorem dX2_points_21 : decode cX2_points 21 = .ok (.aload_n 0, 1) := by decide +kernel
theorem dX2_points_22 : decode cX2_points 22 = .ok (.iload_n 1, 1) := by decide +kernel
theorem dX2_points_23 : decode cX2_points 23 = .ok (.aload_n 3, 1) := by decide +kernel
theorem dX2_points_24 : decode cX2_points 24 = .ok (.invokevirtual 99, 3) := by decide +kernel
theorem dX2_points_27 : decode cX2_points 27 = .ok (.ireturn, 1) := by decide +kernel
theorem dX2_mark_0 : decode cX2_mark 0 = .ok (.aload_n 0, 1) := by decide +kernel
theorem dX2_mark_1 : decode cX2_mark 1 = .ok (.iload_n 2, 1) := by decide +kernel
theorem dX2_mark_2 : decode cX2_mark 2 = .ok (.invokevirtual 92, 3) := by decide +kernel
theorem dX2_mark_5 : decode cX2_mark 5 = .ok (.astore 4, 2) := by decide +kernel
theorem dX2_mark_7 : decode cX2_mark 7 = .ok (.aload 4, 2) := by decide +kernel
theorem dX2_mark_9 : decode cX2_mark 9 = .ok (.ifnull 18, 3) := by decide +kernel
theorem dX2_mark_12 : decode cX2_mark 12 = .ok (.iload_n 1, 1) := by decide +kernel
theorem dX2_mark_13 : decode cX2_mark 13 = .ok (.iconst 3, 1) := by decide +kernel
theorem dX2_mark_14 : decode cX2_mark 14 = .ok (.invokestatic 49, 3) := by decide +kernel
theorem dX2_mark_17 : decode cX2_mark 17 = .ok (.ifCond .eq 10, 3) := by decide +kernel
theorem dX2_mark_20 : decode cX2_mark 20 = .ok (.iload_n 3, 1) := by decide +kernel
theorem dX2_mark_21 : decode cX2_mark 21 = .ok (.invokestatic 103, 3) := by decide +kernel
theorem dX2_mark_24 : decode cX2_mark 24 = .ok (.ifCond .ne 6, 3) := by decide +kernel
theorem dX2_mark_27 : decode cX2_mark 27 = .ok (.bipush (-100), 2) := by decide +kernel
theorem dX2_mark_29 : decode cX2_mark 29 = .ok (.ireturn, 1) := by decide +kernel
theorem dX2_mark_30 : decode cX2_mark 30 = .ok (.aload 4, 2) := by decide +kernel
theorem dX2_mark_32 : decode cX2_mark 32 = .ok (.getfield 107, 3) := by decide +kernel
theorem dX2_mark_35 : decode cX2_mark 35 = .ok (.iload_n 1, 1) := by decide +kernel
theorem dX2_mark_36 : decode cX2_mark 36 = .ok (.iaload, 1) := by decide +kernel
theorem dX2_mark_37 : decode cX2_mark 37 = .ok (.istore 5, 2) := by decide +kernel
theorem dX2_mark_39 : decode cX2_mark 39 = .ok (.aload 4, 2) := by decide +kernel
theorem dX2_mark_41 : decode cX2_mark 41 = .ok (.getfield 107, 3) := by decide +kernel
theorem dX2_mark_44 : decode cX2_mark 44 = .ok (.iload_n 1, 1) := by decide +kernel
theorem dX2_mark_45 : decode cX2_mark 45 = .ok (.iload_n 3, 1) := by decide +kernel
theorem dX2_mark_46 : decode cX2_mark 46 = .ok (.iastore, 1) := by decide +kernel
theorem dX2_mark_47 : decode cX2_mark 47 = .ok (.iload 5, 2) := by decide +kernel
theorem dX2_mark_49 : decode cX2_mark 49 = .ok (.ireturn, 1) := by decide +kernel
theorem dX2_given_0 : decode cX2_given 0 = .ok (.aload_n 0, 1) := by decide +kernel
theorem dX2_given_1 : decode cX2_given 1 = .ok (.iload_n 2, 1) := by decide +kernel
theorem dX2_given_2 : decode cX2_given 2 = .ok (.invokevirtual 92, 3) := by decide +kernel
theorem dX2_given_5 : decode cX2_given 5 = .ok (.astore_n 3, 1) := by decide +kernel
theorem dX2_given_6 : decode cX2_given 6 = .ok (.aload_n 3, 1) := by decide +kernel
theorem dX2_given_7 : decode cX2_given 7 = .ok (.ifnull 11, 3) := by decide +kernel
theorem dX2_given_10 : decode cX2_given 10 = .ok (.iload_n 1, 1) := by decide +kernel
theorem dX2_given_11 : decode cX2_given 11 = .ok (.iconst 3, 1) := by decide +kernel
theorem dX2_given_12 : decode cX2_given 12 = .ok (.invokestatic 49, 3) := by decide +kernel
theorem dX2_given_15 : decode cX2_given 15 = .ok (.ifCond .ne 6, 3) := by decide +kernel
theorem dX2_given_18 : decode cX2_given 18 = .ok (.bipush (-100), 2) := by decide +kernel
theorem dX2_given_20 : decode cX2_given 20 = .ok (.ireturn, 1) := by decide +kernel
theorem dX2_given_21 : decode cX2_given 21 = .ok (.aload_n 3, 1) := by decide +kernel
theorem dX2_given_22 : decode cX2_given 22 = .ok (.getfield 107, 3) := by decide +kernel
theorem dX2_given_25 : decode cX2_given 25 = .ok (.iload_n 1, 1) := by decide +kernel
theorem dX2_given_26 : decode cX2_given 26 = .ok (.iaload, 1) := by decide +kernel
theorem dX2_given_27 : decode cX2_given 27 = .ok (.ireturn, 1) := by decide +kernel
theorem dX2_like_0 : decode cX2_like 0 = .ok (.iload_n 1, 1) := by decide +kernel
theorem dX2_like_1 : decode cX2_like 1 = .ok (.iload_n 2, 1) := by decide +kernel
theorem dX2_like_2 : decode cX2_like 2 = .ok (.invokestatic 110, 3) := by decide +kernel
theorem dX2_like_5 : decode cX2_like 5 = .ok (.ifCond .eq 11, 3) := by decide +kernel
theorem dX2_like_8 : decode cX2_like 8 = .ok (.iload_n 3, 1) := by decide +kernel
theorem dX2_like_9 : decode cX2_like 9 = .ok (.iconst 3, 1) := by decide +kernel
theorem dX2_like_10 : decode cX2_like 10 = .ok (.invokestatic 49, 3) := by decide +kernel
theorem dX2_like_13 : decode cX2_like 13 = .ok (.ifCond .ne 6, 3) := by decide +kernel
theorem dX2_like_16 : decode cX2_like 16 = .ok (.bipush (-100), 2) := by decide +kernel
theorem dX2_like_18 : decode cX2_like 18 = .ok (.ireturn, 1) := by decide +kernel
theorem dX2_like_19 : decode cX2_like 19 = .ok (.aload_n 0, 1) := by decide +kernel
theorem dX2_like_20 : decode cX2_like 20 = .ok (.iload_n 1, 1) := by decide +kernel
theorem dX2_like_21 : decode cX2_like 21 = .ok (.iload_n 2, 1) := by decide +kernel
theorem dX2_like_22 : decode cX2_like 22 = .ok (.invokevirtual 113, 3) := by decide +kernel
theorem dX2_like_25 : decode cX2_like 25 = .ok (.istore 4, 2) := by decide +kernel
theorem dX2_like_27 : decode cX2_like 27 = .ok (.iload_n 3, 1) := by decide +kernel
theorem dX2_like_28 : decode cX2_like 28 = .ok (.iconst 2, 1) := by decide +kernel
theorem dX2_like_29 : decode cX2_like 29 = .ok (.if_icmp .ne 6, 3) := by decide +kernel
theorem dX2_like_32 : decode cX2_like 32 = .ok (.iload 4, 2) := by decide +kernel
theorem dX2_like_34 : decode cX2_like 34 = .ok (.ireturn, 1) := by decide +kernel
theorem dX2_like_35 : decode cX2_like 35 = .ok (.aload_n 0, 1) := by decide +kernel
theorem dX2_like_36 : decode cX2_like 36 = .ok (.iload_n 1, 1) := by decide +kernel
theorem dX2_like_37 : decode cX2_like 37 = .ok (.iload_n 2, 1) := by decide +kernel
theorem dX2_like_38 : decode cX2_like 38 = .ok (.invokevirtual 117, 3) := by decide +kernel
theorem dX2_like_41 : decode cX2_like 41 = .ok (.istore 5, 2) := by decide +kernel
theorem dX2_like_43 : decode cX2_like 43 = .ok (.aload_n 0, 1) := by decide +kernel
theorem dX2_like_44 : decode cX2_like 44 = .ok (.iload_n 1, 1) := by decide +kernel
theorem dX2_like_45 : decode cX2_like 45 = .ok (.iload_n 2, 1) := by decide +kernel
theorem dX2_like_46 : decode cX2_like 46 = .ok (.invokevirtual 120, 3) := by decide +kernel
theorem dX2_like_49 : decode cX2_like 49 = .ok (.iload 4, 2) := by decide +kernel
theorem dX2_like_51 : decode cX2_like 51 = .ok (.imul, 1) := by decide +kernel
theorem dX2_like_52 : decode cX2_like 52 = .ok (.iload 5, 2) := by decide +kernel
theorem dX2_like_54 : decode cX2_like 54 = .ok (.isub, 1) := by decide +kernel
theorem dX2_like_55 : decode cX2_like 55 = .ok (.iload 4, 2) := by decide +kernel
theorem dX2_like_57 : decode cX2_like 57 = .ok (.iload 4, 2) := by decide +kernel
theorem dX2_like_59 : decode cX2_like 59 = .ok (.imul, 1) := by decide +kernel
theorem dX2_like_60 : decode cX2_like 60 = .ok (.iload 5, 2) := by decide +kernel
theorem dX2_like_62 : decode cX2_like 62 = .ok (.isub, 1) := by decide +kernel
theorem dX2_like_63 : decode cX2_like 63 = .ok (.iload_n 3, 1) := by decide +kernel
theorem dX2_like_64 : decode cX2_like 64 = .ok (.invokestatic 123, 3) := by decide +kernel
theorem dX2_like_67 : decode cX2_like 67 = .ok (.ireturn, 1) := by decide +kernel
theorem dX2_parts_0 : decode cX2_parts 0 = .ok (.iload_n 1, 1) := by decide +kernel
theorem dX2_parts_1 : decode cX2_parts 1 = .ok (.iload_n 2, 1) := by decide +kernel
theorem dX2_parts_2 : decode cX2_parts 2 = .ok (.invokestatic 110, 3) := by decide +kernel
theorem dX2_parts_5 : decode cX2_parts 5 = .ok (.ifCond .ne 6, 3) := by decide +kernel
theorem dX2_parts_8 : decode cX2_parts 8 = .ok (.bipush (-100), 2) := by decide +kernel
theorem dX2_parts_10 : decode cX2_parts 10 = .ok (.ireturn, 1) := by decide +kernel
theorem dX2_parts_11 : decode cX2_parts 11 = .ok (.iconst 0, 1) := by decide +kernel
theorem dX2_parts_12 : decode cX2_parts 12 = .ok (.istore_n 3, 1) := by decide +kernel
theorem dX2_parts_13 : decode cX2_parts 13 = .ok (.sipush (-900), 3) := by decide +kernel
theorem dX2_parts_16 : decode cX2_parts 16 = .ok (.istore 4, 2) := by decide +kernel
theorem dX2_parts_18 : decode cX2_parts 18 = .ok (.iconst 0, 1) := by decide +kernel
theorem dX2_parts_19 : decode cX2_parts 19 = .ok (.istore 5, 2) := by decide +kernel
theorem dX2_parts_21 : decode cX2_parts 21 = .ok (.iload 5, 2) := by decide +kernel
theorem dX2_parts_23 : decode cX2_parts 23 = .ok (.aload_n 0, 1) := by decide +kernel
theorem dX2_parts_24 : decode cX2_parts 24 = .ok (.getfield 21, 3) := by decide +kernel
theorem dX2_parts_27 : decode cX2_parts 27 = .ok (.if_icmp .ge 61, 3) := by decide +kernel
theorem dX2_parts_30 : decode cX2_parts 30 = .ok (.aload_n 0, 1) := by decide +kernel
theorem dX2_parts_31 : decode cX2_parts 31 = .ok (.getfield 17, 3) := by decide +kernel
theorem dX2_parts_34 : decode cX2_parts 34 = .ok (.iload 5, 2) := by decide +kernel
theorem dX2_parts_36 : decode cX2_parts 36 = .ok (.aaload, 1) := by decide +kernel
theorem dX2_parts_37 : decode cX2_parts 37 = .ok (.astore 6, 2) := by decide +kernel
theorem dX2_parts_39 : decode cX2_parts 39 = .ok (.aload 6, 2) := by decide +kernel
theorem dX2_parts_41 : decode cX2_parts 41 = .ok (.iload_n 1, 1) := by decide +kernel
theorem dX2_parts_42 : decode cX2_parts 42 = .ok (.iload_n 2, 1) := by decide +kernel
theorem dX2_parts_43 : decode cX2_parts 43 = .ok (.invokevirtual 127, 3) := by decide +kernel
theorem dX2_parts_46 : decode cX2_parts 46 = .ok (.ifCond .eq 36, 3) := by decide +kernel
theorem dX2_parts_49 : decode cX2_parts 49 = .ok (.aload 6, 2) := by decide +kernel
theorem dX2_parts_51 : decode cX2_parts 51 = .ok (.getfield 107, 3) := by decide +kernel
theorem dX2_parts_54 : decode cX2_parts 54 = .ok (.iload_n 1, 1) := by decide +kernel
theorem dX2_parts_55 : decode cX2_parts 55 = .ok (.iaload, 1) := by decide +kernel
theorem dX2_parts_56 : decode cX2_parts 56 = .ok (.aload 6, 2) := by decide +kernel
theorem dX2_parts_58 : decode cX2_parts 58 = .ok (.getfield 107, 3) := by decide +kernel
theorem dX2_parts_61 : decode cX2_parts 61 = .ok (.iload_n 2, 1) := by decide +kernel
theorem dX2_parts_62 : decode cX2_parts 62 = .ok (.iaload, 1) := by decide +kernel
theorem dX2_parts_63 : decode cX2_parts 63 = .ok (.isub, 1) := by decide +kernel
theorem dX2_parts_64 : decode cX2_parts 64 = .ok (.invokestatic 130, 3) := by decide +kernel
theorem dX2_parts_67 : decode cX2_parts 67 = .ok (.istore 7, 2) := by decide +kernel
theorem dX2_parts_69 : decode cX2_parts 69 = .ok (.iload 7, 2) := by decide +kernel
theorem dX2_parts_71 : decode cX2_parts 71 = .ok (.iload_n 3, 1) := by decide +kernel
theorem dX2_parts_72 : decode cX2_parts 72 = .ok (.if_icmp .le 10, 3) := by decide +kernel
theorem dX2_parts_75 : decode cX2_parts 75 = .ok (.iload 7, 2) := by decide +kernel
theorem dX2_parts_77 : decode cX2_parts 77 = .ok (.istore_n 3, 1) := by decide +kernel
theorem dX2_parts_78 : decode cX2_parts 78 = .ok (.iload 5, 2) := by decide +kernel
theorem dX2_parts_80 : decode cX2_parts 80 = .ok (.istore 4, 2) := by decide +kernel
theorem dX2_parts_82 : decode cX2_parts 82 = .ok (.iinc 5 1, 3) := by decide +kernel
theorem dX2_parts_85 : decode cX2_parts 85 = .ok (.goto (-64), 3) := by decide +kernel
theorem dX2_parts_88 : decode cX2_parts 88 = .ok (.iload 4, 2) := by decide +kernel
theorem dX2_parts_90 : decode cX2_parts 90 = .ok (.ireturn, 1) := by decide +kernel
theorem dX2_anchor_0 : decode cX2_anchor 0 = .ok (.aload_n 0, 1) := by decide +kernel
theorem dX2_anchor_1 : decode cX2_anchor 1 = .ok (.iload_n 1, 1) := by decide +kernel
theorem dX2_anchor_2 : decode cX2_anchor 2 = .ok (.invokevirtual 92, 3) := by decide +kernel
theorem dX2_anchor_5 : decode cX2_anchor 5 = .ok (.astore_n 3, 1) := by decide +kernel
theorem dX2_anchor_6 : decode cX2_anchor 6 = .ok (.aload_n 3, 1) := by decide +kernel
theorem dX2_anchor_7 : decode cX2_anchor 7 = .ok (.ifnull 10, 3) := by decide +kernel
theorem dX2_anchor_10 : decode cX2_anchor 10 = .ok (.iload_n 2, 1) := by decide +kernel
theorem dX2_anchor_11 : decode cX2_anchor 11 = .ok (.invokestatic 103, 3) := by decide +kernel
theorem dX2_anchor_14 : decode cX2_anchor 14 = .ok (.ifCond .ne 6, 3) := by decide +kernel
theorem dX2_anchor_17 : decode cX2_anchor 17 = .ok (.bipush (-100), 2) := by decide +kernel
theorem dX2_anchor_19 : decode cX2_anchor 19 = .ok (.ireturn, 1) := by decide +kernel
theorem dX2_anchor_20 : decode cX2_anchor 20 = .ok (.aload_n 3, 1) := by decide +kernel
theorem dX2_anchor_21 : decode cX2_anchor 21 = .ok (.getfield 135, 3) := by decide +kernel
theorem dX2_anchor_24 : decode cX2_anchor 24 = .ok (.istore 4, 2) := by decide +kernel
theorem dX2_anchor_26 : decode cX2_anchor 26 = .ok (.aload_n 3, 1) := by decide +kernel
theorem dX2_anchor_27 : decode cX2_anchor 27 = .ok (.iload_n 2, 1) := by decide +kernel
theorem dX2_anchor_28 : decode cX2_anchor 28 = .ok (.putfield 135, 3) := by decide +kernel
theorem dX2_anchor_31 : decode cX2_anchor 31 = .ok (.iload 4, 2) := by decide +kernel
theorem dX2_anchor_33 : decode cX2_anchor 33 = .ok (.ireturn, 1) := by decide +kernel
theorem dX2_off_0 : decode cX2_off 0 = .ok (.iload_n 1, 1) := by decide +kernel
theorem dX2_off_1 : decode cX2_off 1 = .ok (.iconst 3, 1) := by decide +kernel
theorem dX2_off_2 : decode cX2_off 2 = .ok (.invokestatic 49, 3) := by decide +kernel
theorem dX2_off_5 : decode cX2_off 5 = .ok (.ifCond .eq 11, 3) := by decide +kernel
theorem dX2_off_8 : decode cX2_off 8 = .ok (.iload_n 2, 1) := by decide +kernel
theorem dX2_off_9 : decode cX2_off 9 = .ok (.iconst 3, 1) := by decide +kernel
theorem dX2_off_10 : decode cX2_off 10 = .ok (.invokestatic 49, 3) := by decide +kernel
theorem dX2_off_13 : decode cX2_off 13 = .ok (.ifCond .ne 6, 3) := by decide +kernel
theorem dX2_off_16 : decode cX2_off 16 = .ok (.bipush (-100), 2) := by decide +kernel
theorem dX2_off_18 : decode cX2_off 18 = .ok (.ireturn, 1) := by decide +kernel
theorem dX2_off_19 : decode cX2_off 19 = .ok (.aload_n 0, 1) := by decide +kernel
theorem dX2_off_20 : decode cX2_off 20 = .ok (.iload_n 1, 1) := by decide +kernel
theorem dX2_off_21 : decode cX2_off 21 = .ok (.invokevirtual 138, 3) := by decide +kernel
theorem dX2_off_24 : decode cX2_off 24 = .ok (.istore_n 3, 1) := by decide +kernel
theorem dX2_off_25 : decode cX2_off 25 = .ok (.iload_n 2, 1) := by decide +kernel
theorem dX2_off_26 : decode cX2_off 26 = .ok (.iconst 2, 1) := by decide +kernel
theorem dX2_off_27 : decode cX2_off 27 = .ok (.if_icmp .ne 7, 3) := by decide +kernel
theorem dX2_off_30 : decode cX2_off 30 = .ok (.iload_n 3, 1) := by decide +kernel
theorem dX2_off_31 : decode cX2_off 31 = .ok (.goto 13, 3) := by decide +kernel
theorem dX2_off_34 : decode cX2_off 34 = .ok (.aload_n 0, 1) := by decide +kernel
theorem dX2_off_35 : decode cX2_off 35 = .ok (.iload_n 1, 1) := by decide +kernel
theorem dX2_off_36 : decode cX2_off 36 = .ok (.invokevirtual 141, 3) := by decide +kernel
theorem dX2_off_39 : decode cX2_off 39 = .ok (.iload_n 3, 1) := by decide +kernel
theorem dX2_off_40 : decode cX2_off 40 = .ok (.iload_n 2, 1) := by decide +kernel
theorem dX2_off_41 : decode cX2_off 41 = .ok (.invokestatic 123, 3) := by decide +kernel
theorem dX2_off_44 : decode cX2_off 44 = .ok (.ireturn, 1) := by decide +kernel
theorem dX2_fair_0 : decode cX2_fair 0 = .ok (.aload_n 0, 1) := by decide +kernel
theorem dX2_fair_1 : decode cX2_fair 1 = .ok (.iload_n 2, 1) := by decide +kernel
theorem dX2_fair_2 : decode cX2_fair 2 = .ok (.invokevirtual 92, 3) := by decide +kernel
theorem dX2_fair_5 : decode cX2_fair 5 = .ok (.astore_n 3, 1) := by decide +kernel
theorem dX2_fair_6 : decode cX2_fair 6 = .ok (.aload_n 3, 1) := by decide +kernel
theorem dX2_fair_7 : decode cX2_fair 7 = .ok (.ifnull 11, 3) := by decide +kernel
theorem dX2_fair_10 : decode cX2_fair 10 = .ok (.iload_n 1, 1) := by decide +kernel
theorem dX2_fair_11 : decode cX2_fair 11 = .ok (.iconst 3, 1) := by decide +kernel
theorem dX2_fair_12 : decode cX2_fair 12 = .ok (.invokestatic 49, 3) := by decide +kernel
theorem dX2_fair_15 : decode cX2_fair 15 = .ok (.ifCond .ne 6, 3) := by decide +kernel
theorem dX2_fair_18 : decode cX2_fair 18 = .ok (.bipush (-100), 2) := by decide +kernel
theorem dX2_fair_20 : decode cX2_fair 20 = .ok (.ireturn, 1) := by decide +kernel
theorem dX2_fair_21 : decode cX2_fair 21 = .ok (.aload_n 0, 1) := by decide +kernel
theorem dX2_fair_22 : decode cX2_fair 22 = .ok (.iload_n 1, 1) := by decide +kernel
theorem dX2_fair_23 : decode cX2_fair 23 = .ok (.invokevirtual 138, 3) := by decide +kernel
theorem dX2_fair_26 : decode cX2_fair 26 = .ok (.istore 4, 2) := by decide +kernel
theorem dX2_fair_28 : decode cX2_fair 28 = .ok (.aload_n 3, 1) := by decide +kernel
theorem dX2_fair_29 : decode cX2_fair 29 = .ok (.iload_n 1, 1) := by decide +kernel
theorem dX2_fair_30 : decode cX2_fair 30 = .ok (.invokevirtual 144, 3) := by decide +kernel
theorem dX2_fair_33 : decode cX2_fair 33 = .ok (.ifCond .eq 8, 3) := by decide +kernel
theorem dX2_fair_36 : decode cX2_fair 36 = .ok (.iload 4, 2) := by decide +kernel
theorem dX2_fair_38 : decode cX2_fair 38 = .ok (.ifCond .gt 7, 3) := by decide +kernel
theorem dX2_fair_41 : decode cX2_fair 41 = .ok (.sipush (-200), 3) := by decide +kernel
theorem dX2_fair_44 : decode cX2_fair 44 = .ok (.ireturn, 1) := by decide +kernel
theorem dX2_fair_45 : decode cX2_fair 45 = .ok (.aload_n 3, 1) := by decide +kernel
theorem dX2_fair_46 : decode cX2_fair 46 = .ok (.getfield 107, 3) := by decide +kernel
theorem dX2_fair_49 : decode cX2_fair 49 = .ok (.iload_n 1, 1) := by decide +kernel
theorem dX2_fair_50 : decode cX2_fair 50 = .ok (.iaload, 1) := by decide +kernel
theorem dX2_fair_51 : decode cX2_fair 51 = .ok (.iload 4, 2) := by decide +kernel
theorem dX2_fair_53 : decode cX2_fair 53 = .ok (.imul, 1) := by decide +kernel
theorem dX2_fair_54 : decode cX2_fair 54 = .ok (.aload_n 0, 1) := by decide +kernel
theorem dX2_fair_55 : decode cX2_fair 55 = .ok (.iload_n 1, 1) := by decide +kernel
theorem dX2_fair_56 : decode cX2_fair 56 = .ok (.invokevirtual 141, 3) := by decide +kernel
theorem dX2_fair_59 : decode cX2_fair 59 = .ok (.isub, 1) := by decide +kernel
theorem dX2_fair_60 : decode cX2_fair 60 = .ok (.istore 5, 2) := by decide +kernel
theorem dX2_fair_62 : decode cX2_fair 62 = .ok (.iconst 2, 1) := by decide +kernel
theorem dX2_fair_63 : decode cX2_fair 63 = .ok (.iload 5, 2) := by decide +kernel
theorem dX2_fair_65 : decode cX2_fair 65 = .ok (.imul, 1) := by decide +kernel
theorem dX2_fair_66 : decode cX2_fair 66 = .ok (.iload 4, 2) := by decide +kernel
theorem dX2_fair_68 : decode cX2_fair 68 = .ok (.iadd, 1) := by decide +kernel
theorem dX2_fair_69 : decode cX2_fair 69 = .ok (.iconst 2, 1) := by decide +kernel
theorem dX2_fair_70 : decode cX2_fair 70 = .ok (.iload 4, 2) := by decide +kernel
theorem dX2_fair_72 : decode cX2_fair 72 = .ok (.imul, 1) := by decide +kernel
theorem dX2_fair_73 : decode cX2_fair 73 = .ok (.invokestatic 147, 3) := by decide +kernel
theorem dX2_fair_76 : decode cX2_fair 76 = .ok (.istore 6, 2) := by decide +kernel
theorem dX2_fair_78 : decode cX2_fair 78 = .ok (.iconst 0, 1) := by decide +kernel
theorem dX2_fair_79 : decode cX2_fair 79 = .ok (.iconst 3, 1) := by decide +kernel
theorem dX2_fair_80 : decode cX2_fair 80 = .ok (.iload 6, 2) := by decide +kernel
theorem dX2_fair_82 : decode cX2_fair 82 = .ok (.invokestatic 150, 3) := by decide +kernel
theorem dX2_fair_85 : decode cX2_fair 85 = .ok (.invokestatic 153, 3) := by decide +kernel
theorem dX2_fair_88 : decode cX2_fair 88 = .ok (.ireturn, 1) := by decide +kernel
theorem dX2_drift_0 : decode cX2_drift 0 = .ok (.iload_n 1, 1) := by decide +kernel
theorem dX2_drift_1 : decode cX2_drift 1 = .ok (.iconst 3, 1) := by decide +kernel
theorem dX2_drift_2 : decode cX2_drift 2 = .ok (.invokestatic 49, 3) := by decide +kernel
theorem dX2_drift_5 : decode cX2_drift 5 = .ok (.ifCond .eq 11, 3) := by decide +kernel
theorem dX2_drift_8 : decode cX2_drift 8 = .ok (.iload_n 2, 1) := by decide +kernel
theorem dX2_drift_9 : decode cX2_drift 9 = .ok (.iconst 3, 1) := by decide +kernel
theorem dX2_drift_10 : decode cX2_drift 10 = .ok (.invokestatic 49, 3) := by decide +kernel
theorem dX2_drift_13 : decode cX2_drift 13 = .ok (.ifCond .ne 6, 3) := by decide +kernel
theorem dX2_drift_16 : decode cX2_drift 16 = .ok (.bipush (-100), 2) := by decide +kernel
theorem dX2_drift_18 : decode cX2_drift 18 = .ok (.ireturn, 1) := by decide +kernel
theorem dX2_drift_19 : decode cX2_drift 19 = .ok (.aload_n 0, 1) := by decide +kernel
theorem dX2_drift_20 : decode cX2_drift 20 = .ok (.iload_n 1, 1) := by decide +kernel
theorem dX2_drift_21 : decode cX2_drift 21 = .ok (.invokevirtual 156, 3) := by decide +kernel
theorem dX2_drift_24 : decode cX2_drift 24 = .ok (.istore_n 3, 1) := by decide +kernel
theorem dX2_drift_25 : decode cX2_drift 25 = .ok (.iload_n 2, 1) := by decide +kernel
theorem dX2_drift_26 : decode cX2_drift 26 = .ok (.iconst 2, 1) := by decide +kernel
theorem dX2_drift_27 : decode cX2_drift 27 = .ok (.if_icmp .ne 5, 3) := by decide +kernel
theorem dX2_drift_30 : decode cX2_drift 30 = .ok (.iload_n 3, 1) := by decide +kernel
theorem dX2_drift_31 : decode cX2_drift 31 = .ok (.ireturn, 1) := by decide +kernel
theorem dX2_drift_32 : decode cX2_drift 32 = .ok (.aload_n 0, 1) := by decide +kernel
theorem dX2_drift_33 : decode cX2_drift 33 = .ok (.iload_n 3, 1) := by decide +kernel
theorem dX2_drift_34 : decode cX2_drift 34 = .ok (.invokevirtual 159, 3) := by decide +kernel
theorem dX2_drift_37 : decode cX2_drift 37 = .ok (.istore 4, 2) := by decide +kernel
theorem dX2_drift_39 : decode cX2_drift 39 = .ok (.iload_n 2, 1) := by decide +kernel
theorem dX2_drift_40 : decode cX2_drift 40 = .ok (.ifCond .ne 8, 3) := by decide +kernel
theorem dX2_drift_43 : decode cX2_drift 43 = .ok (.iload 4, 2) := by decide +kernel
theorem dX2_drift_45 : decode cX2_drift 45 = .ok (.goto 10, 3) := by decide +kernel
theorem dX2_drift_48 : decode cX2_drift 48 = .ok (.aload_n 0, 1) := by decide +kernel
theorem dX2_drift_49 : decode cX2_drift 49 = .ok (.iload_n 3, 1) := by decide +kernel
theorem dX2_drift_50 : decode cX2_drift 50 = .ok (.iload 4, 2) := by decide +kernel
theorem dX2_drift_52 : decode cX2_drift 52 = .ok (.invokevirtual 162, 3) := by decide +kernel
theorem dX2_drift_55 : decode cX2_drift 55 = .ok (.ireturn, 1) := by decide +kernel
theorem dX2_moves_0 : decode cX2_moves 0 = .ok (.iload_n 1, 1) := by decide +kernel
theorem dX2_moves_1 : decode cX2_moves 1 = .ok (.iconst 2, 1) := by decide +kernel
theorem dX2_moves_2 : decode cX2_moves 2 = .ok (.invokestatic 49, 3) := by decide +kernel
theorem dX2_moves_5 : decode cX2_moves 5 = .ok (.ifCond .ne 6, 3) := by decide +kernel
theorem dX2_moves_8 : decode cX2_moves 8 = .ok (.bipush (-100), 2) := by decide +kernel
theorem dX2_moves_10 : decode cX2_moves 10 = .ok (.ireturn, 1) := by decide +kernel
theorem dX2_moves_11 : decode cX2_moves 11 = .ok (.iconst 0, 1) := by decide +kernel
theorem dX2_moves_12 : decode cX2_moves 12 = .ok (.istore_n 2, 1) := by decide +kernel
theorem dX2_moves_13 : decode cX2_moves 13 = .ok (.iload_n 2, 1) := by decide +kernel
theorem dX2_moves_14 : decode cX2_moves 14 = .ok (.aload_n 0, 1) := by decide +kernel
theorem dX2_moves_15 : decode cX2_moves 15 = .ok (.getfield 21, 3) := by decide +kernel
theorem dX2_moves_18 : decode cX2_moves 18 = .ok (.if_icmp .ge 43, 3) := by decide +kernel
theorem dX2_moves_21 : decode cX2_moves 21 = .ok (.aload_n 0, 1) := by decide +kernel
theorem dX2_moves_22 : decode cX2_moves 22 = .ok (.getfield 36, 3) := by decide +kernel
theorem dX2_moves_25 : decode cX2_moves 25 = .ok (.iload_n 2, 1) := by decide +kernel
theorem dX2_moves_26 : decode cX2_moves 26 = .ok (.aload_n 0, 1) := by decide +kernel
theorem dX2_moves_27 : decode cX2_moves 27 = .ok (.iconst 0, 1) := by decide +kernel
theorem dX2_moves_28 : decode cX2_moves 28 = .ok (.aload_n 0, 1) := by decide +kernel
theorem dX2_moves_29 : decode cX2_moves 29 = .ok (.getfield 17, 3) := by decide +kernel
theorem dX2_moves_32 : decode cX2_moves 32 = .ok (.iload_n 2, 1) := by decide +kernel
theorem dX2_moves_33 : decode cX2_moves 33 = .ok (.aaload, 1) := by decide +kernel
theorem dX2_moves_34 : decode cX2_moves 34 = .ok (.invokevirtual 99, 3) := by decide +kernel
theorem dX2_moves_37 : decode cX2_moves 37 = .ok (.iastore, 1) := by decide +kernel
theorem dX2_moves_38 : decode cX2_moves 38 = .ok (.aload_n 0, 1) := by decide +kernel
theorem dX2_moves_39 : decode cX2_moves 39 = .ok (.getfield 39, 3) := by decide +kernel
theorem dX2_moves_42 : decode cX2_moves 42 = .ok (.iload_n 2, 1) := by decide +kernel
theorem dX2_moves_43 : decode cX2_moves 43 = .ok (.aload_n 0, 1) := by decide +kernel
theorem dX2_moves_44 : decode cX2_moves 44 = .ok (.iconst 1, 1) := by decide +kernel
theorem dX2_moves_45 : decode cX2_moves 45 = .ok (.aload_n 0, 1) := by decide +kernel
theorem dX2_moves_46 : decode cX2_moves 46 = .ok (.getfield 17, 3) := by decide +kernel
theorem dX2_moves_49 : decode cX2_moves 49 = .ok (.iload_n 2, 1) := by decide +kernel
theorem dX2_moves_50 : decode cX2_moves 50 = .ok (.aaload, 1) := by decide +kernel
theorem dX2_moves_51 : decode cX2_moves 51 = .ok (.invokevirtual 99, 3) := by decide +kernel
theorem dX2_moves_54 : decode cX2_moves 54 = .ok (.iastore, 1) := by decide +kernel
theorem dX2_moves_55 : decode cX2_moves 55 = .ok (.iinc 2 1, 3) := by decide +kernel
theorem dX2_moves_58 : decode cX2_moves 58 = .ok (.goto (-45), 3) := by decide +kernel
theorem dX2_moves_61 : decode cX2_moves 61 = .ok (.iload_n 1, 1) := by decide +kernel
theorem dX2_moves_62 : decode cX2_moves 62 = .ok (.ifCond .ne 10, 3) := by decide +kernel
theorem dX2_moves_65 : decode cX2_moves 65 = .ok (.aload_n 0, 1) := by decide +kernel
theorem dX2_moves_66 : decode cX2_moves 66 = .ok (.invokevirtual 165, 3) := by decide +kernel
theorem dX2_moves_69 : decode cX2_moves 69 = .ok (.goto 7, 3) := by decide +kernel
theorem dX2_moves_72 : decode cX2_moves 72 = .ok (.aload_n 0, 1) := by decide +kernel
theorem dX2_moves_73 : decode cX2_moves 73 = .ok (.invokevirtual 168, 3) := by decide +kernel
theorem dX2_moves_76 : decode cX2_moves 76 = .ok (.ireturn, 1) := by decide +kernel
theorem dX2_copy_0 : decode cX2_copy 0 = .ok (.iload_n 1, 1) := by decide +kernel
theorem dX2_copy_1 : decode cX2_copy 1 = .ok (.iconst 3, 1) := by decide +kernel
theorem dX2_copy_2 : decode cX2_copy 2 = .ok (.invokestatic 49, 3) := by decide +kernel
theorem dX2_copy_5 : decode cX2_copy 5 = .ok (.ifCond .ne 6, 3) := by decide +kernel
theorem dX2_copy_8 : decode cX2_copy 8 = .ok (.bipush (-100), 2) := by decide +kernel
theorem dX2_copy_10 : decode cX2_copy 10 = .ok (.ireturn, 1) := by decide +kernel
theorem dX2_copy_11 : decode cX2_copy 11 = .ok (.iconst 0, 1) := by decide +kernel
theorem dX2_copy_12 : decode cX2_copy 12 = .ok (.istore_n 2, 1) := by decide +kernel
theorem dX2_copy_13 : decode cX2_copy 13 = .ok (.iload_n 2, 1) := by decide +kernel
theorem dX2_copy_14 : decode cX2_copy 14 = .ok (.iconst 4, 1) := by decide +kernel
theorem dX2_copy_15 : decode cX2_copy 15 = .ok (.if_icmp .ge 70, 3) := by decide +kernel
theorem dX2_copy_18 : decode cX2_copy 18 = .ok (.aload_n 0, 1) := by decide +kernel
theorem dX2_copy_19 : decode cX2_copy 19 = .ok (.getfield 11, 3) := by decide +kernel
theorem dX2_copy_22 : decode cX2_copy 22 = .ok (.iload_n 2, 1) := by decide +kernel
theorem dX2_copy_23 : decode cX2_copy 23 = .ok (.aaload, 1) := by decide +kernel
theorem dX2_copy_24 : decode cX2_copy 24 = .ok (.astore_n 3, 1) := by decide +kernel
theorem dX2_copy_25 : decode cX2_copy 25 = .ok (.aload_n 0, 1) := by decide +kernel
theorem dX2_copy_26 : decode cX2_copy 26 = .ok (.getfield 11, 3) := by decide +kernel
theorem dX2_copy_29 : decode cX2_copy 29 = .ok (.iconst 4, 1) := by decide +kernel
theorem dX2_copy_30 : decode cX2_copy 30 = .ok (.iload_n 2, 1) := by decide +kernel
theorem dX2_copy_31 : decode cX2_copy 31 = .ok (.iadd, 1) := by decide +kernel
theorem dX2_copy_32 : decode cX2_copy 32 = .ok (.aaload, 1) := by decide +kernel
theorem dX2_copy_33 : decode cX2_copy 33 = .ok (.astore 4, 2) := by decide +kernel
theorem dX2_copy_35 : decode cX2_copy 35 = .ok (.iload_n 1, 1) := by decide +kernel
theorem dX2_copy_36 : decode cX2_copy 36 = .ok (.ifCond .ne 12, 3) := by decide +kernel
theorem dX2_copy_39 : decode cX2_copy 39 = .ok (.aload 4, 2) := by decide +kernel
theorem dX2_copy_41 : decode cX2_copy 41 = .ok (.aload_n 3, 1) := by decide +kernel
theorem dX2_copy_42 : decode cX2_copy 42 = .ok (.invokevirtual 171, 3) := by decide +kernel
theorem dX2_copy_45 : decode cX2_copy 45 = .ok (.goto 34, 3) := by decide +kernel
theorem dX2_copy_48 : decode cX2_copy 48 = .ok (.iload_n 1, 1) := by decide +kernel
theorem dX2_copy_49 : decode cX2_copy 49 = .ok (.iconst 1, 1) := by decide +kernel
theorem dX2_copy_50 : decode cX2_copy 50 = .ok (.if_icmp .ne 12, 3) := by decide +kernel
theorem dX2_copy_53 : decode cX2_copy 53 = .ok (.aload_n 3, 1) := by decide +kernel
theorem dX2_copy_54 : decode cX2_copy 54 = .ok (.aload 4, 2) := by decide +kernel
theorem dX2_copy_56 : decode cX2_copy 56 = .ok (.invokevirtual 171, 3) := by decide +kernel
theorem dX2_copy_59 : decode cX2_copy 59 = .ok (.goto 20, 3) := by decide +kernel
theorem dX2_copy_62 : decode cX2_copy 62 = .ok (.aload_n 0, 1) := by decide +kernel
theorem dX2_copy_63 : decode cX2_copy 63 = .ok (.getfield 11, 3) := by decide +kernel
theorem dX2_copy_66 : decode cX2_copy 66 = .ok (.iload_n 2, 1) := by decide +kernel
theorem dX2_copy_67 : decode cX2_copy 67 = .ok (.aload 4, 2) := by decide +kernel
theorem dX2_copy_69 : decode cX2_copy 69 = .ok (.aastore, 1) := by decide +kernel
theorem dX2_copy_70 : decode cX2_copy 70 = .ok (.aload_n 0, 1) := by decide +kernel
theorem dX2_copy_71 : decode cX2_copy 71 = .ok (.getfield 11, 3) := by decide +kernel
theorem dX2_copy_74 : decode cX2_copy 74 = .ok (.iconst 4, 1) := by decide +kernel
theorem dX2_copy_75 : decode cX2_copy 75 = .ok (.iload_n 2, 1) := by decide +kernel
theorem dX2_copy_76 : decode cX2_copy 76 = .ok (.iadd, 1) := by decide +kernel
theorem dX2_copy_77 : decode cX2_copy 77 = .ok (.aload_n 3, 1) := by decide +kernel
theorem dX2_copy_78 : decode cX2_copy 78 = .ok (.aastore, 1) := by decide +kernel
theorem dX2_copy_79 : decode cX2_copy 79 = .ok (.iinc 2 1, 3) := by decide +kernel
theorem dX2_copy_82 : decode cX2_copy 82 = .ok (.goto (-69), 3) := by decide +kernel
theorem dX2_copy_85 : decode cX2_copy 85 = .ok (.iconst 1, 1) := by decide +kernel
theorem dX2_copy_86 : decode cX2_copy 86 = .ok (.ireturn, 1) := by decide +kernel
theorem dX2_count_0 : decode cX2_count 0 = .ok (.iload_n 1, 1) := by decide +kernel
theorem dX2_count_1 : decode cX2_count 1 = .ok (.tableswitch 62 0 4 #[35, 40, 45, 50, 56], 35) := by decide +kernel
theorem dX2_count_36 : decode cX2_count 36 = .ok (.aload_n 0, 1) := by decide +kernel
theorem dX2_count_37 : decode cX2_count 37 = .ok (.getfield 21, 3) := by decide +kernel
theorem dX2_count_40 : decode cX2_count 40 = .ok (.ireturn, 1) := by decide +kernel
theorem dX2_count_41 : decode cX2_count 41 = .ok (.aload_n 0, 1) := by decide +kernel
theorem dX2_count_42 : decode cX2_count 42 = .ok (.invokevirtual 175, 3) := by decide +kernel
theorem dX2_count_45 : decode cX2_count 45 = .ok (.ireturn, 1) := by decide +kernel
theorem dX2_count_46 : decode cX2_count 46 = .ok (.aload_n 0, 1) := by decide +kernel
theorem dX2_count_47 : decode cX2_count 47 = .ok (.invokevirtual 178, 3) := by decide +kernel
theorem dX2_count_50 : decode cX2_count 50 = .ok (.ireturn, 1) := by decide +kernel
theorem dX2_count_51 : decode cX2_count 51 = .ok (.aload_n 0, 1) := by decide +kernel
theorem dX2_count_52 : decode cX2_count 52 = .ok (.iconst 0, 1) := by decide +kernel
theorem dX2_count_53 : decode cX2_count 53 = .ok (.invokevirtual 181, 3) := by decide +kernel
theorem dX2_count_56 : decode cX2_count 56 = .ok (.ireturn, 1) := by decide +kernel
theorem dX2_count_57 : decode cX2_count 57 = .ok (.aload_n 0, 1) := by decide +kernel
theorem dX2_count_58 : decode cX2_count 58 = .ok (.iconst 1, 1) := by decide +kernel
theorem dX2_count_59 : decode cX2_count 59 = .ok (.invokevirtual 181, 3) := by decide +kernel
theorem dX2_count_62 : decode cX2_count 62 = .ok (.ireturn, 1) := by decide +kernel
theorem dX2_count_63 : decode cX2_count 63 = .ok (.bipush (-100), 2) := by decide +kernel
theorem dX2_count_65 : decode cX2_count 65 = .ok (.ireturn, 1) := by decide +kernel
theorem dX2_trace_0 : decode cX2_trace 0 = .ok (.aload_n 0, 1) := by decide +kernel
theorem dX2_trace_1 : decode cX2_trace 1 = .ok (.getfield 25, 3) := by decide +kernel
theorem dX2_trace_4 : decode cX2_trace 4 = .ok (.lreturn, 1) := by decide +kernel
theorem dX2_isBelow_0 : decode cX2_isBelow 0 = .ok (.iload_n 0, 1) := by decide +kernel
theorem dX2_isBelow_1 : decode cX2_isBelow 1 = .ok (.ifCond .lt 12, 3) := by decide +kernel
theorem dX2_isBelow_4 : decode cX2_isBelow 4 = .ok (.iload_n 0, 1) := by decide +kernel
theorem dX2_isBelow_5 : decode cX2_isBelow 5 = .ok (.iload_n 1, 1) := by decide +kernel
theorem dX2_isBelow_6 : decode cX2_isBelow 6 = .ok (.if_icmp .ge 7, 3) := by decide +kernel
theorem dX2_isBelow_9 : decode cX2_isBelow 9 = .ok (.iconst 1, 1) := by decide +kernel
theorem dX2_isBelow_10 : decode cX2_isBelow 10 = .ok (.goto 4, 3) := by decide +kernel
theorem dX2_isBelow_13 : decode cX2_isBelow 13 = .ok (.iconst 0, 1) := by decide +kernel
theorem dX2_isBelow_14 : decode cX2_isBelow 14 = .ok (.ireturn, 1) := by decide +kernel
theorem dX2_isUpTo_0 : decode cX2_isUpTo 0 = .ok (.iload_n 0, 1) := by decide +kernel
theorem dX2_isUpTo_1 : decode cX2_isUpTo 1 = .ok (.ifCond .lt 12, 3) := by decide +kernel
theorem dX2_isUpTo_4 : decode cX2_isUpTo 4 = .ok (.iload_n 0, 1) := by decide +kernel
theorem dX2_isUpTo_5 : decode cX2_isUpTo 5 = .ok (.iload_n 1, 1) := by decide +kernel
theorem dX2_isUpTo_6 : decode cX2_isUpTo 6 = .ok (.if_icmp .gt 7, 3) := by decide +kernel
end
section
theorem dX2_isUpTo_9 : decode cX2_isUpTo 9 = .ok (.iconst 1, 1) := by decide +kernel
theorem dX2_isUpTo_10 : decode cX2_isUpTo 10 = .ok (.goto 4, 3) := by decide +kernel
theorem dX2_isUpTo_13 : decode cX2_isUpTo 13 = .ok (.iconst 0, 1) := by decide +kernel
theorem dX2_isUpTo_14 : decode cX2_isUpTo 14 = .ok (.ireturn, 1) := by decide +kernel
theorem dX2_isMarkOrNone_0 : decode cX2_isMarkOrNone 0 = .ok (.iload_n 0, 1) := by decide +kernel
theorem dX2_isMarkOrNone_1 : decode cX2_isMarkOrNone 1 = .ok (.sipush (-900), 3) := by decide +kernel
theorem dX2_isMarkOrNone_4 : decode cX2_isMarkOrNone 4 = .ok (.if_icmp .eq 11, 3) := by decide +kernel
theorem dX2_isMarkOrNone_7 : decode cX2_isMarkOrNone 7 = .ok (.iload_n 0, 1) := by decide +kernel
theorem dX2_isMarkOrNone_8 : decode cX2_isMarkOrNone 8 = .ok (.iconst 4, 1) := by decide +kernel
theorem dX2_isMarkOrNone_9 : decode cX2_isMarkOrNone 9 = .ok (.invokestatic 49, 3) := by decide +kernel
theorem dX2_isMarkOrNone_12 : decode cX2_isMarkOrNone 12 = .ok (.ifCond .eq 7, 3) := by decide +kernel
theorem dX2_isMarkOrNone_15 : decode cX2_isMarkOrNone 15 = .ok (.iconst 1, 1) := by decide +kernel
theorem dX2_isMarkOrNone_16 : decode cX2_isMarkOrNone 16 = .ok (.goto 4, 3) := by decide +kernel
theorem dX2_isMarkOrNone_19 : decode cX2_isMarkOrNone 19 = .ok (.iconst 0, 1) := by decide +kernel
theorem dX2_isMarkOrNone_20 : decode cX2_isMarkOrNone 20 = .ok (.ireturn, 1) := by decide +kernel
theorem dX2_areTwoMarkers_0 : decode cX2_areTwoMarkers 0 = .ok (.iload_n 0, 1) := by decide +kernel
theorem dX2_areTwoMarkers_1 : decode cX2_areTwoMarkers 1 = .ok (.iconst 3, 1) := by decide +kernel
theorem dX2_areTwoMarkers_2 : decode cX2_areTwoMarkers 2 = .ok (.invokestatic 49, 3) := by decide +kernel
theorem dX2_areTwoMarkers_5 : decode cX2_areTwoMarkers 5 = .ok (.ifCond .eq 20, 3) := by decide +kernel
theorem dX2_areTwoMarkers_8 : decode cX2_areTwoMarkers 8 = .ok (.iload_n 1, 1) := by decide +kernel
theorem dX2_areTwoMarkers_9 : decode cX2_areTwoMarkers 9 = .ok (.iconst 3, 1) := by decide +kernel
theorem dX2_areTwoMarkers_10 : decode cX2_areTwoMarkers 10 = .ok (.invokestatic 49, 3) := by decide +kernel
theorem dX2_areTwoMarkers_13 : decode cX2_areTwoMarkers 13 = .ok (.ifCond .eq 12, 3) := by decide +kernel
theorem dX2_areTwoMarkers_16 : decode cX2_areTwoMarkers 16 = .ok (.iload_n 0, 1) := by decide +kernel
theorem dX2_areTwoMarkers_17 : decode cX2_areTwoMarkers 17 = .ok (.iload_n 1, 1) := by decide +kernel
theorem dX2_areTwoMarkers_18 : decode cX2_areTwoMarkers 18 = .ok (.if_icmp .eq 7, 3) := by decide +kernel
theorem dX2_areTwoMarkers_21 : decode cX2_areTwoMarkers 21 = .ok (.iconst 1, 1) := by decide +kernel
theorem dX2_areTwoMarkers_22 : decode cX2_areTwoMarkers 22 = .ok (.goto 4, 3) := by decide +kernel
theorem dX2_areTwoMarkers_25 : decode cX2_areTwoMarkers 25 = .ok (.iconst 0, 1) := by decide +kernel
theorem dX2_areTwoMarkers_26 : decode cX2_areTwoMarkers 26 = .ok (.ireturn, 1) := by decide +kernel
theorem dX2_lineAt_0 : decode cX2_lineAt 0 = .ok (.iload_n 1, 1) := by decide +kernel
theorem dX2_lineAt_1 : decode cX2_lineAt 1 = .ok (.iconst 2, 1) := by decide +kernel
theorem dX2_lineAt_2 : decode cX2_lineAt 2 = .ok (.invokestatic 49, 3) := by decide +kernel
theorem dX2_lineAt_5 : decode cX2_lineAt 5 = .ok (.ifCond .eq 24, 3) := by decide +kernel
theorem dX2_lineAt_8 : decode cX2_lineAt 8 = .ok (.iload_n 2, 1) := by decide +kernel
theorem dX2_lineAt_9 : decode cX2_lineAt 9 = .ok (.iconst 4, 1) := by decide +kernel
theorem dX2_lineAt_10 : decode cX2_lineAt 10 = .ok (.invokestatic 49, 3) := by decide +kernel
theorem dX2_lineAt_13 : decode cX2_lineAt 13 = .ok (.ifCond .eq 16, 3) := by decide +kernel
theorem dX2_lineAt_16 : decode cX2_lineAt 16 = .ok (.aload_n 0, 1) := by decide +kernel
theorem dX2_lineAt_17 : decode cX2_lineAt 17 = .ok (.getfield 11, 3) := by decide +kernel
theorem dX2_lineAt_20 : decode cX2_lineAt 20 = .ok (.iload_n 1, 1) := by decide +kernel
theorem dX2_lineAt_21 : decode cX2_lineAt 21 = .ok (.iconst 4, 1) := by decide +kernel
theorem dX2_lineAt_22 : decode cX2_lineAt 22 = .ok (.imul, 1) := by decide +kernel
theorem dX2_lineAt_23 : decode cX2_lineAt 23 = .ok (.iload_n 2, 1) := by decide +kernel
theorem dX2_lineAt_24 : decode cX2_lineAt 24 = .ok (.iadd, 1) := by decide +kernel
theorem dX2_lineAt_25 : decode cX2_lineAt 25 = .ok (.aaload, 1) := by decide +kernel
theorem dX2_lineAt_26 : decode cX2_lineAt 26 = .ok (.goto 4, 3) := by decide +kernel
theorem dX2_lineAt_29 : decode cX2_lineAt 29 = .ok (.aconst_null, 1) := by decide +kernel
theorem dX2_lineAt_30 : decode cX2_lineAt 30 = .ok (.areturn, 1) := by decide +kernel
theorem dX2_workAt_0 : decode cX2_workAt 0 = .ok (.iload_n 1, 1) := by decide +kernel
theorem dX2_workAt_1 : decode cX2_workAt 1 = .ok (.aload_n 0, 1) := by decide +kernel
theorem dX2_workAt_2 : decode cX2_workAt 2 = .ok (.getfield 21, 3) := by decide +kernel
theorem dX2_workAt_5 : decode cX2_workAt 5 = .ok (.invokestatic 49, 3) := by decide +kernel
theorem dX2_workAt_8 : decode cX2_workAt 8 = .ok (.ifCond .eq 12, 3) := by decide +kernel
theorem dX2_workAt_11 : decode cX2_workAt 11 = .ok (.aload_n 0, 1) := by decide +kernel
theorem dX2_workAt_12 : decode cX2_workAt 12 = .ok (.getfield 17, 3) := by decide +kernel
theorem dX2_workAt_15 : decode cX2_workAt 15 = .ok (.iload_n 1, 1) := by decide +kernel
theorem dX2_workAt_16 : decode cX2_workAt 16 = .ok (.aaload, 1) := by decide +kernel
theorem dX2_workAt_17 : decode cX2_workAt 17 = .ok (.goto 4, 3) := by decide +kernel
theorem dX2_workAt_20 : decode cX2_workAt 20 = .ok (.aconst_null, 1) := by decide +kernel
theorem dX2_workAt_21 : decode cX2_workAt 21 = .ok (.areturn, 1) := by decide +kernel
theorem dX2_pointsBy_0 : decode cX2_pointsBy 0 = .ok (.iconst 0, 1) := by decide +kernel
theorem dX2_pointsBy_1 : decode cX2_pointsBy 1 = .ok (.istore_n 3, 1) := by decide +kernel
theorem dX2_pointsBy_2 : decode cX2_pointsBy 2 = .ok (.iconst 0, 1) := by decide +kernel
theorem dX2_pointsBy_3 : decode cX2_pointsBy 3 = .ok (.istore 4, 2) := by decide +kernel
theorem dX2_pointsBy_5 : decode cX2_pointsBy 5 = .ok (.iload 4, 2) := by decide +kernel
theorem dX2_pointsBy_7 : decode cX2_pointsBy 7 = .ok (.iconst 4, 1) := by decide +kernel
theorem dX2_pointsBy_8 : decode cX2_pointsBy 8 = .ok (.if_icmp .ge 58, 3) := by decide +kernel
theorem dX2_pointsBy_11 : decode cX2_pointsBy 11 = .ok (.aload_n 0, 1) := by decide +kernel
theorem dX2_pointsBy_12 : decode cX2_pointsBy 12 = .ok (.getfield 11, 3) := by decide +kernel
theorem dX2_pointsBy_15 : decode cX2_pointsBy 15 = .ok (.iload_n 1, 1) := by decide +kernel
theorem dX2_pointsBy_16 : decode cX2_pointsBy 16 = .ok (.iconst 4, 1) := by decide +kernel
theorem dX2_pointsBy_17 : decode cX2_pointsBy 17 = .ok (.imul, 1) := by decide +kernel
theorem dX2_pointsBy_18 : decode cX2_pointsBy 18 = .ok (.iload 4, 2) := by decide +kernel
theorem dX2_pointsBy_20 : decode cX2_pointsBy 20 = .ok (.iadd, 1) := by decide +kernel
theorem dX2_pointsBy_21 : decode cX2_pointsBy 21 = .ok (.aaload, 1) := by decide +kernel
theorem dX2_pointsBy_22 : decode cX2_pointsBy 22 = .ok (.astore 5, 2) := by decide +kernel
theorem dX2_pointsBy_24 : decode cX2_pointsBy 24 = .ok (.aload 5, 2) := by decide +kernel
theorem dX2_pointsBy_26 : decode cX2_pointsBy 26 = .ok (.aload_n 2, 1) := by decide +kernel
theorem dX2_pointsBy_27 : decode cX2_pointsBy 27 = .ok (.getfield 96, 3) := by decide +kernel
theorem dX2_pointsBy_30 : decode cX2_pointsBy 30 = .ok (.aload 5, 2) := by decide +kernel
theorem dX2_pointsBy_32 : decode cX2_pointsBy 32 = .ok (.getfield 59, 3) := by decide +kernel
theorem dX2_pointsBy_35 : decode cX2_pointsBy 35 = .ok (.iaload, 1) := by decide +kernel
theorem dX2_pointsBy_36 : decode cX2_pointsBy 36 = .ok (.invokevirtual 75, 3) := by decide +kernel
theorem dX2_pointsBy_39 : decode cX2_pointsBy 39 = .ok (.istore 6, 2) := by decide +kernel
theorem dX2_pointsBy_41 : decode cX2_pointsBy 41 = .ok (.iload 6, 2) := by decide +kernel
theorem dX2_pointsBy_43 : decode cX2_pointsBy 43 = .ok (.sipush (-900), 3) := by decide +kernel
theorem dX2_pointsBy_46 : decode cX2_pointsBy 46 = .ok (.if_icmp .eq 14, 3) := by decide +kernel
theorem dX2_pointsBy_49 : decode cX2_pointsBy 49 = .ok (.iload_n 3, 1) := by decide +kernel
theorem dX2_pointsBy_50 : decode cX2_pointsBy 50 = .ok (.aload 5, 2) := by decide +kernel
theorem dX2_pointsBy_52 : decode cX2_pointsBy 52 = .ok (.getfield 62, 3) := by decide +kernel
theorem dX2_pointsBy_55 : decode cX2_pointsBy 55 = .ok (.iload 6, 2) := by decide +kernel
theorem dX2_pointsBy_57 : decode cX2_pointsBy 57 = .ok (.imul, 1) := by decide +kernel
theorem dX2_pointsBy_58 : decode cX2_pointsBy 58 = .ok (.iadd, 1) := by decide +kernel
theorem dX2_pointsBy_59 : decode cX2_pointsBy 59 = .ok (.istore_n 3, 1) := by decide +kernel
theorem dX2_pointsBy_60 : decode cX2_pointsBy 60 = .ok (.iinc 4 1, 3) := by decide +kernel
theorem dX2_pointsBy_63 : decode cX2_pointsBy 63 = .ok (.goto (-58), 3) := by decide +kernel
theorem dX2_pointsBy_66 : decode cX2_pointsBy 66 = .ok (.iload_n 3, 1) := by decide +kernel
theorem dX2_pointsBy_67 : decode cX2_pointsBy 67 = .ok (.ireturn, 1) := by decide +kernel
theorem dX2_countSensible_0 : decode cX2_countSensible 0 = .ok (.iconst 0, 1) := by decide +kernel
theorem dX2_countSensible_1 : decode cX2_countSensible 1 = .ok (.istore_n 2, 1) := by decide +kernel
theorem dX2_countSensible_2 : decode cX2_countSensible 2 = .ok (.iconst 0, 1) := by decide +kernel
theorem dX2_countSensible_3 : decode cX2_countSensible 3 = .ok (.istore_n 3, 1) := by decide +kernel
theorem dX2_countSensible_4 : decode cX2_countSensible 4 = .ok (.iload_n 3, 1) := by decide +kernel
theorem dX2_countSensible_5 : decode cX2_countSensible 5 = .ok (.iconst 4, 1) := by decide +kernel
theorem dX2_countSensible_6 : decode cX2_countSensible 6 = .ok (.if_icmp .ge 28, 3) := by decide +kernel
theorem dX2_countSensible_9 : decode cX2_countSensible 9 = .ok (.aload_n 0, 1) := by decide +kernel
theorem dX2_countSensible_10 : decode cX2_countSensible 10 = .ok (.getfield 11, 3) := by decide +kernel
theorem dX2_countSensible_13 : decode cX2_countSensible 13 = .ok (.iload_n 1, 1) := by decide +kernel
theorem dX2_countSensible_14 : decode cX2_countSensible 14 = .ok (.iconst 4, 1) := by decide +kernel
theorem dX2_countSensible_15 : decode cX2_countSensible 15 = .ok (.imul, 1) := by decide +kernel
theorem dX2_countSensible_16 : decode cX2_countSensible 16 = .ok (.iload_n 3, 1) := by decide +kernel
theorem dX2_countSensible_17 : decode cX2_countSensible 17 = .ok (.iadd, 1) := by decide +kernel
theorem dX2_countSensible_18 : decode cX2_countSensible 18 = .ok (.aaload, 1) := by decide +kernel
theorem dX2_countSensible_19 : decode cX2_countSensible 19 = .ok (.invokevirtual 85, 3) := by decide +kernel
theorem dX2_countSensible_22 : decode cX2_countSensible 22 = .ok (.ifCond .eq 6, 3) := by decide +kernel
theorem dX2_countSensible_25 : decode cX2_countSensible 25 = .ok (.iinc 2 1, 3) := by decide +kernel
theorem dX2_countSensible_28 : decode cX2_countSensible 28 = .ok (.iinc 3 1, 3) := by decide +kernel
theorem dX2_countSensible_31 : decode cX2_countSensible 31 = .ok (.goto (-27), 3) := by decide +kernel
theorem dX2_countSensible_34 : decode cX2_countSensible 34 = .ok (.iload_n 2, 1) := by decide +kernel
theorem dX2_countSensible_35 : decode cX2_countSensible 35 = .ok (.ireturn, 1) := by decide +kernel
theorem dX2_countAnchors_0 : decode cX2_countAnchors 0 = .ok (.iconst 0, 1) := by decide +kernel
theorem dX2_countAnchors_1 : decode cX2_countAnchors 1 = .ok (.istore_n 1, 1) := by decide +kernel
theorem dX2_countAnchors_2 : decode cX2_countAnchors 2 = .ok (.iconst 0, 1) := by decide +kernel
theorem dX2_countAnchors_3 : decode cX2_countAnchors 3 = .ok (.istore_n 2, 1) := by decide +kernel
theorem dX2_countAnchors_4 : decode cX2_countAnchors 4 = .ok (.iload_n 2, 1) := by decide +kernel
theorem dX2_countAnchors_5 : decode cX2_countAnchors 5 = .ok (.aload_n 0, 1) := by decide +kernel
theorem dX2_countAnchors_6 : decode cX2_countAnchors 6 = .ok (.getfield 21, 3) := by decide +kernel
theorem dX2_countAnchors_9 : decode cX2_countAnchors 9 = .ok (.if_icmp .ge 24, 3) := by decide +kernel
theorem dX2_countAnchors_12 : decode cX2_countAnchors 12 = .ok (.aload_n 0, 1) := by decide +kernel
theorem dX2_countAnchors_13 : decode cX2_countAnchors 13 = .ok (.getfield 17, 3) := by decide +kernel
theorem dX2_countAnchors_16 : decode cX2_countAnchors 16 = .ok (.iload_n 2, 1) := by decide +kernel
theorem dX2_countAnchors_17 : decode cX2_countAnchors 17 = .ok (.aaload, 1) := by decide +kernel
theorem dX2_countAnchors_18 : decode cX2_countAnchors 18 = .ok (.invokevirtual 184, 3) := by decide +kernel
theorem dX2_countAnchors_21 : decode cX2_countAnchors 21 = .ok (.ifCond .eq 6, 3) := by decide +kernel
theorem dX2_countAnchors_24 : decode cX2_countAnchors 24 = .ok (.iinc 1 1, 3) := by decide +kernel
theorem dX2_countAnchors_27 : decode cX2_countAnchors 27 = .ok (.iinc 2 1, 3) := by decide +kernel
theorem dX2_countAnchors_30 : decode cX2_countAnchors 30 = .ok (.goto (-26), 3) := by decide +kernel
theorem dX2_countAnchors_33 : decode cX2_countAnchors 33 = .ok (.iload_n 1, 1) := by decide +kernel
theorem dX2_countAnchors_34 : decode cX2_countAnchors 34 = .ok (.ireturn, 1) := by decide +kernel
theorem dX2_countMarks_0 : decode cX2_countMarks 0 = .ok (.iconst 0, 1) := by decide +kernel
theorem dX2_countMarks_1 : decode cX2_countMarks 1 = .ok (.istore_n 1, 1) := by decide +kernel
theorem dX2_countMarks_2 : decode cX2_countMarks 2 = .ok (.iconst 0, 1) := by decide +kernel
theorem dX2_countMarks_3 : decode cX2_countMarks 3 = .ok (.istore_n 2, 1) := by decide +kernel
theorem dX2_countMarks_4 : decode cX2_countMarks 4 = .ok (.iload_n 2, 1) := by decide +kernel
theorem dX2_countMarks_5 : decode cX2_countMarks 5 = .ok (.aload_n 0, 1) := by decide +kernel
theorem dX2_countMarks_6 : decode cX2_countMarks 6 = .ok (.getfield 21, 3) := by decide +kernel
theorem dX2_countMarks_9 : decode cX2_countMarks 9 = .ok (.if_icmp .ge 38, 3) := by decide +kernel
theorem dX2_countMarks_12 : decode cX2_countMarks 12 = .ok (.iconst 0, 1) := by decide +kernel
theorem dX2_countMarks_13 : decode cX2_countMarks 13 = .ok (.istore_n 3, 1) := by decide +kernel
theorem dX2_countMarks_14 : decode cX2_countMarks 14 = .ok (.iload_n 3, 1) := by decide +kernel
theorem dX2_countMarks_15 : decode cX2_countMarks 15 = .ok (.iconst 3, 1) := by decide +kernel
theorem dX2_countMarks_16 : decode cX2_countMarks 16 = .ok (.if_icmp .ge 25, 3) := by decide +kernel
theorem dX2_countMarks_19 : decode cX2_countMarks 19 = .ok (.aload_n 0, 1) := by decide +kernel
theorem dX2_countMarks_20 : decode cX2_countMarks 20 = .ok (.getfield 17, 3) := by decide +kernel
theorem dX2_countMarks_23 : decode cX2_countMarks 23 = .ok (.iload_n 2, 1) := by decide +kernel
theorem dX2_countMarks_24 : decode cX2_countMarks 24 = .ok (.aaload, 1) := by decide +kernel
theorem dX2_countMarks_25 : decode cX2_countMarks 25 = .ok (.iload_n 3, 1) := by decide +kernel
theorem dX2_countMarks_26 : decode cX2_countMarks 26 = .ok (.invokevirtual 144, 3) := by decide +kernel
theorem dX2_countMarks_29 : decode cX2_countMarks 29 = .ok (.ifCond .eq 6, 3) := by decide +kernel
theorem dX2_countMarks_32 : decode cX2_countMarks 32 = .ok (.iinc 1 1, 3) := by decide +kernel
theorem dX2_countMarks_35 : decode cX2_countMarks 35 = .ok (.iinc 3 1, 3) := by decide +kernel
theorem dX2_countMarks_38 : decode cX2_countMarks 38 = .ok (.goto (-24), 3) := by decide +kernel
theorem dX2_countMarks_41 : decode cX2_countMarks 41 = .ok (.iinc 2 1, 3) := by decide +kernel
theorem dX2_countMarks_44 : decode cX2_countMarks 44 = .ok (.goto (-40), 3) := by decide +kernel
theorem dX2_countMarks_47 : decode cX2_countMarks 47 = .ok (.iload_n 1, 1) := by decide +kernel
theorem dX2_countMarks_48 : decode cX2_countMarks 48 = .ok (.ireturn, 1) := by decide +kernel
theorem dX2_countMoved_0 : decode cX2_countMoved 0 = .ok (.iconst 0, 1) := by decide +kernel
theorem dX2_countMoved_1 : decode cX2_countMoved 1 = .ok (.istore_n 1, 1) := by decide +kernel
theorem dX2_countMoved_2 : decode cX2_countMoved 2 = .ok (.iconst 0, 1) := by decide +kernel
theorem dX2_countMoved_3 : decode cX2_countMoved 3 = .ok (.istore_n 2, 1) := by decide +kernel
theorem dX2_countMoved_4 : decode cX2_countMoved 4 = .ok (.iload_n 2, 1) := by decide +kernel
theorem dX2_countMoved_5 : decode cX2_countMoved 5 = .ok (.aload_n 0, 1) := by decide +kernel
theorem dX2_countMoved_6 : decode cX2_countMoved 6 = .ok (.getfield 21, 3) := by decide +kernel
theorem dX2_countMoved_9 : decode cX2_countMoved 9 = .ok (.if_icmp .ge 27, 3) := by decide +kernel
theorem dX2_countMoved_12 : decode cX2_countMoved 12 = .ok (.aload_n 0, 1) := by decide +kernel
theorem dX2_countMoved_13 : decode cX2_countMoved 13 = .ok (.getfield 36, 3) := by decide +kernel
theorem dX2_countMoved_16 : decode cX2_countMoved 16 = .ok (.iload_n 2, 1) := by decide +kernel
theorem dX2_countMoved_17 : decode cX2_countMoved 17 = .ok (.iaload, 1) := by decide +kernel
theorem dX2_countMoved_18 : decode cX2_countMoved 18 = .ok (.aload_n 0, 1) := by decide +kernel
theorem dX2_countMoved_19 : decode cX2_countMoved 19 = .ok (.getfield 39, 3) := by decide +kernel
theorem dX2_countMoved_22 : decode cX2_countMoved 22 = .ok (.iload_n 2, 1) := by decide +kernel
theorem dX2_countMoved_23 : decode cX2_countMoved 23 = .ok (.iaload, 1) := by decide +kernel
theorem dX2_countMoved_24 : decode cX2_countMoved 24 = .ok (.if_icmp .eq 6, 3) := by decide +kernel
theorem dX2_countMoved_27 : decode cX2_countMoved 27 = .ok (.iinc 1 1, 3) := by decide +kernel
theorem dX2_countMoved_30 : decode cX2_countMoved 30 = .ok (.iinc 2 1, 3) := by decide +kernel
theorem dX2_countMoved_33 : decode cX2_countMoved 33 = .ok (.goto (-29), 3) := by decide +kernel
theorem dX2_countMoved_36 : decode cX2_countMoved 36 = .ok (.iload_n 1, 1) := by decide +kernel
theorem dX2_countMoved_37 : decode cX2_countMoved 37 = .ok (.ireturn, 1) := by decide +kernel
theorem dX2_countTurned_0 : decode cX2_countTurned 0 = .ok (.iconst 0, 1) := by decide +kernel
theorem dX2_countTurned_1 : decode cX2_countTurned 1 = .ok (.istore_n 1, 1) := by decide +kernel
theorem dX2_countTurned_2 : decode cX2_countTurned 2 = .ok (.iconst 0, 1) := by decide +kernel
theorem dX2_countTurned_3 : decode cX2_countTurned 3 = .ok (.istore_n 2, 1) := by decide +kernel
theorem dX2_countTurned_4 : decode cX2_countTurned 4 = .ok (.iload_n 2, 1) := by decide +kernel
theorem dX2_countTurned_5 : decode cX2_countTurned 5 = .ok (.aload_n 0, 1) := by decide +kernel
theorem dX2_countTurned_6 : decode cX2_countTurned 6 = .ok (.getfield 21, 3) := by decide +kernel
theorem dX2_countTurned_9 : decode cX2_countTurned 9 = .ok (.if_icmp .ge 58, 3) := by decide +kernel
theorem dX2_countTurned_12 : decode cX2_countTurned 12 = .ok (.iconst 0, 1) := by decide +kernel
theorem dX2_countTurned_13 : decode cX2_countTurned 13 = .ok (.istore_n 3, 1) := by decide +kernel
theorem dX2_countTurned_14 : decode cX2_countTurned 14 = .ok (.iload_n 3, 1) := by decide +kernel
theorem dX2_countTurned_15 : decode cX2_countTurned 15 = .ok (.aload_n 0, 1) := by decide +kernel
theorem dX2_countTurned_16 : decode cX2_countTurned 16 = .ok (.getfield 21, 3) := by decide +kernel
theorem dX2_countTurned_19 : decode cX2_countTurned 19 = .ok (.if_icmp .ge 42, 3) := by decide +kernel
theorem dX2_countTurned_22 : decode cX2_countTurned 22 = .ok (.aload_n 0, 1) := by decide +kernel
theorem dX2_countTurned_23 : decode cX2_countTurned 23 = .ok (.getfield 36, 3) := by decide +kernel
theorem dX2_countTurned_26 : decode cX2_countTurned 26 = .ok (.iload_n 2, 1) := by decide +kernel
theorem dX2_countTurned_27 : decode cX2_countTurned 27 = .ok (.iaload, 1) := by decide +kernel
theorem dX2_countTurned_28 : decode cX2_countTurned 28 = .ok (.aload_n 0, 1) := by decide +kernel
theorem dX2_countTurned_29 : decode cX2_countTurned 29 = .ok (.getfield 36, 3) := by decide +kernel
theorem dX2_countTurned_32 : decode cX2_countTurned 32 = .ok (.iload_n 3, 1) := by decide +kernel
theorem dX2_countTurned_33 : decode cX2_countTurned 33 = .ok (.iaload, 1) := by decide +kernel
theorem dX2_countTurned_34 : decode cX2_countTurned 34 = .ok (.if_icmp .le 21, 3) := by decide +kernel
theorem dX2_countTurned_37 : decode cX2_countTurned 37 = .ok (.aload_n 0, 1) := by decide +kernel
theorem dX2_countTurned_38 : decode cX2_countTurned 38 = .ok (.getfield 39, 3) := by decide +kernel
theorem dX2_countTurned_41 : decode cX2_countTurned 41 = .ok (.iload_n 2, 1) := by decide +kernel
theorem dX2_countTurned_42 : decode cX2_countTurned 42 = .ok (.iaload, 1) := by decide +kernel
theorem dX2_countTurned_43 : decode cX2_countTurned 43 = .ok (.aload_n 0, 1) := by decide +kernel
theorem dX2_countTurned_44 : decode cX2_countTurned 44 = .ok (.getfield 39, 3) := by decide +kernel
theorem dX2_countTurned_47 : decode cX2_countTurned 47 = .ok (.iload_n 3, 1) := by decide +kernel
theorem dX2_countTurned_48 : decode cX2_countTurned 48 = .ok (.iaload, 1) := by decide +kernel
theorem dX2_countTurned_49 : decode cX2_countTurned 49 = .ok (.if_icmp .ge 6, 3) := by decide +kernel
theorem dX2_countTurned_52 : decode cX2_countTurned 52 = .ok (.iinc 1 1, 3) := by decide +kernel
theorem dX2_countTurned_55 : decode cX2_countTurned 55 = .ok (.iinc 3 1, 3) := by decide +kernel
theorem dX2_countTurned_58 : decode cX2_countTurned 58 = .ok (.goto (-44), 3) := by decide +kernel
theorem dX2_countTurned_61 : decode cX2_countTurned 61 = .ok (.iinc 2 1, 3) := by decide +kernel
theorem dX2_countTurned_64 : decode cX2_countTurned 64 = .ok (.goto (-60), 3) := by decide +kernel
theorem dX2_countTurned_67 : decode cX2_countTurned 67 = .ok (.iload_n 1, 1) := by decide +kernel
theorem dX2_countTurned_68 : decode cX2_countTurned 68 = .ok (.ireturn, 1) := by decide +kernel
theorem dX2_countBothMarked_0 : decode cX2_countBothMarked 0 = .ok (.iconst 0, 1) := by decide +kernel
theorem dX2_countBothMarked_1 : decode cX2_countBothMarked 1 = .ok (.istore_n 3, 1) := by decide +kernel
theorem dX2_countBothMarked_2 : decode cX2_countBothMarked 2 = .ok (.iconst 0, 1) := by decide +kernel
theorem dX2_countBothMarked_3 : decode cX2_countBothMarked 3 = .ok (.istore 4, 2) := by decide +kernel
theorem dX2_countBothMarked_5 : decode cX2_countBothMarked 5 = .ok (.iload 4, 2) := by decide +kernel
theorem dX2_countBothMarked_7 : decode cX2_countBothMarked 7 = .ok (.aload_n 0, 1) := by decide +kernel
theorem dX2_countBothMarked_8 : decode cX2_countBothMarked 8 = .ok (.getfield 21, 3) := by decide +kernel
theorem dX2_countBothMarked_11 : decode cX2_countBothMarked 11 = .ok (.if_icmp .ge 27, 3) := by decide +kernel
theorem dX2_countBothMarked_14 : decode cX2_countBothMarked 14 = .ok (.aload_n 0, 1) := by decide +kernel
theorem dX2_countBothMarked_15 : decode cX2_countBothMarked 15 = .ok (.getfield 17, 3) := by decide +kernel
theorem dX2_countBothMarked_18 : decode cX2_countBothMarked 18 = .ok (.iload 4, 2) := by decide +kernel
theorem dX2_countBothMarked_20 : decode cX2_countBothMarked 20 = .ok (.aaload, 1) := by decide +kernel
theorem dX2_countBothMarked_21 : decode cX2_countBothMarked 21 = .ok (.iload_n 1, 1) := by decide +kernel
theorem dX2_countBothMarked_22 : decode cX2_countBothMarked 22 = .ok (.iload_n 2, 1) := by decide +kernel
theorem dX2_countBothMarked_23 : decode cX2_countBothMarked 23 = .ok (.invokevirtual 127, 3) := by decide +kernel
theorem dX2_countBothMarked_26 : decode cX2_countBothMarked 26 = .ok (.ifCond .eq 6, 3) := by decide +kernel
theorem dX2_countBothMarked_29 : decode cX2_countBothMarked 29 = .ok (.iinc 3 1, 3) := by decide +kernel
theorem dX2_countBothMarked_32 : decode cX2_countBothMarked 32 = .ok (.iinc 4 1, 3) := by decide +kernel
theorem dX2_countBothMarked_35 : decode cX2_countBothMarked 35 = .ok (.goto (-30), 3) := by decide +kernel
theorem dX2_countBothMarked_38 : decode cX2_countBothMarked 38 = .ok (.iload_n 3, 1) := by decide +kernel
theorem dX2_countBothMarked_39 : decode cX2_countBothMarked 39 = .ok (.ireturn, 1) := by decide +kernel
theorem dX2_countAlike_0 : decode cX2_countAlike 0 = .ok (.iconst 0, 1) := by decide +kernel
theorem dX2_countAlike_1 : decode cX2_countAlike 1 = .ok (.istore_n 3, 1) := by decide +kernel
theorem dX2_countAlike_2 : decode cX2_countAlike 2 = .ok (.iconst 0, 1) := by decide +kernel
theorem dX2_countAlike_3 : decode cX2_countAlike 3 = .ok (.istore 4, 2) := by decide +kernel
theorem dX2_countAlike_5 : decode cX2_countAlike 5 = .ok (.iload 4, 2) := by decide +kernel
theorem dX2_countAlike_7 : decode cX2_countAlike 7 = .ok (.aload_n 0, 1) := by decide +kernel
theorem dX2_countAlike_8 : decode cX2_countAlike 8 = .ok (.getfield 21, 3) := by decide +kernel
theorem dX2_countAlike_11 : decode cX2_countAlike 11 = .ok (.if_icmp .ge 54, 3) := by decide +kernel
theorem dX2_countAlike_14 : decode cX2_countAlike 14 = .ok (.aload_n 0, 1) := by decide +kernel
theorem dX2_countAlike_15 : decode cX2_countAlike 15 = .ok (.getfield 17, 3) := by decide +kernel
theorem dX2_countAlike_18 : decode cX2_countAlike 18 = .ok (.iload 4, 2) := by decide +kernel
theorem dX2_countAlike_20 : decode cX2_countAlike 20 = .ok (.aaload, 1) := by decide +kernel
theorem dX2_countAlike_21 : decode cX2_countAlike 21 = .ok (.iload_n 1, 1) := by decide +kernel
theorem dX2_countAlike_22 : decode cX2_countAlike 22 = .ok (.iload_n 2, 1) := by decide +kernel
theorem dX2_countAlike_23 : decode cX2_countAlike 23 = .ok (.invokevirtual 127, 3) := by decide +kernel
theorem dX2_countAlike_26 : decode cX2_countAlike 26 = .ok (.ifCond .eq 33, 3) := by decide +kernel
theorem dX2_countAlike_29 : decode cX2_countAlike 29 = .ok (.aload_n 0, 1) := by decide +kernel
theorem dX2_countAlike_30 : decode cX2_countAlike 30 = .ok (.getfield 17, 3) := by decide +kernel
theorem dX2_countAlike_33 : decode cX2_countAlike 33 = .ok (.iload 4, 2) := by decide +kernel
theorem dX2_countAlike_35 : decode cX2_countAlike 35 = .ok (.aaload, 1) := by decide +kernel
theorem dX2_countAlike_36 : decode cX2_countAlike 36 = .ok (.getfield 107, 3) := by decide +kernel
theorem dX2_countAlike_39 : decode cX2_countAlike 39 = .ok (.iload_n 1, 1) := by decide +kernel
theorem dX2_countAlike_40 : decode cX2_countAlike 40 = .ok (.iaload, 1) := by decide +kernel
theorem dX2_countAlike_41 : decode cX2_countAlike 41 = .ok (.aload_n 0, 1) := by decide +kernel
theorem dX2_countAlike_42 : decode cX2_countAlike 42 = .ok (.getfield 17, 3) := by decide +kernel
theorem dX2_countAlike_45 : decode cX2_countAlike 45 = .ok (.iload 4, 2) := by decide +kernel
theorem dX2_countAlike_47 : decode cX2_countAlike 47 = .ok (.aaload, 1) := by decide +kernel
theorem dX2_countAlike_48 : decode cX2_countAlike 48 = .ok (.getfield 107, 3) := by decide +kernel
theorem dX2_countAlike_51 : decode cX2_countAlike 51 = .ok (.iload_n 2, 1) := by decide +kernel
theorem dX2_countAlike_52 : decode cX2_countAlike 52 = .ok (.iaload, 1) := by decide +kernel
theorem dX2_countAlike_53 : decode cX2_countAlike 53 = .ok (.if_icmp .ne 6, 3) := by decide +kernel
theorem dX2_countAlike_56 : decode cX2_countAlike 56 = .ok (.iinc 3 1, 3) := by decide +kernel
theorem dX2_countAlike_59 : decode cX2_countAlike 59 = .ok (.iinc 4 1, 3) := by decide +kernel
theorem dX2_countAlike_62 : decode cX2_countAlike 62 = .ok (.goto (-57), 3) := by decide +kernel
theorem dX2_countAlike_65 : decode cX2_countAlike 65 = .ok (.iload_n 3, 1) := by decide +kernel
theorem dX2_countAlike_66 : decode cX2_countAlike 66 = .ok (.ireturn, 1) := by decide +kernel
theorem dX2_chanceOfAlike_0 : decode cX2_chanceOfAlike 0 = .ok (.iconst 0, 1) := by decide +kernel
theorem dX2_chanceOfAlike_1 : decode cX2_chanceOfAlike 1 = .ok (.istore_n 3, 1) := by decide +kernel
theorem dX2_chanceOfAlike_2 : decode cX2_chanceOfAlike 2 = .ok (.iconst 0, 1) := by decide +kernel
theorem dX2_chanceOfAlike_3 : decode cX2_chanceOfAlike 3 = .ok (.istore 4, 2) := by decide +kernel
theorem dX2_chanceOfAlike_5 : decode cX2_chanceOfAlike 5 = .ok (.iload 4, 2) := by decide +kernel
theorem dX2_chanceOfAlike_7 : decode cX2_chanceOfAlike 7 = .ok (.iconst 4, 1) := by decide +kernel
theorem dX2_chanceOfAlike_8 : decode cX2_chanceOfAlike 8 = .ok (.if_icmp .ge 29, 3) := by decide +kernel
theorem dX2_chanceOfAlike_11 : decode cX2_chanceOfAlike 11 = .ok (.iload_n 3, 1) := by decide +kernel
theorem dX2_chanceOfAlike_12 : decode cX2_chanceOfAlike 12 = .ok (.aload_n 0, 1) := by decide +kernel
theorem dX2_chanceOfAlike_13 : decode cX2_chanceOfAlike 13 = .ok (.iload_n 1, 1) := by decide +kernel
theorem dX2_chanceOfAlike_14 : decode cX2_chanceOfAlike 14 = .ok (.iload_n 2, 1) := by decide +kernel
theorem dX2_chanceOfAlike_15 : decode cX2_chanceOfAlike 15 = .ok (.iload 4, 2) := by decide +kernel
theorem dX2_chanceOfAlike_17 : decode cX2_chanceOfAlike 17 = .ok (.invokevirtual 187, 3) := by decide +kernel
theorem dX2_chanceOfAlike_20 : decode cX2_chanceOfAlike 20 = .ok (.aload_n 0, 1) := by decide +kernel
theorem dX2_chanceOfAlike_21 : decode cX2_chanceOfAlike 21 = .ok (.iload_n 2, 1) := by decide +kernel
theorem dX2_chanceOfAlike_22 : decode cX2_chanceOfAlike 22 = .ok (.iload_n 1, 1) := by decide +kernel
theorem dX2_chanceOfAlike_23 : decode cX2_chanceOfAlike 23 = .ok (.iload 4, 2) := by decide +kernel
theorem dX2_chanceOfAlike_25 : decode cX2_chanceOfAlike 25 = .ok (.invokevirtual 187, 3) := by decide +kernel
theorem dX2_chanceOfAlike_28 : decode cX2_chanceOfAlike 28 = .ok (.imul, 1) := by decide +kernel
theorem dX2_chanceOfAlike_29 : decode cX2_chanceOfAlike 29 = .ok (.iadd, 1) := by decide +kernel
theorem dX2_chanceOfAlike_30 : decode cX2_chanceOfAlike 30 = .ok (.istore_n 3, 1) := by decide +kernel
theorem dX2_chanceOfAlike_31 : decode cX2_chanceOfAlike 31 = .ok (.iinc 4 1, 3) := by decide +kernel
theorem dX2_chanceOfAlike_34 : decode cX2_chanceOfAlike 34 = .ok (.goto (-29), 3) := by decide +kernel
theorem dX2_chanceOfAlike_37 : decode cX2_chanceOfAlike 37 = .ok (.iload_n 3, 1) := by decide +kernel
theorem dX2_chanceOfAlike_38 : decode cX2_chanceOfAlike 38 = .ok (.ireturn, 1) := by decide +kernel
theorem dX2_countGave_0 : decode cX2_countGave 0 = .ok (.iconst 0, 1) := by decide +kernel
theorem dX2_countGave_1 : decode cX2_countGave 1 = .ok (.istore 4, 2) := by decide +kernel
theorem dX2_countGave_3 : decode cX2_countGave 3 = .ok (.iconst 0, 1) := by decide +kernel
theorem dX2_countGave_4 : decode cX2_countGave 4 = .ok (.istore 5, 2) := by decide +kernel
theorem dX2_countGave_6 : decode cX2_countGave 6 = .ok (.iload 5, 2) := by decide +kernel
theorem dX2_countGave_8 : decode cX2_countGave 8 = .ok (.aload_n 0, 1) := by decide +kernel
theorem dX2_countGave_9 : decode cX2_countGave 9 = .ok (.getfield 21, 3) := by decide +kernel
theorem dX2_countGave_12 : decode cX2_countGave 12 = .ok (.if_icmp .ge 43, 3) := by decide +kernel
theorem dX2_countGave_15 : decode cX2_countGave 15 = .ok (.aload_n 0, 1) := by decide +kernel
theorem dX2_countGave_16 : decode cX2_countGave 16 = .ok (.getfield 17, 3) := by decide +kernel
theorem dX2_countGave_19 : decode cX2_countGave 19 = .ok (.iload 5, 2) := by decide +kernel
theorem dX2_countGave_21 : decode cX2_countGave 21 = .ok (.aaload, 1) := by decide +kernel
theorem dX2_countGave_22 : decode cX2_countGave 22 = .ok (.iload_n 1, 1) := by decide +kernel
theorem dX2_countGave_23 : decode cX2_countGave 23 = .ok (.iload_n 2, 1) := by decide +kernel
theorem dX2_countGave_24 : decode cX2_countGave 24 = .ok (.invokevirtual 127, 3) := by decide +kernel
theorem dX2_countGave_27 : decode cX2_countGave 27 = .ok (.ifCond .eq 22, 3) := by decide +kernel
theorem dX2_countGave_30 : decode cX2_countGave 30 = .ok (.aload_n 0, 1) := by decide +kernel
theorem dX2_countGave_31 : decode cX2_countGave 31 = .ok (.getfield 17, 3) := by decide +kernel
theorem dX2_countGave_34 : decode cX2_countGave 34 = .ok (.iload 5, 2) := by decide +kernel
theorem dX2_countGave_36 : decode cX2_countGave 36 = .ok (.aaload, 1) := by decide +kernel
theorem dX2_countGave_37 : decode cX2_countGave 37 = .ok (.getfield 107, 3) := by decide +kernel
theorem dX2_countGave_40 : decode cX2_countGave 40 = .ok (.iload_n 1, 1) := by decide +kernel
theorem dX2_countGave_41 : decode cX2_countGave 41 = .ok (.iaload, 1) := by decide +kernel
theorem dX2_countGave_42 : decode cX2_countGave 42 = .ok (.iload_n 3, 1) := by decide +kernel
theorem dX2_countGave_43 : decode cX2_countGave 43 = .ok (.if_icmp .ne 6, 3) := by decide +kernel
theorem dX2_countGave_46 : decode cX2_countGave 46 = .ok (.iinc 4 1, 3) := by decide +kernel
theorem dX2_countGave_49 : decode cX2_countGave 49 = .ok (.iinc 5 1, 3) := by decide +kernel
theorem dX2_countGave_52 : decode cX2_countGave 52 = .ok (.goto (-46), 3) := by decide +kernel
theorem dX2_countGave_55 : decode cX2_countGave 55 = .ok (.iload 4, 2) := by decide +kernel
theorem dX2_countGave_57 : decode cX2_countGave 57 = .ok (.ireturn, 1) := by decide +kernel
theorem dX2_countMarkedAnchors_0 : decode cX2_countMarkedAnchors 0 = .ok (.iconst 0, 1) := by decide +kernel
theorem dX2_countMarkedAnchors_1 : decode cX2_countMarkedAnchors 1 = .ok (.istore_n 2, 1) := by decide +kernel
theorem dX2_countMarkedAnchors_2 : decode cX2_countMarkedAnchors 2 = .ok (.iconst 0, 1) := by decide +kernel
theorem dX2_countMarkedAnchors_3 : decode cX2_countMarkedAnchors 3 = .ok (.istore_n 3, 1) := by decide +kernel
theorem dX2_countMarkedAnchors_4 : decode cX2_countMarkedAnchors 4 = .ok (.iload_n 3, 1) := by decide +kernel
theorem dX2_countMarkedAnchors_5 : decode cX2_countMarkedAnchors 5 = .ok (.aload_n 0, 1) := by decide +kernel
theorem dX2_countMarkedAnchors_6 : decode cX2_countMarkedAnchors 6 = .ok (.getfield 21, 3) := by decide +kernel
theorem dX2_countMarkedAnchors_9 : decode cX2_countMarkedAnchors 9 = .ok (.if_icmp .ge 37, 3) := by decide +kernel
theorem dX2_countMarkedAnchors_12 : decode cX2_countMarkedAnchors 12 = .ok (.aload_n 0, 1) := by decide +kernel
theorem dX2_countMarkedAnchors_13 : decode cX2_countMarkedAnchors 13 = .ok (.getfield 17, 3) := by decide +kernel
theorem dX2_countMarkedAnchors_16 : decode cX2_countMarkedAnchors 16 = .ok (.iload_n 3, 1) := by decide +kernel
theorem dX2_countMarkedAnchors_17 : decode cX2_countMarkedAnchors 17 = .ok (.aaload, 1) := by decide +kernel
theorem dX2_countMarkedAnchors_18 : decode cX2_countMarkedAnchors 18 = .ok (.invokevirtual 184, 3) := by decide +kernel
theorem dX2_countMarkedAnchors_21 : decode cX2_countMarkedAnchors 21 = .ok (.ifCond .eq 19, 3) := by decide +kernel
theorem dX2_countMarkedAnchors_24 : decode cX2_countMarkedAnchors 24 = .ok (.aload_n 0, 1) := by decide +kernel
theorem dX2_countMarkedAnchors_25 : decode cX2_countMarkedAnchors 25 = .ok (.getfield 17, 3) := by decide +kernel
theorem dX2_countMarkedAnchors_28 : decode cX2_countMarkedAnchors 28 = .ok (.iload_n 3, 1) := by decide +kernel
theorem dX2_countMarkedAnchors_29 : decode cX2_countMarkedAnchors 29 = .ok (.aaload, 1) := by decide +kernel
theorem dX2_countMarkedAnchors_30 : decode cX2_countMarkedAnchors 30 = .ok (.iload_n 1, 1) := by decide +kernel
theorem dX2_countMarkedAnchors_31 : decode cX2_countMarkedAnchors 31 = .ok (.invokevirtual 144, 3) := by decide +kernel
theorem dX2_countMarkedAnchors_34 : decode cX2_countMarkedAnchors 34 = .ok (.ifCond .eq 6, 3) := by decide +kernel
theorem dX2_countMarkedAnchors_37 : decode cX2_countMarkedAnchors 37 = .ok (.iinc 2 1, 3) := by decide +kernel
theorem dX2_countMarkedAnchors_40 : decode cX2_countMarkedAnchors 40 = .ok (.iinc 3 1, 3) := by decide +kernel
theorem dX2_countMarkedAnchors_43 : decode cX2_countMarkedAnchors 43 = .ok (.goto (-39), 3) := by decide +kernel
theorem dX2_countMarkedAnchors_46 : decode cX2_countMarkedAnchors 46 = .ok (.iload_n 2, 1) := by decide +kernel
theorem dX2_countMarkedAnchors_47 : decode cX2_countMarkedAnchors 47 = .ok (.ireturn, 1) := by decide +kernel
theorem dX2_sumOffAnchors_0 : decode cX2_sumOffAnchors 0 = .ok (.iconst 0, 1) := by decide +kernel
theorem dX2_sumOffAnchors_1 : decode cX2_sumOffAnchors 1 = .ok (.istore_n 2, 1) := by decide +kernel
theorem dX2_sumOffAnchors_2 : decode cX2_sumOffAnchors 2 = .ok (.iconst 0, 1) := by decide +kernel
theorem dX2_sumOffAnchors_3 : decode cX2_sumOffAnchors 3 = .ok (.istore_n 3, 1) := by decide +kernel
theorem dX2_sumOffAnchors_4 : decode cX2_sumOffAnchors 4 = .ok (.iload_n 3, 1) := by decide +kernel
theorem dX2_sumOffAnchors_5 : decode cX2_sumOffAnchors 5 = .ok (.aload_n 0, 1) := by decide +kernel
theorem dX2_sumOffAnchors_6 : decode cX2_sumOffAnchors 6 = .ok (.getfield 21, 3) := by decide +kernel
theorem dX2_sumOffAnchors_9 : decode cX2_sumOffAnchors 9 = .ok (.if_icmp .ge 58, 3) := by decide +kernel
theorem dX2_sumOffAnchors_12 : decode cX2_sumOffAnchors 12 = .ok (.aload_n 0, 1) := by decide +kernel
theorem dX2_sumOffAnchors_13 : decode cX2_sumOffAnchors 13 = .ok (.getfield 17, 3) := by decide +kernel
theorem dX2_sumOffAnchors_16 : decode cX2_sumOffAnchors 16 = .ok (.iload_n 3, 1) := by decide +kernel
theorem dX2_sumOffAnchors_17 : decode cX2_sumOffAnchors 17 = .ok (.aaload, 1) := by decide +kernel
theorem dX2_sumOffAnchors_18 : decode cX2_sumOffAnchors 18 = .ok (.invokevirtual 184, 3) := by decide +kernel
theorem dX2_sumOffAnchors_21 : decode cX2_sumOffAnchors 21 = .ok (.ifCond .eq 40, 3) := by decide +kernel
theorem dX2_sumOffAnchors_24 : decode cX2_sumOffAnchors 24 = .ok (.aload_n 0, 1) := by decide +kernel
theorem dX2_sumOffAnchors_25 : decode cX2_sumOffAnchors 25 = .ok (.getfield 17, 3) := by decide +kernel
theorem dX2_sumOffAnchors_28 : decode cX2_sumOffAnchors 28 = .ok (.iload_n 3, 1) := by decide +kernel
theorem dX2_sumOffAnchors_29 : decode cX2_sumOffAnchors 29 = .ok (.aaload, 1) := by decide +kernel
theorem dX2_sumOffAnchors_30 : decode cX2_sumOffAnchors 30 = .ok (.iload_n 1, 1) := by decide +kernel
theorem dX2_sumOffAnchors_31 : decode cX2_sumOffAnchors 31 = .ok (.invokevirtual 144, 3) := by decide +kernel
theorem dX2_sumOffAnchors_34 : decode cX2_sumOffAnchors 34 = .ok (.ifCond .eq 27, 3) := by decide +kernel
theorem dX2_sumOffAnchors_37 : decode cX2_sumOffAnchors 37 = .ok (.iload_n 2, 1) := by decide +kernel
theorem dX2_sumOffAnchors_38 : decode cX2_sumOffAnchors 38 = .ok (.aload_n 0, 1) := by decide +kernel
theorem dX2_sumOffAnchors_39 : decode cX2_sumOffAnchors 39 = .ok (.getfield 17, 3) := by decide +kernel
theorem dX2_sumOffAnchors_42 : decode cX2_sumOffAnchors 42 = .ok (.iload_n 3, 1) := by decide +kernel
theorem dX2_sumOffAnchors_43 : decode cX2_sumOffAnchors 43 = .ok (.aaload, 1) := by decide +kernel
theorem dX2_sumOffAnchors_44 : decode cX2_sumOffAnchors 44 = .ok (.getfield 107, 3) := by decide +kernel
theorem dX2_sumOffAnchors_47 : decode cX2_sumOffAnchors 47 = .ok (.iload_n 1, 1) := by decide +kernel
theorem dX2_sumOffAnchors_48 : decode cX2_sumOffAnchors 48 = .ok (.iaload, 1) := by decide +kernel
theorem dX2_sumOffAnchors_49 : decode cX2_sumOffAnchors 49 = .ok (.aload_n 0, 1) := by decide +kernel
theorem dX2_sumOffAnchors_50 : decode cX2_sumOffAnchors 50 = .ok (.getfield 17, 3) := by decide +kernel
theorem dX2_sumOffAnchors_53 : decode cX2_sumOffAnchors 53 = .ok (.iload_n 3, 1) := by decide +kernel
theorem dX2_sumOffAnchors_54 : decode cX2_sumOffAnchors 54 = .ok (.aaload, 1) := by decide +kernel
theorem dX2_sumOffAnchors_55 : decode cX2_sumOffAnchors 55 = .ok (.getfield 135, 3) := by decide +kernel
theorem dX2_sumOffAnchors_58 : decode cX2_sumOffAnchors 58 = .ok (.isub, 1) := by decide +kernel
theorem dX2_sumOffAnchors_59 : decode cX2_sumOffAnchors 59 = .ok (.iadd, 1) := by decide +kernel
theorem dX2_sumOffAnchors_60 : decode cX2_sumOffAnchors 60 = .ok (.istore_n 2, 1) := by decide +kernel
theorem dX2_sumOffAnchors_61 : decode cX2_sumOffAnchors 61 = .ok (.iinc 3 1, 3) := by decide +kernel
theorem dX2_sumOffAnchors_64 : decode cX2_sumOffAnchors 64 = .ok (.goto (-60), 3) := by decide +kernel
theorem dX2_sumOffAnchors_67 : decode cX2_sumOffAnchors 67 = .ok (.iload_n 2, 1) := by decide +kernel
theorem dX2_sumOffAnchors_68 : decode cX2_sumOffAnchors 68 = .ok (.ireturn, 1) := by decide +kernel
theorem dX2_partOfRatio_0 : decode cX2_partOfRatio 0 = .ok (.iload_n 1, 1) := by decide +kernel
theorem dX2_partOfRatio_1 : decode cX2_partOfRatio 1 = .ok (.ifCond .gt 7, 3) := by decide +kernel
theorem dX2_partOfRatio_4 : decode cX2_partOfRatio 4 = .ok (.sipush (-200), 3) := by decide +kernel
theorem dX2_partOfRatio_7 : decode cX2_partOfRatio 7 = .ok (.ireturn, 1) := by decide +kernel
theorem dX2_partOfRatio_8 : decode cX2_partOfRatio 8 = .ok (.iload_n 1, 1) := by decide +kernel
theorem dX2_partOfRatio_9 : decode cX2_partOfRatio 9 = .ok (.istore_n 3, 1) := by decide +kernel
theorem dX2_partOfRatio_10 : decode cX2_partOfRatio 10 = .ok (.iload_n 3, 1) := by decide +kernel
theorem dX2_partOfRatio_11 : decode cX2_partOfRatio 11 = .ok (.iconst 1, 1) := by decide +kernel
theorem dX2_partOfRatio_12 : decode cX2_partOfRatio 12 = .ok (.if_icmp .le 21, 3) := by decide +kernel
theorem dX2_partOfRatio_15 : decode cX2_partOfRatio 15 = .ok (.iload_n 0, 1) := by decide +kernel
theorem dX2_partOfRatio_16 : decode cX2_partOfRatio 16 = .ok (.iload_n 3, 1) := by decide +kernel
theorem dX2_partOfRatio_17 : decode cX2_partOfRatio 17 = .ok (.irem, 1) := by decide +kernel
theorem dX2_partOfRatio_18 : decode cX2_partOfRatio 18 = .ok (.ifCond .ne 9, 3) := by decide +kernel
theorem dX2_partOfRatio_21 : decode cX2_partOfRatio 21 = .ok (.iload_n 1, 1) := by decide +kernel
theorem dX2_partOfRatio_22 : decode cX2_partOfRatio 22 = .ok (.iload_n 3, 1) := by decide +kernel
theorem dX2_partOfRatio_23 : decode cX2_partOfRatio 23 = .ok (.irem, 1) := by decide +kernel
theorem dX2_partOfRatio_24 : decode cX2_partOfRatio 24 = .ok (.ifCond .eq 9, 3) := by decide +kernel
theorem dX2_partOfRatio_27 : decode cX2_partOfRatio 27 = .ok (.iinc 3 (-1), 3) := by decide +kernel
theorem dX2_partOfRatio_30 : decode cX2_partOfRatio 30 = .ok (.goto (-20), 3) := by decide +kernel
theorem dX2_partOfRatio_33 : decode cX2_partOfRatio 33 = .ok (.iload_n 2, 1) := by decide +kernel
theorem dX2_partOfRatio_34 : decode cX2_partOfRatio 34 = .ok (.ifCond .ne 7, 3) := by decide +kernel
theorem dX2_partOfRatio_37 : decode cX2_partOfRatio 37 = .ok (.iload_n 0, 1) := by decide +kernel
theorem dX2_partOfRatio_38 : decode cX2_partOfRatio 38 = .ok (.goto 4, 3) := by decide +kernel
theorem dX2_partOfRatio_41 : decode cX2_partOfRatio 41 = .ok (.iload_n 1, 1) := by decide +kernel
theorem dX2_partOfRatio_42 : decode cX2_partOfRatio 42 = .ok (.iload_n 3, 1) := by decide +kernel
theorem dX2_partOfRatio_43 : decode cX2_partOfRatio 43 = .ok (.idiv, 1) := by decide +kernel
theorem dX2_partOfRatio_44 : decode cX2_partOfRatio 44 = .ok (.ireturn, 1) := by decide +kernel
theorem dX2_gatherPile_0 : decode cX2_gatherPile 0 = .ok (.iconst 0, 1) := by decide +kernel
theorem dX2_gatherPile_1 : decode cX2_gatherPile 1 = .ok (.istore_n 2, 1) := by decide +kernel
theorem dX2_gatherPile_2 : decode cX2_gatherPile 2 = .ok (.iconst 0, 1) := by decide +kernel
theorem dX2_gatherPile_3 : decode cX2_gatherPile 3 = .ok (.istore_n 3, 1) := by decide +kernel
theorem dX2_gatherPile_4 : decode cX2_gatherPile 4 = .ok (.iload_n 3, 1) := by decide +kernel
theorem dX2_gatherPile_5 : decode cX2_gatherPile 5 = .ok (.aload_n 0, 1) := by decide +kernel
theorem dX2_gatherPile_6 : decode cX2_gatherPile 6 = .ok (.getfield 21, 3) := by decide +kernel
theorem dX2_gatherPile_9 : decode cX2_gatherPile 9 = .ok (.if_icmp .ge 48, 3) := by decide +kernel
theorem dX2_gatherPile_12 : decode cX2_gatherPile 12 = .ok (.iload_n 2, 1) := by decide +kernel
theorem dX2_gatherPile_13 : decode cX2_gatherPile 13 = .ok (.bipush 6, 2) := by decide +kernel
theorem dX2_gatherPile_15 : decode cX2_gatherPile 15 = .ok (.if_icmp .ge 42, 3) := by decide +kernel
theorem dX2_gatherPile_18 : decode cX2_gatherPile 18 = .ok (.aload_n 0, 1) := by decide +kernel
theorem dX2_gatherPile_19 : decode cX2_gatherPile 19 = .ok (.getfield 17, 3) := by decide +kernel
theorem dX2_gatherPile_22 : decode cX2_gatherPile 22 = .ok (.iload_n 3, 1) := by decide +kernel
theorem dX2_gatherPile_23 : decode cX2_gatherPile 23 = .ok (.aaload, 1) := by decide +kernel
theorem dX2_gatherPile_24 : decode cX2_gatherPile 24 = .ok (.iload_n 1, 1) := by decide +kernel
theorem dX2_gatherPile_25 : decode cX2_gatherPile 25 = .ok (.invokevirtual 144, 3) := by decide +kernel
theorem dX2_gatherPile_28 : decode cX2_gatherPile 28 = .ok (.ifCond .eq 23, 3) := by decide +kernel
theorem dX2_gatherPile_31 : decode cX2_gatherPile 31 = .ok (.aload_n 0, 1) := by decide +kernel
theorem dX2_gatherPile_32 : decode cX2_gatherPile 32 = .ok (.getfield 29, 3) := by decide +kernel
theorem dX2_gatherPile_35 : decode cX2_gatherPile 35 = .ok (.iload_n 2, 1) := by decide +kernel
theorem dX2_gatherPile_36 : decode cX2_gatherPile 36 = .ok (.aload_n 0, 1) := by decide +kernel
theorem dX2_gatherPile_37 : decode cX2_gatherPile 37 = .ok (.getfield 17, 3) := by decide +kernel
theorem dX2_gatherPile_40 : decode cX2_gatherPile 40 = .ok (.iload_n 3, 1) := by decide +kernel
theorem dX2_gatherPile_41 : decode cX2_gatherPile 41 = .ok (.aaload, 1) := by decide +kernel
theorem dX2_gatherPile_42 : decode cX2_gatherPile 42 = .ok (.getfield 107, 3) := by decide +kernel
theorem dX2_gatherPile_45 : decode cX2_gatherPile 45 = .ok (.iload_n 1, 1) := by decide +kernel
theorem dX2_gatherPile_46 : decode cX2_gatherPile 46 = .ok (.iaload, 1) := by decide +kernel
theorem dX2_gatherPile_47 : decode cX2_gatherPile 47 = .ok (.iastore, 1) := by decide +kernel
theorem dX2_gatherPile_48 : decode cX2_gatherPile 48 = .ok (.iinc 2 1, 3) := by decide +kernel
theorem dX2_gatherPile_51 : decode cX2_gatherPile 51 = .ok (.iinc 3 1, 3) := by decide +kernel
theorem dX2_gatherPile_54 : decode cX2_gatherPile 54 = .ok (.goto (-50), 3) := by decide +kernel
theorem dX2_gatherPile_57 : decode cX2_gatherPile 57 = .ok (.iload_n 2, 1) := by decide +kernel
theorem dX2_gatherPile_58 : decode cX2_gatherPile 58 = .ok (.ireturn, 1) := by decide +kernel
theorem dX2_driftOfPile_0 : decode cX2_driftOfPile 0 = .ok (.iconst 0, 1) := by decide +kernel
theorem dX2_driftOfPile_1 : decode cX2_driftOfPile 1 = .ok (.istore_n 2, 1) := by decide +kernel
theorem dX2_driftOfPile_2 : decode cX2_driftOfPile 2 = .ok (.iconst 1, 1) := by decide +kernel
theorem dX2_driftOfPile_3 : decode cX2_driftOfPile 3 = .ok (.istore_n 3, 1) := by decide +kernel
theorem dX2_driftOfPile_4 : decode cX2_driftOfPile 4 = .ok (.iload_n 3, 1) := by decide +kernel
theorem dX2_driftOfPile_5 : decode cX2_driftOfPile 5 = .ok (.iload_n 1, 1) := by decide +kernel
theorem dX2_driftOfPile_6 : decode cX2_driftOfPile 6 = .ok (.if_icmp .ge 43, 3) := by decide +kernel
theorem dX2_driftOfPile_9 : decode cX2_driftOfPile 9 = .ok (.iconst 0, 1) := by decide +kernel
theorem dX2_driftOfPile_10 : decode cX2_driftOfPile 10 = .ok (.istore 4, 2) := by decide +kernel
theorem dX2_driftOfPile_12 : decode cX2_driftOfPile 12 = .ok (.iload 4, 2) := by decide +kernel
theorem dX2_driftOfPile_14 : decode cX2_driftOfPile 14 = .ok (.iload_n 3, 1) := by decide +kernel
theorem dX2_driftOfPile_15 : decode cX2_driftOfPile 15 = .ok (.if_icmp .ge 28, 3) := by decide +kernel
theorem dX2_driftOfPile_18 : decode cX2_driftOfPile 18 = .ok (.iload_n 2, 1) := by decide +kernel
theorem dX2_driftOfPile_19 : decode cX2_driftOfPile 19 = .ok (.aload_n 0, 1) := by decide +kernel
theorem dX2_driftOfPile_20 : decode cX2_driftOfPile 20 = .ok (.getfield 29, 3) := by decide +kernel
theorem dX2_driftOfPile_23 : decode cX2_driftOfPile 23 = .ok (.iload_n 3, 1) := by decide +kernel
theorem dX2_driftOfPile_24 : decode cX2_driftOfPile 24 = .ok (.iaload, 1) := by decide +kernel
theorem dX2_driftOfPile_25 : decode cX2_driftOfPile 25 = .ok (.aload_n 0, 1) := by decide +kernel
theorem dX2_driftOfPile_26 : decode cX2_driftOfPile 26 = .ok (.getfield 29, 3) := by decide +kernel
theorem dX2_driftOfPile_29 : decode cX2_driftOfPile 29 = .ok (.iload 4, 2) := by decide +kernel
theorem dX2_driftOfPile_31 : decode cX2_driftOfPile 31 = .ok (.iaload, 1) := by decide +kernel
theorem dX2_driftOfPile_32 : decode cX2_driftOfPile 32 = .ok (.invokestatic 190, 3) := by decide +kernel
theorem dX2_driftOfPile_35 : decode cX2_driftOfPile 35 = .ok (.iadd, 1) := by decide +kernel
theorem dX2_driftOfPile_36 : decode cX2_driftOfPile 36 = .ok (.istore_n 2, 1) := by decide +kernel
theorem dX2_driftOfPile_37 : decode cX2_driftOfPile 37 = .ok (.iinc 4 1, 3) := by decide +kernel
theorem dX2_driftOfPile_40 : decode cX2_driftOfPile 40 = .ok (.goto (-28), 3) := by decide +kernel
theorem dX2_driftOfPile_43 : decode cX2_driftOfPile 43 = .ok (.iinc 3 1, 3) := by decide +kernel
theorem dX2_driftOfPile_46 : decode cX2_driftOfPile 46 = .ok (.goto (-42), 3) := by decide +kernel
theorem dX2_driftOfPile_49 : decode cX2_driftOfPile 49 = .ok (.iload_n 2, 1) := by decide +kernel
theorem dX2_driftOfPile_50 : decode cX2_driftOfPile 50 = .ok (.ireturn, 1) := by decide +kernel
theorem dX2_oddsOfPile_0 : decode cX2_oddsOfPile 0 = .ok (.iconst 0, 1) := by decide +kernel
theorem dX2_oddsOfPile_1 : decode cX2_oddsOfPile 1 = .ok (.istore_n 3, 1) := by decide +kernel
theorem dX2_oddsOfPile_2 : decode cX2_oddsOfPile 2 = .ok (.iload_n 3, 1) := by decide +kernel
theorem dX2_oddsOfPile_3 : decode cX2_oddsOfPile 3 = .ok (.iconst 4, 1) := by decide +kernel
theorem dX2_oddsOfPile_4 : decode cX2_oddsOfPile 4 = .ok (.if_icmp .ge 21, 3) := by decide +kernel
theorem dX2_oddsOfPile_7 : decode cX2_oddsOfPile 7 = .ok (.aload_n 0, 1) := by decide +kernel
theorem dX2_oddsOfPile_8 : decode cX2_oddsOfPile 8 = .ok (.getfield 33, 3) := by decide +kernel
theorem dX2_oddsOfPile_11 : decode cX2_oddsOfPile 11 = .ok (.iload_n 3, 1) := by decide +kernel
theorem dX2_oddsOfPile_12 : decode cX2_oddsOfPile 12 = .ok (.aload_n 0, 1) := by decide +kernel
theorem dX2_oddsOfPile_13 : decode cX2_oddsOfPile 13 = .ok (.iload_n 1, 1) := by decide +kernel
theorem dX2_oddsOfPile_14 : decode cX2_oddsOfPile 14 = .ok (.iload_n 3, 1) := by decide +kernel
theorem dX2_oddsOfPile_15 : decode cX2_oddsOfPile 15 = .ok (.invokevirtual 195, 3) := by decide +kernel
theorem dX2_oddsOfPile_18 : decode cX2_oddsOfPile 18 = .ok (.iastore, 1) := by decide +kernel
theorem dX2_oddsOfPile_19 : decode cX2_oddsOfPile 19 = .ok (.iinc 3 1, 3) := by decide +kernel
theorem dX2_oddsOfPile_22 : decode cX2_oddsOfPile 22 = .ok (.goto (-20), 3) := by decide +kernel
theorem dX2_oddsOfPile_25 : decode cX2_oddsOfPile 25 = .ok (.aload_n 0, 1) := by decide +kernel
theorem dX2_oddsOfPile_26 : decode cX2_oddsOfPile 26 = .ok (.getfield 33, 3) := by decide +kernel
theorem dX2_oddsOfPile_29 : decode cX2_oddsOfPile 29 = .ok (.iload_n 1, 1) := by decide +kernel
theorem dX2_oddsOfPile_30 : decode cX2_oddsOfPile 30 = .ok (.iload_n 2, 1) := by decide +kernel
theorem dX2_oddsOfPile_31 : decode cX2_oddsOfPile 31 = .ok (.invokestatic 198, 3) := by decide +kernel
theorem dX2_oddsOfPile_34 : decode cX2_oddsOfPile 34 = .ok (.ireturn, 1) := by decide +kernel
theorem dX2_countInPile_0 : decode cX2_countInPile 0 = .ok (.iconst 0, 1) := by decide +kernel
theorem dX2_countInPile_1 : decode cX2_countInPile 1 = .ok (.istore_n 3, 1) := by decide +kernel
theorem dX2_countInPile_2 : decode cX2_countInPile 2 = .ok (.iconst 0, 1) := by decide +kernel
theorem dX2_countInPile_3 : decode cX2_countInPile 3 = .ok (.istore 4, 2) := by decide +kernel
theorem dX2_countInPile_5 : decode cX2_countInPile 5 = .ok (.iload 4, 2) := by decide +kernel
theorem dX2_countInPile_7 : decode cX2_countInPile 7 = .ok (.iload_n 1, 1) := by decide +kernel
theorem dX2_countInPile_8 : decode cX2_countInPile 8 = .ok (.if_icmp .ge 23, 3) := by decide +kernel
theorem dX2_countInPile_11 : decode cX2_countInPile 11 = .ok (.aload_n 0, 1) := by decide +kernel
theorem dX2_countInPile_12 : decode cX2_countInPile 12 = .ok (.getfield 29, 3) := by decide +kernel
theorem dX2_countInPile_15 : decode cX2_countInPile 15 = .ok (.iload 4, 2) := by decide +kernel
theorem dX2_countInPile_17 : decode cX2_countInPile 17 = .ok (.iaload, 1) := by decide +kernel
theorem dX2_countInPile_18 : decode cX2_countInPile 18 = .ok (.iload_n 2, 1) := by decide +kernel
theorem dX2_countInPile_19 : decode cX2_countInPile 19 = .ok (.if_icmp .ne 6, 3) := by decide +kernel
theorem dX2_countInPile_22 : decode cX2_countInPile 22 = .ok (.iinc 3 1, 3) := by decide +kernel
theorem dX2_countInPile_25 : decode cX2_countInPile 25 = .ok (.iinc 4 1, 3) := by decide +kernel
theorem dX2_countInPile_28 : decode cX2_countInPile 28 = .ok (.goto (-23), 3) := by decide +kernel
theorem dX2_countInPile_31 : decode cX2_countInPile 31 = .ok (.iload_n 3, 1) := by decide +kernel
theorem dX2_countInPile_32 : decode cX2_countInPile 32 = .ok (.ireturn, 1) := by decide +kernel
theorem dX2_countOrders_0 : decode cX2_countOrders 0 = .ok (.iload_n 1, 1) := by decide +kernel
theorem dX2_countOrders_1 : decode cX2_countOrders 1 = .ok (.ifCond .gt 13, 3) := by decide +kernel
theorem dX2_countOrders_4 : decode cX2_countOrders 4 = .ok (.iload_n 2, 1) := by decide +kernel
theorem dX2_countOrders_5 : decode cX2_countOrders 5 = .ok (.ifCond .gt 7, 3) := by decide +kernel
theorem dX2_countOrders_8 : decode cX2_countOrders 8 = .ok (.iconst 1, 1) := by decide +kernel
theorem dX2_countOrders_9 : decode cX2_countOrders 9 = .ok (.goto 4, 3) := by decide +kernel
theorem dX2_countOrders_12 : decode cX2_countOrders 12 = .ok (.iconst 0, 1) := by decide +kernel
theorem dX2_countOrders_13 : decode cX2_countOrders 13 = .ok (.ireturn, 1) := by decide +kernel
theorem dX2_countOrders_14 : decode cX2_countOrders 14 = .ok (.iconst 0, 1) := by decide +kernel
theorem dX2_countOrders_15 : decode cX2_countOrders 15 = .ok (.istore_n 3, 1) := by decide +kernel
theorem dX2_countOrders_16 : decode cX2_countOrders 16 = .ok (.iconst 0, 1) := by decide +kernel
theorem dX2_countOrders_17 : decode cX2_countOrders 17 = .ok (.istore 4, 2) := by decide +kernel
theorem dX2_countOrders_19 : decode cX2_countOrders 19 = .ok (.iload 4, 2) := by decide +kernel
theorem dX2_countOrders_21 : decode cX2_countOrders 21 = .ok (.aload_n 0, 1) := by decide +kernel
theorem dX2_countOrders_22 : decode cX2_countOrders 22 = .ok (.arraylength, 1) := by decide +kernel
theorem dX2_countOrders_23 : decode cX2_countOrders 23 = .ok (.if_icmp .ge 55, 3) := by decide +kernel
theorem dX2_countOrders_26 : decode cX2_countOrders 26 = .ok (.aload_n 0, 1) := by decide +kernel
theorem dX2_countOrders_27 : decode cX2_countOrders 27 = .ok (.iload 4, 2) := by decide +kernel
theorem dX2_countOrders_29 : decode cX2_countOrders 29 = .ok (.iaload, 1) := by decide +kernel
theorem dX2_countOrders_30 : decode cX2_countOrders 30 = .ok (.istore 5, 2) := by decide +kernel
theorem dX2_countOrders_32 : decode cX2_countOrders 32 = .ok (.iload 5, 2) := by decide +kernel
theorem dX2_countOrders_34 : decode cX2_countOrders 34 = .ok (.ifCond .le 38, 3) := by decide +kernel
theorem dX2_countOrders_37 : decode cX2_countOrders 37 = .ok (.aload_n 0, 1) := by decide +kernel
theorem dX2_countOrders_38 : decode cX2_countOrders 38 = .ok (.iload 4, 2) := by decide +kernel
theorem dX2_countOrders_40 : decode cX2_countOrders 40 = .ok (.iload 5, 2) := by decide +kernel
theorem dX2_countOrders_42 : decode cX2_countOrders 42 = .ok (.iconst 1, 1) := by decide +kernel
theorem dX2_countOrders_43 : decode cX2_countOrders 43 = .ok (.isub, 1) := by decide +kernel
theorem dX2_countOrders_44 : decode cX2_countOrders 44 = .ok (.iastore, 1) := by decide +kernel
theorem dX2_countOrders_45 : decode cX2_countOrders 45 = .ok (.iload_n 3, 1) := by decide +kernel
theorem dX2_countOrders_46 : decode cX2_countOrders 46 = .ok (.iload 5, 2) := by decide +kernel
theorem dX2_countOrders_48 : decode cX2_countOrders 48 = .ok (.aload_n 0, 1) := by decide +kernel
theorem dX2_countOrders_49 : decode cX2_countOrders 49 = .ok (.iload_n 1, 1) := by decide +kernel
theorem dX2_countOrders_50 : decode cX2_countOrders 50 = .ok (.iconst 1, 1) := by decide +kernel
theorem dX2_countOrders_51 : decode cX2_countOrders 51 = .ok (.isub, 1) := by decide +kernel
theorem dX2_countOrders_52 : decode cX2_countOrders 52 = .ok (.iload_n 2, 1) := by decide +kernel
theorem dX2_countOrders_53 : decode cX2_countOrders 53 = .ok (.iload 4, 2) := by decide +kernel
theorem dX2_countOrders_55 : decode cX2_countOrders 55 = .ok (.aload_n 0, 1) := by decide +kernel
theorem dX2_countOrders_56 : decode cX2_countOrders 56 = .ok (.invokestatic 202, 3) := by decide +kernel
theorem dX2_countOrders_59 : decode cX2_countOrders 59 = .ok (.isub, 1) := by decide +kernel
theorem dX2_countOrders_60 : decode cX2_countOrders 60 = .ok (.invokestatic 198, 3) := by decide +kernel
theorem dX2_countOrders_63 : decode cX2_countOrders 63 = .ok (.imul, 1) := by decide +kernel
theorem dX2_countOrders_64 : decode cX2_countOrders 64 = .ok (.iadd, 1) := by decide +kernel
theorem dX2_countOrders_65 : decode cX2_countOrders 65 = .ok (.istore_n 3, 1) := by decide +kernel
theorem dX2_countOrders_66 : decode cX2_countOrders 66 = .ok (.aload_n 0, 1) := by decide +kernel
theorem dX2_countOrders_67 : decode cX2_countOrders 67 = .ok (.iload 4, 2) := by decide +kernel
theorem dX2_countOrders_69 : decode cX2_countOrders 69 = .ok (.iload 5, 2) := by decide +kernel
theorem dX2_countOrders_71 : decode cX2_countOrders 71 = .ok (.iastore, 1) := by decide +kernel
theorem dX2_countOrders_72 : decode cX2_countOrders 72 = .ok (.iinc 4 1, 3) := by decide +kernel
theorem dX2_countOrders_75 : decode cX2_countOrders 75 = .ok (.goto (-56), 3) := by decide +kernel
theorem dX2_countOrders_78 : decode cX2_countOrders 78 = .ok (.iload_n 3, 1) := by decide +kernel
theorem dX2_countOrders_79 : decode cX2_countOrders 79 = .ok (.ireturn, 1) := by decide +kernel
theorem dX2_driftBehind_0 : decode cX2_driftBehind 0 = .ok (.iconst 0, 1) := by decide +kernel
theorem dX2_driftBehind_1 : decode cX2_driftBehind 1 = .ok (.istore_n 2, 1) := by decide +kernel
theorem dX2_driftBehind_2 : decode cX2_driftBehind 2 = .ok (.iconst 0, 1) := by decide +kernel
theorem dX2_driftBehind_3 : decode cX2_driftBehind 3 = .ok (.istore_n 3, 1) := by decide +kernel
theorem dX2_driftBehind_4 : decode cX2_driftBehind 4 = .ok (.iload_n 3, 1) := by decide +kernel
theorem dX2_driftBehind_5 : decode cX2_driftBehind 5 = .ok (.aload_n 1, 1) := by decide +kernel
theorem dX2_driftBehind_6 : decode cX2_driftBehind 6 = .ok (.arraylength, 1) := by decide +kernel
theorem dX2_driftBehind_7 : decode cX2_driftBehind 7 = .ok (.if_icmp .ge 21, 3) := by decide +kernel
theorem dX2_driftBehind_10 : decode cX2_driftBehind 10 = .ok (.iload_n 2, 1) := by decide +kernel
theorem dX2_driftBehind_11 : decode cX2_driftBehind 11 = .ok (.aload_n 1, 1) := by decide +kernel
theorem dX2_driftBehind_12 : decode cX2_driftBehind 12 = .ok (.iload_n 3, 1) := by decide +kernel
theorem dX2_driftBehind_13 : decode cX2_driftBehind 13 = .ok (.iaload, 1) := by decide +kernel
theorem dX2_driftBehind_14 : decode cX2_driftBehind 14 = .ok (.iload_n 3, 1) := by decide +kernel
theorem dX2_driftBehind_15 : decode cX2_driftBehind 15 = .ok (.iload_n 0, 1) := by decide +kernel
theorem dX2_driftBehind_16 : decode cX2_driftBehind 16 = .ok (.invokestatic 190, 3) := by decide +kernel
theorem dX2_driftBehind_19 : decode cX2_driftBehind 19 = .ok (.imul, 1) := by decide +kernel
theorem dX2_driftBehind_20 : decode cX2_driftBehind 20 = .ok (.iadd, 1) := by decide +kernel
theorem dX2_driftBehind_21 : decode cX2_driftBehind 21 = .ok (.istore_n 2, 1) := by decide +kernel
theorem dX2_driftBehind_22 : decode cX2_driftBehind 22 = .ok (.iinc 3 1, 3) := by decide +kernel
theorem dX2_driftBehind_25 : decode cX2_driftBehind 25 = .ok (.goto (-21), 3) := by decide +kernel
theorem dX2_driftBehind_28 : decode cX2_driftBehind 28 = .ok (.iload_n 2, 1) := by decide +kernel
theorem dX2_driftBehind_29 : decode cX2_driftBehind 29 = .ok (.ireturn, 1) := by decide +kernel
theorem dX3_init_0 : decode cX3_init 0 = .ok (.aload_n 0, 1) := by decide +kernel
theorem dX3_init_1 : decode cX3_init 1 = .ok (.invokespecial 1, 3) := by decide +kernel
theorem dX3_init_4 : decode cX3_init 4 = .ok (.aload_n 0, 1) := by decide +kernel
theorem dX3_init_5 : decode cX3_init 5 = .ok (.bipush 8, 2) := by decide +kernel
theorem dX3_init_7 : decode cX3_init 7 = .ok (.newarray .int, 2) := by decide +kernel
theorem dX3_init_9 : decode cX3_init 9 = .ok (.putfield 7, 3) := by decide +kernel
theorem dX3_init_12 : decode cX3_init 12 = .ok (.aload_n 0, 1) := by decide +kernel
theorem dX3_init_13 : decode cX3_init 13 = .ok (.bipush 8, 2) := by decide +kernel
theorem dX3_init_15 : decode cX3_init 15 = .ok (.newarray .int, 2) := by decide +kernel
theorem dX3_init_17 : decode cX3_init 17 = .ok (.putfield 13, 3) := by decide +kernel
theorem dX3_init_20 : decode cX3_init 20 = .ok (.aload_n 0, 1) := by decide +kernel
theorem dX3_init_21 : decode cX3_init 21 = .ok (.bipush 8, 2) := by decide +kernel
theorem dX3_init_23 : decode cX3_init 23 = .ok (.newarray .int, 2) := by decide +kernel
theorem dX3_init_25 : decode cX3_init 25 = .ok (.putfield 16, 3) := by decide +kernel
theorem dX3_init_28 : decode cX3_init 28 = .ok (.aload_n 0, 1) := by decide +kernel
theorem dX3_init_29 : decode cX3_init 29 = .ok (.bipush 32, 2) := by decide +kernel
theorem dX3_init_31 : decode cX3_init 31 = .ok (.newarray .int, 2) := by decide +kernel
theorem dX3_init_33 : decode cX3_init 33 = .ok (.putfield 19, 3) := by decide +kernel
theorem dX3_init_36 : decode cX3_init 36 = .ok (.aload_n 0, 1) := by decide +kernel
theorem dX3_init_37 : decode cX3_init 37 = .ok (.bipush 32, 2) := by decide +kernel
theorem dX3_init_39 : decode cX3_init 39 = .ok (.newarray .int, 2) := by decide +kernel
theorem dX3_init_41 : decode cX3_init 41 = .ok (.putfield 22, 3) := by decide +kernel
theorem dX3_init_44 : decode cX3_init 44 = .ok (.aload_n 0, 1) := by decide +kernel
theorem dX3_init_45 : decode cX3_init 45 = .ok (.bipush 48, 2) := by decide +kernel
theorem dX3_init_47 : decode cX3_init 47 = .ok (.newarray .int, 2) := by decide +kernel
theorem dX3_init_49 : decode cX3_init 49 = .ok (.putfield 25, 3) := by decide +kernel
theorem dX3_init_52 : decode cX3_init 52 = .ok (.aload_n 0, 1) := by decide +kernel
theorem dX3_init_53 : decode cX3_init 53 = .ok (.bipush 36, 2) := by decide +kernel
theorem dX3_init_55 : decode cX3_init 55 = .ok (.newarray .int, 2) := by decide +kernel
theorem dX3_init_57 : decode cX3_init 57 = .ok (.putfield 28, 3) := by decide +kernel
theorem dX3_init_60 : decode cX3_init 60 = .ok (.aload_n 0, 1) := by decide +kernel
theorem dX3_init_61 : decode cX3_init 61 = .ok (.bipush 12, 2) := by decide +kernel
theorem dX3_init_63 : decode cX3_init 63 = .ok (.newarray .int, 2) := by decide +kernel
theorem dX3_init_65 : decode cX3_init 65 = .ok (.putfield 31, 3) := by decide +kernel
theorem dX3_init_68 : decode cX3_init 68 = .ok (.aload_n 0, 1) := by decide +kernel
theorem dX3_init_69 : decode cX3_init 69 = .ok (.bipush 6, 2) := by decide +kernel
theorem dX3_init_71 : decode cX3_init 71 = .ok (.newarray .int, 2) := by decide +kernel
theorem dX3_init_73 : decode cX3_init 73 = .ok (.putfield 34, 3) := by decide +kernel
theorem dX3_init_76 : decode cX3_init 76 = .ok (.aload_n 0, 1) := by decide +kernel
theorem dX3_init_77 : decode cX3_init 77 = .ok (.bipush 6, 2) := by decide +kernel
theorem dX3_init_79 : decode cX3_init 79 = .ok (.newarray .int, 2) := by decide +kernel
theorem dX3_init_81 : decode cX3_init 81 = .ok (.putfield 37, 3) := by decide +kernel
theorem dX3_init_84 : decode cX3_init 84 = .ok (.iconst 0, 1) := by decide +kernel
theorem dX3_init_85 : decode cX3_init 85 = .ok (.istore_n 1, 1) := by decide +kernel
theorem dX3_init_86 : decode cX3_init 86 = .ok (.iload_n 1, 1) := by decide +kernel
theorem dX3_init_87 : decode cX3_init 87 = .ok (.bipush 8, 2) := by decide +kernel
theorem dX3_init_89 : decode cX3_init 89 = .ok (.if_icmp .ge 74, 3) := by decide +kernel
theorem dX3_init_92 : decode cX3_init 92 = .ok (.aload_n 0, 1) := by decide +kernel
theorem dX3_init_93 : decode cX3_init 93 = .ok (.getfield 13, 3) := by decide +kernel
theorem dX3_init_96 : decode cX3_init 96 = .ok (.iload_n 1, 1) := by decide +kernel
theorem dX3_init_97 : decode cX3_init 97 = .ok (.iload_n 1, 1) := by decide +kernel
theorem dX3_init_98 : decode cX3_init 98 = .ok (.iconst 4, 1) := by decide +kernel
theorem dX3_init_99 : decode cX3_init 99 = .ok (.irem, 1) := by decide +kernel
theorem dX3_init_100 : decode cX3_init 100 = .ok (.iastore, 1) := by decide +kernel
theorem dX3_init_101 : decode cX3_init 101 = .ok (.aload_n 0, 1) := by decide +kernel
theorem dX3_init_102 : decode cX3_init 102 = .ok (.getfield 16, 3) := by decide +kernel
theorem dX3_init_105 : decode cX3_init 105 = .ok (.iload_n 1, 1) := by decide +kernel
theorem dX3_init_106 : decode cX3_init 106 = .ok (.iconst 1, 1) := by decide +kernel
theorem dX3_init_107 : decode cX3_init 107 = .ok (.iastore, 1) := by decide +kernel
theorem dX3_init_108 : decode cX3_init 108 = .ok (.iconst 0, 1) := by decide +kernel
theorem dX3_init_109 : decode cX3_init 109 = .ok (.istore_n 2, 1) := by decide +kernel
theorem dX3_init_110 : decode cX3_init 110 = .ok (.iload_n 2, 1) := by decide +kernel
theorem dX3_init_111 : decode cX3_init 111 = .ok (.iconst 4, 1) := by decide +kernel
theorem dX3_init_112 : decode cX3_init 112 = .ok (.if_icmp .ge 45, 3) := by decide +kernel
theorem dX3_init_115 : decode cX3_init 115 = .ok (.aload_n 0, 1) := by decide +kernel
theorem dX3_init_116 : decode cX3_init 116 = .ok (.getfield 19, 3) := by decide +kernel
theorem dX3_init_119 : decode cX3_init 119 = .ok (.iconst 4, 1) := by decide +kernel
theorem dX3_init_120 : decode cX3_init 120 = .ok (.iload_n 1, 1) := by decide +kernel
theorem dX3_init_121 : decode cX3_init 121 = .ok (.imul, 1) := by decide +kernel
theorem dX3_init_122 : decode cX3_init 122 = .ok (.iload_n 2, 1) := by decide +kernel
theorem dX3_init_123 : decode cX3_init 123 = .ok (.iadd, 1) := by decide +kernel
theorem dX3_init_124 : decode cX3_init 124 = .ok (.iload_n 2, 1) := by decide +kernel
theorem dX3_init_125 : decode cX3_init 125 = .ok (.ifCond .ne 7, 3) := by decide +kernel
theorem dX3_init_128 : decode cX3_init 128 = .ok (.iconst 0, 1) := by decide +kernel
theorem dX3_init_129 : decode cX3_init 129 = .ok (.goto 8, 3) := by decide +kernel
theorem dX3_init_132 : decode cX3_init 132 = .ok (.iconst 3, 1) := by decide +kernel
theorem dX3_init_133 : decode cX3_init 133 = .ok (.iload_n 2, 1) := by decide +kernel
theorem dX3_init_134 : decode cX3_init 134 = .ok (.imul, 1) := by decide +kernel
theorem dX3_init_135 : decode cX3_init 135 = .ok (.iconst 2, 1) := by decide +kernel
theorem dX3_init_136 : decode cX3_init 136 = .ok (.isub, 1) := by decide +kernel
theorem dX3_init_137 : decode cX3_init 137 = .ok (.iastore, 1) := by decide +kernel
theorem dX3_init_138 : decode cX3_init 138 = .ok (.aload_n 0, 1) := by decide +kernel
theorem dX3_init_139 : decode cX3_init 139 = .ok (.getfield 22, 3) := by decide +kernel
theorem dX3_init_142 : decode cX3_init 142 = .ok (.iconst 4, 1) := by decide +kernel
theorem dX3_init_143 : decode cX3_init 143 = .ok (.iload_n 1, 1) := by decide +kernel
theorem dX3_init_144 : decode cX3_init 144 = .ok (.imul, 1) := by decide +kernel
theorem dX3_init_145 : decode cX3_init 145 = .ok (.iload_n 2, 1) := by decide +kernel
theorem dX3_init_146 : decode cX3_init 146 = .ok (.iadd, 1) := by decide +kernel
theorem dX3_init_147 : decode cX3_init 147 = .ok (.iconst 3, 1) := by decide +kernel
theorem dX3_init_148 : decode cX3_init 148 = .ok (.iload_n 2, 1) := by decide +kernel
theorem dX3_init_149 : decode cX3_init 149 = .ok (.imul, 1) := by decide +kernel
theorem dX3_init_150 : decode cX3_init 150 = .ok (.iastore, 1) := by decide +kernel
theorem dX3_init_151 : decode cX3_init 151 = .ok (.iinc 2 1, 3) := by decide +kernel
theorem dX3_init_154 : decode cX3_init 154 = .ok (.goto (-44), 3) := by decide +kernel
theorem dX3_init_157 : decode cX3_init 157 = .ok (.iinc 1 1, 3) := by decide +kernel
theorem dX3_init_160 : decode cX3_init 160 = .ok (.goto (-74), 3) := by decide +kernel
theorem dX3_init_163 : decode cX3_init 163 = .ok (.iconst 0, 1) := by decide +kernel
theorem dX3_init_164 : decode cX3_init 164 = .ok (.istore_n 1, 1) := by decide +kernel
theorem dX3_init_165 : decode cX3_init 165 = .ok (.iload_n 1, 1) := by decide +kernel
theorem dX3_init_166 : decode cX3_init 166 = .ok (.bipush 36, 2) := by decide +kernel
theorem dX3_init_168 : decode cX3_init 168 = .ok (.if_icmp .ge 18, 3) := by decide +kernel
theorem dX3_init_171 : decode cX3_init 171 = .ok (.aload_n 0, 1) := by decide +kernel
theorem dX3_init_172 : decode cX3_init 172 = .ok (.getfield 28, 3) := by decide +kernel
theorem dX3_init_175 : decode cX3_init 175 = .ok (.iload_n 1, 1) := by decide +kernel
theorem dX3_init_176 : decode cX3_init 176 = .ok (.sipush (-900), 3) := by decide +kernel
theorem dX3_init_179 : decode cX3_init 179 = .ok (.iastore, 1) := by decide +kernel
theorem dX3_init_180 : decode cX3_init 180 = .ok (.iinc 1 1, 3) := by decide +kernel
theorem dX3_init_183 : decode cX3_init 183 = .ok (.goto (-18), 3) := by decide +kernel
theorem dX3_init_186 : decode cX3_init 186 = .ok (.iconst 0, 1) := by decide +kernel
theorem dX3_init_187 : decode cX3_init 187 = .ok (.istore_n 1, 1) := by decide +kernel
theorem dX3_init_188 : decode cX3_init 188 = .ok (.iload_n 1, 1) := by decide +kernel
theorem dX3_init_189 : decode cX3_init 189 = .ok (.bipush 12, 2) := by decide +kernel
theorem dX3_init_191 : decode cX3_init 191 = .ok (.if_icmp .ge 18, 3) := by decide +kernel
theorem dX3_init_194 : decode cX3_init 194 = .ok (.aload_n 0, 1) := by decide +kernel
theorem dX3_init_195 : decode cX3_init 195 = .ok (.getfield 31, 3) := by decide +kernel
theorem dX3_init_198 : decode cX3_init 198 = .ok (.iload_n 1, 1) := by decide +kernel
theorem dX3_init_199 : decode cX3_init 199 = .ok (.sipush (-900), 3) := by decide +kernel
theorem dX3_init_202 : decode cX3_init 202 = .ok (.iastore, 1) := by decide +kernel
theorem dX3_init_203 : decode cX3_init 203 = .ok (.iinc 1 1, 3) := by decide +kernel
theorem dX3_init_206 : decode cX3_init 206 = .ok (.goto (-18), 3) := by decide +kernel
theorem dX3_init_209 : decode cX3_init 209 = .ok (.return_, 1) := by decide +kernel
theorem dX3_in_0 : decode cX3_in 0 = .ok (.iload_n 0, 1) := by decide +kernel
theorem dX3_in_1 : decode cX3_in 1 = .ok (.iload_n 1, 1) := by decide +kernel
theorem dX3_in_2 : decode cX3_in 2 = .ok (.if_icmp .lt 12, 3) := by decide +kernel
theorem dX3_in_5 : decode cX3_in 5 = .ok (.iload_n 0, 1) := by decide +kernel
theorem dX3_in_6 : decode cX3_in 6 = .ok (.iload_n 2, 1) := by decide +kernel
theorem dX3_in_7 : decode cX3_in 7 = .ok (.if_icmp .gt 7, 3) := by decide +kernel
theorem dX3_in_10 : decode cX3_in 10 = .ok (.iconst 1, 1) := by decide +kernel
theorem dX3_in_11 : decode cX3_in 11 = .ok (.goto 4, 3) := by decide +kernel
theorem dX3_in_14 : decode cX3_in 14 = .ok (.iconst 0, 1) := by decide +kernel
theorem dX3_in_15 : decode cX3_in 15 = .ok (.ireturn, 1) := by decide +kernel
theorem dX3_size_0 : decode cX3_size 0 = .ok (.iload_n 0, 1) := by decide +kernel
theorem dX3_size_1 : decode cX3_size 1 = .ok (.ifCond .ge 8, 3) := by decide +kernel
theorem dX3_size_4 : decode cX3_size 4 = .ok (.iload_n 0, 1) := by decide +kernel
theorem dX3_size_5 : decode cX3_size 5 = .ok (.ineg, 1) := by decide +kernel
theorem dX3_size_6 : decode cX3_size 6 = .ok (.goto 4, 3) := by decide +kernel
theorem dX3_size_9 : decode cX3_size 9 = .ok (.iload_n 0, 1) := by decide +kernel
theorem dX3_size_10 : decode cX3_size 10 = .ok (.ireturn, 1) := by decide +kernel
theorem dX3_isLine_0 : decode cX3_isLine 0 = .ok (.iload_n 0, 1) := by decide +kernel
theorem dX3_isLine_1 : decode cX3_isLine 1 = .ok (.iconst 0, 1) := by decide +kernel
theorem dX3_isLine_2 : decode cX3_isLine 2 = .ok (.iconst 1, 1) := by decide +kernel
theorem dX3_isLine_3 : decode cX3_isLine 3 = .ok (.invokestatic 40, 3) := by decide +kernel
theorem dX3_isLine_6 : decode cX3_isLine 6 = .ok (.ifCond .eq 16, 3) := by decide +kernel
theorem dX3_isLine_9 : decode cX3_isLine 9 = .ok (.iload_n 1, 1) := by decide +kernel
theorem dX3_isLine_10 : decode cX3_isLine 10 = .ok (.iconst 0, 1) := by decide +kernel
theorem dX3_isLine_11 : decode cX3_isLine 11 = .ok (.iconst 3, 1) := by decide +kernel
theorem dX3_isLine_12 : decode cX3_isLine 12 = .ok (.invokestatic 40, 3) := by decide +kernel
theorem dX3_isLine_15 : decode cX3_isLine 15 = .ok (.ifCond .eq 7, 3) := by decide +kernel
theorem dX3_isLine_18 : decode cX3_isLine 18 = .ok (.iconst 1, 1) := by decide +kernel
theorem dX3_isLine_19 : decode cX3_isLine 19 = .ok (.goto 4, 3) := by decide +kernel
theorem dX3_isLine_22 : decode cX3_isLine 22 = .ok (.iconst 0, 1) := by decide +kernel
theorem dX3_isLine_23 : decode cX3_isLine 23 = .ok (.ireturn, 1) := by decide +kernel
theorem dX3_line_0 : decode cX3_line 0 = .ok (.iload_n 1, 1) := by decide +kernel
theorem dX3_line_1 : decode cX3_line 1 = .ok (.iload_n 2, 1) := by decide +kernel
theorem dX3_line_2 : decode cX3_line 2 = .ok (.invokestatic 44, 3) := by decide +kernel
theorem dX3_line_5 : decode cX3_line 5 = .ok (.ifCond .eq 33, 3) := by decide +kernel
theorem dX3_line_8 : decode cX3_line 8 = .ok (.iload_n 3, 1) := by decide +kernel
theorem dX3_line_9 : decode cX3_line 9 = .ok (.iconst 0, 1) := by decide +kernel
theorem dX3_line_10 : decode cX3_line 10 = .ok (.iconst 2, 1) := by decide +kernel
theorem dX3_line_11 : decode cX3_line 11 = .ok (.invokestatic 40, 3) := by decide +kernel
theorem dX3_line_14 : decode cX3_line 14 = .ok (.ifCond .eq 24, 3) := by decide +kernel
theorem dX3_line_17 : decode cX3_line 17 = .ok (.iload 4, 2) := by decide +kernel
theorem dX3_line_19 : decode cX3_line 19 = .ok (.iconst 0, 1) := by decide +kernel
theorem dX3_line_20 : decode cX3_line 20 = .ok (.iconst 3, 1) := by decide +kernel
theorem dX3_line_21 : decode cX3_line 21 = .ok (.invokestatic 40, 3) := by decide +kernel
theorem dX3_line_24 : decode cX3_line 24 = .ok (.ifCond .eq 14, 3) := by decide +kernel
theorem dX3_line_27 : decode cX3_line 27 = .ok (.iload 5, 2) := by decide +kernel
theorem dX3_line_29 : decode cX3_line 29 = .ok (.iconst 0, 1) := by decide +kernel
theorem dX3_line_30 : decode cX3_line 30 = .ok (.bipush 9, 2) := by decide +kernel
theorem dX3_line_32 : decode cX3_line 32 = .ok (.invokestatic 40, 3) := by decide +kernel
theorem dX3_line_35 : decode cX3_line 35 = .ok (.ifCond .ne 6, 3) := by decide +kernel
theorem dX3_line_38 : decode cX3_line 38 = .ok (.bipush (-100), 2) := by decide +kernel
theorem dX3_line_40 : decode cX3_line 40 = .ok (.ireturn, 1) := by decide +kernel
theorem dX3_line_41 : decode cX3_line 41 = .ok (.aload_n 0, 1) := by decide +kernel
theorem dX3_line_42 : decode cX3_line 42 = .ok (.getfield 7, 3) := by decide +kernel
theorem dX3_line_45 : decode cX3_line 45 = .ok (.iconst 4, 1) := by decide +kernel
theorem dX3_line_46 : decode cX3_line 46 = .ok (.iload_n 1, 1) := by decide +kernel
theorem dX3_line_47 : decode cX3_line 47 = .ok (.imul, 1) := by decide +kernel
theorem dX3_line_48 : decode cX3_line 48 = .ok (.iload_n 2, 1) := by decide +kernel
theorem dX3_line_49 : decode cX3_line 49 = .ok (.iadd, 1) := by decide +kernel
theorem dX3_line_50 : decode cX3_line 50 = .ok (.iload_n 3, 1) := by decide +kernel
theorem dX3_line_51 : decode cX3_line 51 = .ok (.iastore, 1) := by decide +kernel
theorem dX3_line_52 : decode cX3_line 52 = .ok (.aload_n 0, 1) := by decide +kernel
theorem dX3_line_53 : decode cX3_line 53 = .ok (.getfield 13, 3) := by decide +kernel
theorem dX3_line_56 : decode cX3_line 56 = .ok (.iconst 4, 1) := by decide +kernel
theorem dX3_line_57 : decode cX3_line 57 = .ok (.iload_n 1, 1) := by decide +kernel
theorem dX3_line_58 : decode cX3_line 58 = .ok (.imul, 1) := by decide +kernel
theorem dX3_line_59 : decode cX3_line 59 = .ok (.iload_n 2, 1) := by decide +kernel
theorem dX3_line_60 : decode cX3_line 60 = .ok (.iadd, 1) := by decide +kernel
theorem dX3_line_61 : decode cX3_line 61 = .ok (.iload 4, 2) := by decide +kernel
theorem dX3_line_63 : decode cX3_line 63 = .ok (.iastore, 1) := by decide +kernel
theorem dX3_line_64 : decode cX3_line 64 = .ok (.aload_n 0, 1) := by decide +kernel
theorem dX3_line_65 : decode cX3_line 65 = .ok (.getfield 16, 3) := by decide +kernel
theorem dX3_line_68 : decode cX3_line 68 = .ok (.iconst 4, 1) := by decide +kernel
theorem dX3_line_69 : decode cX3_line 69 = .ok (.iload_n 1, 1) := by decide +kernel
theorem dX3_line_70 : decode cX3_line 70 = .ok (.imul, 1) := by decide +kernel
theorem dX3_line_71 : decode cX3_line 71 = .ok (.iload_n 2, 1) := by decide +kernel
theorem dX3_line_72 : decode cX3_line 72 = .ok (.iadd, 1) := by decide +kernel
theorem dX3_line_73 : decode cX3_line 73 = .ok (.iload 5, 2) := by decide +kernel
theorem dX3_line_75 : decode cX3_line 75 = .ok (.iastore, 1) := by decide +kernel
theorem dX3_line_76 : decode cX3_line 76 = .ok (.iconst 1, 1) := by decide +kernel
theorem dX3_line_77 : decode cX3_line 77 = .ok (.ireturn, 1) := by decide +kernel
theorem dX3_span_0 : decode cX3_span 0 = .ok (.iload_n 1, 1) := by decide +kernel
theorem dX3_span_1 : decode cX3_span 1 = .ok (.iload_n 2, 1) := by decide +kernel
theorem dX3_span_2 : decode cX3_span 2 = .ok (.invokestatic 44, 3) := by decide +kernel
theorem dX3_span_5 : decode cX3_span 5 = .ok (.ifCond .eq 34, 3) := by decide +kernel
theorem dX3_span_8 : decode cX3_span 8 = .ok (.iload_n 3, 1) := by decide +kernel
theorem dX3_span_9 : decode cX3_span 9 = .ok (.iconst 0, 1) := by decide +kernel
theorem dX3_span_10 : decode cX3_span 10 = .ok (.iconst 3, 1) := by decide +kernel
theorem dX3_span_11 : decode cX3_span 11 = .ok (.invokestatic 40, 3) := by decide +kernel
theorem dX3_span_14 : decode cX3_span 14 = .ok (.ifCond .eq 25, 3) := by decide +kernel
theorem dX3_span_17 : decode cX3_span 17 = .ok (.iload 4, 2) := by decide +kernel
theorem dX3_span_19 : decode cX3_span 19 = .ok (.iconst 0, 1) := by decide +kernel
theorem dX3_span_20 : decode cX3_span 20 = .ok (.bipush 9, 2) := by decide +kernel
theorem dX3_span_22 : decode cX3_span 22 = .ok (.invokestatic 40, 3) := by decide +kernel
theorem dX3_span_25 : decode cX3_span 25 = .ok (.ifCond .eq 14, 3) := by decide +kernel
theorem dX3_span_28 : decode cX3_span 28 = .ok (.iload 5, 2) := by decide +kernel
theorem dX3_span_30 : decode cX3_span 30 = .ok (.iconst 0, 1) := by decide +kernel
theorem dX3_span_31 : decode cX3_span 31 = .ok (.bipush 9, 2) := by decide +kernel
theorem dX3_span_33 : decode cX3_span 33 = .ok (.invokestatic 40, 3) := by decide +kernel
theorem dX3_span_36 : decode cX3_span 36 = .ok (.ifCond .ne 6, 3) := by decide +kernel
theorem dX3_span_39 : decode cX3_span 39 = .ok (.bipush (-100), 2) := by decide +kernel
theorem dX3_span_41 : decode cX3_span 41 = .ok (.ireturn, 1) := by decide +kernel
theorem dX3_span_42 : decode cX3_span 42 = .ok (.aload_n 0, 1) := by decide +kernel
theorem dX3_span_43 : decode cX3_span 43 = .ok (.getfield 19, 3) := by decide +kernel
theorem dX3_span_46 : decode cX3_span 46 = .ok (.bipush 16, 2) := by decide +kernel
theorem dX3_span_48 : decode cX3_span 48 = .ok (.iload_n 1, 1) := by decide +kernel
theorem dX3_span_49 : decode cX3_span 49 = .ok (.imul, 1) := by decide +kernel
theorem dX3_span_50 : decode cX3_span 50 = .ok (.iconst 4, 1) := by decide +kernel
theorem dX3_span_51 : decode cX3_span 51 = .ok (.iload_n 2, 1) := by decide +kernel
theorem dX3_span_52 : decode cX3_span 52 = .ok (.imul, 1) := by decide +kernel
theorem dX3_span_53 : decode cX3_span 53 = .ok (.iadd, 1) := by decide +kernel
theorem dX3_span_54 : decode cX3_span 54 = .ok (.iload_n 3, 1) := by decide +kernel
theorem dX3_span_55 : decode cX3_span 55 = .ok (.iadd, 1) := by decide +kernel
theorem dX3_span_56 : decode cX3_span 56 = .ok (.iload 4, 2) := by decide +kernel
theorem dX3_span_58 : decode cX3_span 58 = .ok (.iastore, 1) := by decide +kernel
theorem dX3_span_59 : decode cX3_span 59 = .ok (.aload_n 0, 1) := by decide +kernel
theorem dX3_span_60 : decode cX3_span 60 = .ok (.getfield 22, 3) := by decide +kernel
theorem dX3_span_63 : decode cX3_span 63 = .ok (.bipush 16, 2) := by decide +kernel
theorem dX3_span_65 : decode cX3_span 65 = .ok (.iload_n 1, 1) := by decide +kernel
theorem dX3_span_66 : decode cX3_span 66 = .ok (.imul, 1) := by decide +kernel
theorem dX3_span_67 : decode cX3_span 67 = .ok (.iconst 4, 1) := by decide +kernel
theorem dX3_span_68 : decode cX3_span 68 = .ok (.iload_n 2, 1) := by decide +kernel
theorem dX3_span_69 : decode cX3_span 69 = .ok (.imul, 1) := by decide +kernel
theorem dX3_span_70 : decode cX3_span 70 = .ok (.iadd, 1) := by decide +kernel
theorem dX3_span_71 : decode cX3_span 71 = .ok (.iload_n 3, 1) := by decide +kernel
theorem dX3_span_72 : decode cX3_span 72 = .ok (.iadd, 1) := by decide +kernel
theorem dX3_span_73 : decode cX3_span 73 = .ok (.iload 5, 2) := by decide +kernel
theorem dX3_span_75 : decode cX3_span 75 = .ok (.iastore, 1) := by decide +kernel
theorem dX3_span_76 : decode cX3_span 76 = .ok (.iconst 1, 1) := by decide +kernel
theorem dX3_span_77 : decode cX3_span 77 = .ok (.ireturn, 1) := by decide +kernel
theorem dX3_about_0 : decode cX3_about 0 = .ok (.iload_n 1, 1) := by decide +kernel
theorem dX3_about_1 : decode cX3_about 1 = .ok (.iload_n 2, 1) := by decide +kernel
theorem dX3_about_2 : decode cX3_about 2 = .ok (.invokestatic 44, 3) := by decide +kernel
theorem dX3_about_5 : decode cX3_about 5 = .ok (.ifCond .eq 13, 3) := by decide +kernel
theorem dX3_about_8 : decode cX3_about 8 = .ok (.iload_n 3, 1) := by decide +kernel
theorem dX3_about_9 : decode cX3_about 9 = .ok (.iconst 0, 1) := by decide +kernel
theorem dX3_about_10 : decode cX3_about 10 = .ok (.bipush 10, 2) := by decide +kernel
theorem dX3_about_12 : decode cX3_about 12 = .ok (.invokestatic 40, 3) := by decide +kernel
theorem dX3_about_15 : decode cX3_about 15 = .ok (.ifCond .ne 6, 3) := by decide +kernel
theorem dX3_about_18 : decode cX3_about 18 = .ok (.bipush (-100), 2) := by decide +kernel
theorem dX3_about_20 : decode cX3_about 20 = .ok (.ireturn, 1) := by decide +kernel
theorem dX3_about_21 : decode cX3_about 21 = .ok (.iconst 4, 1) := by decide +kernel
theorem dX3_about_22 : decode cX3_about 22 = .ok (.iload_n 1, 1) := by decide +kernel
theorem dX3_about_23 : decode cX3_about 23 = .ok (.imul, 1) := by decide +kernel
theorem dX3_about_24 : decode cX3_about 24 = .ok (.iload_n 2, 1) := by decide +kernel
theorem dX3_about_25 : decode cX3_about 25 = .ok (.iadd, 1) := by decide +kernel
theorem dX3_about_26 : decode cX3_about 26 = .ok (.istore 4, 2) := by decide +kernel
theorem dX3_about_28 : decode cX3_about 28 = .ok (.iload_n 3, 1) := by decide +kernel
theorem dX3_about_29 : decode cX3_about 29 = .ok (.iconst 3, 1) := by decide +kernel
theorem dX3_about_30 : decode cX3_about 30 = .ok (.if_icmp .ge 40, 3) := by decide +kernel
theorem dX3_about_33 : decode cX3_about 33 = .ok (.iload_n 3, 1) := by decide +kernel
theorem dX3_about_34 : decode cX3_about 34 = .ok (.ifCond .ne 13, 3) := by decide +kernel
theorem dX3_about_37 : decode cX3_about 37 = .ok (.aload_n 0, 1) := by decide +kernel
theorem dX3_about_38 : decode cX3_about 38 = .ok (.getfield 7, 3) := by decide +kernel
theorem dX3_about_41 : decode cX3_about 41 = .ok (.iload 4, 2) := by decide +kernel
theorem dX3_about_43 : decode cX3_about 43 = .ok (.iaload, 1) := by decide +kernel
theorem dX3_about_44 : decode cX3_about 44 = .ok (.goto 25, 3) := by decide +kernel
theorem dX3_about_47 : decode cX3_about 47 = .ok (.iload_n 3, 1) := by decide +kernel
theorem dX3_about_48 : decode cX3_about 48 = .ok (.iconst 1, 1) := by decide +kernel
theorem dX3_about_49 : decode cX3_about 49 = .ok (.if_icmp .ne 13, 3) := by decide +kernel
theorem dX3_about_52 : decode cX3_about 52 = .ok (.aload_n 0, 1) := by decide +kernel
theorem dX3_about_53 : decode cX3_about 53 = .ok (.getfield 13, 3) := by decide +kernel
theorem dX3_about_56 : decode cX3_about 56 = .ok (.iload 4, 2) := by decide +kernel
theorem dX3_about_58 : decode cX3_about 58 = .ok (.iaload, 1) := by decide +kernel
theorem dX3_about_59 : decode cX3_about 59 = .ok (.goto 10, 3) := by decide +kernel
theorem dX3_about_62 : decode cX3_about 62 = .ok (.aload_n 0, 1) := by decide +kernel
theorem dX3_about_63 : decode cX3_about 63 = .ok (.getfield 16, 3) := by decide +kernel
theorem dX3_about_66 : decode cX3_about 66 = .ok (.iload 4, 2) := by decide +kernel
theorem dX3_about_68 : decode cX3_about 68 = .ok (.iaload, 1) := by decide +kernel
theorem dX3_about_69 : decode cX3_about 69 = .ok (.ireturn, 1) := by decide +kernel
theorem dX3_about_70 : decode cX3_about 70 = .ok (.iload_n 3, 1) := by decide +kernel
theorem dX3_about_71 : decode cX3_about 71 = .ok (.iconst 3, 1) := by decide +kernel
theorem dX3_about_72 : decode cX3_about 72 = .ok (.isub, 1) := by decide +kernel
theorem dX3_about_73 : decode cX3_about 73 = .ok (.iconst 2, 1) := by decide +kernel
theorem dX3_about_74 : decode cX3_about 74 = .ok (.idiv, 1) := by decide +kernel
theorem dX3_about_75 : decode cX3_about 75 = .ok (.istore 5, 2) := by decide +kernel
theorem dX3_about_77 : decode cX3_about 77 = .ok (.iload_n 3, 1) := by decide +kernel
theorem dX3_about_78 : decode cX3_about 78 = .ok (.iconst 2, 1) := by decide +kernel
theorem dX3_about_79 : decode cX3_about 79 = .ok (.irem, 1) := by decide +kernel
theorem dX3_about_80 : decode cX3_about 80 = .ok (.iconst 1, 1) := by decide +kernel
theorem dX3_about_81 : decode cX3_about 81 = .ok (.if_icmp .ne 18, 3) := by decide +kernel
theorem dX3_about_84 : decode cX3_about 84 = .ok (.aload_n 0, 1) := by decide +kernel
theorem dX3_about_85 : decode cX3_about 85 = .ok (.getfield 19, 3) := by decide +kernel
theorem dX3_about_88 : decode cX3_about 88 = .ok (.iconst 4, 1) := by decide +kernel
theorem dX3_about_89 : decode cX3_about 89 = .ok (.iload 4, 2) := by decide +kernel
theorem dX3_about_91 : decode cX3_about 91 = .ok (.imul, 1) := by decide +kernel
theorem dX3_about_92 : decode cX3_about 92 = .ok (.iload 5, 2) := by decide +kernel
theorem dX3_about_94 : decode cX3_about 94 = .ok (.iadd, 1) := by decide +kernel
theorem dX3_about_95 : decode cX3_about 95 = .ok (.iaload, 1) := by decide +kernel
theorem dX3_about_96 : decode cX3_about 96 = .ok (.goto 15, 3) := by decide +kernel
theorem dX3_about_99 : decode cX3_about 99 = .ok (.aload_n 0, 1) := by decide +kernel
theorem dX3_about_100 : decode cX3_about 100 = .ok (.getfield 22, 3) := by decide +kernel
theorem dX3_about_103 : decode cX3_about 103 = .ok (.iconst 4, 1) := by decide +kernel
theorem dX3_about_104 : decode cX3_about 104 = .ok (.iload 4, 2) := by decide +kernel
theorem dX3_about_106 : decode cX3_about 106 = .ok (.imul, 1) := by decide +kernel
theorem dX3_about_107 : decode cX3_about 107 = .ok (.iload 5, 2) := by decide +kernel
theorem dX3_about_109 : decode cX3_about 109 = .ok (.iadd, 1) := by decide +kernel
theorem dX3_about_110 : decode cX3_about 110 = .ok (.iaload, 1) := by decide +kernel
theorem dX3_about_111 : decode cX3_about 111 = .ok (.ireturn, 1) := by decide +kernel
theorem dX3_has_0 : decode cX3_has 0 = .ok (.iload_n 3, 1) := by decide +kernel
theorem dX3_has_1 : decode cX3_has 1 = .ok (.aload_n 0, 1) := by decide +kernel
theorem dX3_has_2 : decode cX3_has 2 = .ok (.getfield 19, 3) := by decide +kernel
theorem dX3_has_5 : decode cX3_has 5 = .ok (.iconst 4, 1) := by decide +kernel
theorem dX3_has_6 : decode cX3_has 6 = .ok (.iload_n 1, 1) := by decide +kernel
theorem dX3_has_7 : decode cX3_has 7 = .ok (.imul, 1) := by decide +kernel
theorem dX3_has_8 : decode cX3_has 8 = .ok (.iload_n 2, 1) := by decide +kernel
theorem dX3_has_9 : decode cX3_has 9 = .ok (.iadd, 1) := by decide +kernel
theorem dX3_has_10 : decode cX3_has 10 = .ok (.iaload, 1) := by decide +kernel
theorem dX3_has_11 : decode cX3_has 11 = .ok (.aload_n 0, 1) := by decide +kernel
theorem dX3_has_12 : decode cX3_has 12 = .ok (.getfield 22, 3) := by decide +kernel
theorem dX3_has_15 : decode cX3_has 15 = .ok (.iconst 4, 1) := by decide +kernel
theorem dX3_has_16 : decode cX3_has 16 = .ok (.iload_n 1, 1) := by decide +kernel
theorem dX3_has_17 : decode cX3_has 17 = .ok (.imul, 1) := by decide +kernel
theorem dX3_has_18 : decode cX3_has 18 = .ok (.iload_n 2, 1) := by decide +kernel
theorem dX3_has_19 : decode cX3_has 19 = .ok (.iadd, 1) := by decide +kernel
theorem dX3_has_20 : decode cX3_has 20 = .ok (.iaload, 1) := by decide +kernel
theorem dX3_has_21 : decode cX3_has 21 = .ok (.invokestatic 40, 3) := by decide +kernel
theorem dX3_has_24 : decode cX3_has 24 = .ok (.ireturn, 1) := by decide +kernel
theorem dX3_strict_0 : decode cX3_strict 0 = .ok (.iconst 3, 1) := by decide +kernel
theorem dX3_strict_1 : decode cX3_strict 1 = .ok (.istore_n 3, 1) := by decide +kernel
theorem dX3_strict_2 : decode cX3_strict 2 = .ok (.iload_n 3, 1) := by decide +kernel
theorem dX3_strict_3 : decode cX3_strict 3 = .ok (.ifCond .lt 21, 3) := by decide +kernel
theorem dX3_strict_6 : decode cX3_strict 6 = .ok (.aload_n 0, 1) := by decide +kernel
theorem dX3_strict_7 : decode cX3_strict 7 = .ok (.iload_n 1, 1) := by decide +kernel
theorem dX3_strict_8 : decode cX3_strict 8 = .ok (.iload_n 3, 1) := by decide +kernel
theorem dX3_strict_9 : decode cX3_strict 9 = .ok (.iload_n 2, 1) := by decide +kernel
theorem dX3_strict_10 : decode cX3_strict 10 = .ok (.invokevirtual 48, 3) := by decide +kernel
theorem dX3_strict_13 : decode cX3_strict 13 = .ok (.ifCond .eq 5, 3) := by decide +kernel
theorem dX3_strict_16 : decode cX3_strict 16 = .ok (.iload_n 3, 1) := by decide +kernel
theorem dX3_strict_17 : decode cX3_strict 17 = .ok (.ireturn, 1) := by decide +kernel
theorem dX3_strict_18 : decode cX3_strict 18 = .ok (.iinc 3 (-1), 3) := by decide +kernel
theorem dX3_strict_21 : decode cX3_strict 21 = .ok (.goto (-19), 3) := by decide +kernel
theorem dX3_strict_24 : decode cX3_strict 24 = .ok (.sipush (-900), 3) := by decide +kernel
theorem dX3_strict_27 : decode cX3_strict 27 = .ok (.ireturn, 1) := by decide +kernel
theorem dX3_filled_0 : decode cX3_filled 0 = .ok (.aload_n 0, 1) := by decide +kernel
theorem dX3_filled_1 : decode cX3_filled 1 = .ok (.iload_n 1, 1) := by decide +kernel
theorem dX3_filled_2 : decode cX3_filled 2 = .ok (.iload_n 2, 1) := by decide +kernel
theorem dX3_filled_3 : decode cX3_filled 3 = .ok (.invokevirtual 51, 3) := by decide +kernel
theorem dX3_filled_6 : decode cX3_filled 6 = .ok (.istore_n 3, 1) := by decide +kernel
theorem dX3_filled_7 : decode cX3_filled 7 = .ok (.iconst 3, 1) := by decide +kernel
theorem dX3_filled_8 : decode cX3_filled 8 = .ok (.istore 4, 2) := by decide +kernel
theorem dX3_filled_10 : decode cX3_filled 10 = .ok (.iload 4, 2) := by decide +kernel
theorem dX3_filled_12 : decode cX3_filled 12 = .ok (.ifCond .lt 59, 3) := by decide +kernel
theorem dX3_filled_15 : decode cX3_filled 15 = .ok (.iload_n 3, 1) := by decide +kernel
theorem dX3_filled_16 : decode cX3_filled 16 = .ok (.sipush (-900), 3) := by decide +kernel
theorem dX3_filled_19 : decode cX3_filled 19 = .ok (.if_icmp .ne 52, 3) := by decide +kernel
theorem dX3_filled_22 : decode cX3_filled 22 = .ok (.aload_n 0, 1) := by decide +kernel
theorem dX3_filled_23 : decode cX3_filled 23 = .ok (.getfield 19, 3) := by decide +kernel
theorem dX3_filled_26 : decode cX3_filled 26 = .ok (.iconst 4, 1) := by decide +kernel
theorem dX3_filled_27 : decode cX3_filled 27 = .ok (.iload_n 1, 1) := by decide +kernel
theorem dX3_filled_28 : decode cX3_filled 28 = .ok (.imul, 1) := by decide +kernel
theorem dX3_filled_29 : decode cX3_filled 29 = .ok (.iload 4, 2) := by decide +kernel
theorem dX3_filled_31 : decode cX3_filled 31 = .ok (.iadd, 1) := by decide +kernel
theorem dX3_filled_32 : decode cX3_filled 32 = .ok (.iaload, 1) := by decide +kernel
theorem dX3_filled_33 : decode cX3_filled 33 = .ok (.aload_n 0, 1) := by decide +kernel
theorem dX3_filled_34 : decode cX3_filled 34 = .ok (.getfield 22, 3) := by decide +kernel
theorem dX3_filled_37 : decode cX3_filled 37 = .ok (.iconst 4, 1) := by decide +kernel
theorem dX3_filled_38 : decode cX3_filled 38 = .ok (.iload_n 1, 1) := by decide +kernel
theorem dX3_filled_39 : decode cX3_filled 39 = .ok (.imul, 1) := by decide +kernel
theorem dX3_filled_40 : decode cX3_filled 40 = .ok (.iload 4, 2) := by decide +kernel
theorem dX3_filled_42 : decode cX3_filled 42 = .ok (.iadd, 1) := by decide +kernel
theorem dX3_filled_43 : decode cX3_filled 43 = .ok (.iaload, 1) := by decide +kernel
theorem dX3_filled_44 : decode cX3_filled 44 = .ok (.if_icmp .gt 21, 3) := by decide +kernel
theorem dX3_filled_47 : decode cX3_filled 47 = .ok (.aload_n 0, 1) := by decide +kernel
theorem dX3_filled_48 : decode cX3_filled 48 = .ok (.getfield 22, 3) := by decide +kernel
theorem dX3_filled_51 : decode cX3_filled 51 = .ok (.iconst 4, 1) := by decide +kernel
theorem dX3_filled_52 : decode cX3_filled 52 = .ok (.iload_n 1, 1) := by decide +kernel
theorem dX3_filled_53 : decode cX3_filled 53 = .ok (.imul, 1) := by decide +kernel
theorem dX3_filled_54 : decode cX3_filled 54 = .ok (.iload 4, 2) := by decide +kernel
theorem dX3_filled_56 : decode cX3_filled 56 = .ok (.iadd, 1) := by decide +kernel
theorem dX3_filled_57 : decode cX3_filled 57 = .ok (.iaload, 1) := by decide +kernel
theorem dX3_filled_58 : decode cX3_filled 58 = .ok (.iload_n 2, 1) := by decide +kernel
theorem dX3_filled_59 : decode cX3_filled 59 = .ok (.if_icmp .ge 6, 3) := by decide +kernel
theorem dX3_filled_62 : decode cX3_filled 62 = .ok (.iload 4, 2) := by decide +kernel
theorem dX3_filled_64 : decode cX3_filled 64 = .ok (.ireturn, 1) := by decide +kernel
theorem dX3_filled_65 : decode cX3_filled 65 = .ok (.iinc 4 (-1), 3) := by decide +kernel
theorem dX3_filled_68 : decode cX3_filled 68 = .ok (.goto (-58), 3) := by decide +kernel
theorem dX3_filled_71 : decode cX3_filled 71 = .ok (.iload_n 3, 1) := by decide +kernel
theorem dX3_filled_72 : decode cX3_filled 72 = .ok (.sipush (-900), 3) := by decide +kernel
theorem dX3_filled_75 : decode cX3_filled 75 = .ok (.if_icmp .ne 7, 3) := by decide +kernel
theorem dX3_filled_78 : decode cX3_filled 78 = .ok (.iconst 0, 1) := by decide +kernel
theorem dX3_filled_79 : decode cX3_filled 79 = .ok (.goto 4, 3) := by decide +kernel
theorem dX3_filled_82 : decode cX3_filled 82 = .ok (.iload_n 3, 1) := by decide +kernel
theorem dX3_filled_83 : decode cX3_filled 83 = .ok (.ireturn, 1) := by decide +kernel
theorem dX3_levelOf_0 : decode cX3_levelOf 0 = .ok (.aload_n 0, 1) := by decide +kernel
theorem dX3_levelOf_1 : decode cX3_levelOf 1 = .ok (.getfield 7, 3) := by decide +kernel
theorem dX3_levelOf_4 : decode cX3_levelOf 4 = .ok (.iload_n 1, 1) := by decide +kernel
theorem dX3_levelOf_5 : decode cX3_levelOf 5 = .ok (.iaload, 1) := by decide +kernel
theorem dX3_levelOf_6 : decode cX3_levelOf 6 = .ok (.ifCond .ne 10, 3) := by decide +kernel
theorem dX3_levelOf_9 : decode cX3_levelOf 9 = .ok (.aload_n 0, 1) := by decide +kernel
theorem dX3_levelOf_10 : decode cX3_levelOf 10 = .ok (.iload_n 1, 1) := by decide +kernel
theorem dX3_levelOf_11 : decode cX3_levelOf 11 = .ok (.iload_n 2, 1) := by decide +kernel
theorem dX3_levelOf_12 : decode cX3_levelOf 12 = .ok (.invokevirtual 51, 3) := by decide +kernel
theorem dX3_levelOf_15 : decode cX3_levelOf 15 = .ok (.ireturn, 1) := by decide +kernel
theorem dX3_levelOf_16 : decode cX3_levelOf 16 = .ok (.aload_n 0, 1) := by decide +kernel
theorem dX3_levelOf_17 : decode cX3_levelOf 17 = .ok (.iload_n 1, 1) := by decide +kernel
theorem dX3_levelOf_18 : decode cX3_levelOf 18 = .ok (.iload_n 2, 1) := by decide +kernel
theorem dX3_levelOf_19 : decode cX3_levelOf 19 = .ok (.invokevirtual 55, 3) := by decide +kernel
theorem dX3_levelOf_22 : decode cX3_levelOf 22 = .ok (.istore_n 3, 1) := by decide +kernel
theorem dX3_levelOf_23 : decode cX3_levelOf 23 = .ok (.aload_n 0, 1) := by decide +kernel
theorem dX3_levelOf_24 : decode cX3_levelOf 24 = .ok (.getfield 7, 3) := by decide +kernel
theorem dX3_levelOf_27 : decode cX3_levelOf 27 = .ok (.iload_n 1, 1) := by decide +kernel
theorem dX3_levelOf_28 : decode cX3_levelOf 28 = .ok (.iaload, 1) := by decide +kernel
theorem dX3_levelOf_29 : decode cX3_levelOf 29 = .ok (.iconst 2, 1) := by decide +kernel
theorem dX3_levelOf_30 : decode cX3_levelOf 30 = .ok (.if_icmp .ne 31, 3) := by decide +kernel
theorem dX3_levelOf_33 : decode cX3_levelOf 33 = .ok (.aload_n 0, 1) := by decide +kernel
theorem dX3_levelOf_34 : decode cX3_levelOf 34 = .ok (.iload_n 1, 1) := by decide +kernel
theorem dX3_levelOf_35 : decode cX3_levelOf 35 = .ok (.iload_n 3, 1) := by decide +kernel
theorem dX3_levelOf_36 : decode cX3_levelOf 36 = .ok (.iload_n 2, 1) := by decide +kernel
theorem dX3_levelOf_37 : decode cX3_levelOf 37 = .ok (.invokevirtual 48, 3) := by decide +kernel
theorem dX3_levelOf_40 : decode cX3_levelOf 40 = .ok (.ifCond .eq 21, 3) := by decide +kernel
theorem dX3_levelOf_43 : decode cX3_levelOf 43 = .ok (.aload_n 0, 1) := by decide +kernel
theorem dX3_levelOf_44 : decode cX3_levelOf 44 = .ok (.getfield 22, 3) := by decide +kernel
theorem dX3_levelOf_47 : decode cX3_levelOf 47 = .ok (.iconst 4, 1) := by decide +kernel
theorem dX3_levelOf_48 : decode cX3_levelOf 48 = .ok (.iload_n 1, 1) := by decide +kernel
theorem dX3_levelOf_49 : decode cX3_levelOf 49 = .ok (.imul, 1) := by decide +kernel
theorem dX3_levelOf_50 : decode cX3_levelOf 50 = .ok (.iload_n 3, 1) := by decide +kernel
theorem dX3_levelOf_51 : decode cX3_levelOf 51 = .ok (.iadd, 1) := by decide +kernel
theorem dX3_levelOf_52 : decode cX3_levelOf 52 = .ok (.iaload, 1) := by decide +kernel
theorem dX3_levelOf_53 : decode cX3_levelOf 53 = .ok (.iload_n 2, 1) := by decide +kernel
theorem dX3_levelOf_54 : decode cX3_levelOf 54 = .ok (.if_icmp .ne 7, 3) := by decide +kernel
theorem dX3_levelOf_57 : decode cX3_levelOf 57 = .ok (.iconst 1, 1) := by decide +kernel
theorem dX3_levelOf_58 : decode cX3_levelOf 58 = .ok (.goto 4, 3) := by decide +kernel
theorem dX3_levelOf_61 : decode cX3_levelOf 61 = .ok (.iconst 0, 1) := by decide +kernel
theorem dX3_levelOf_62 : decode cX3_levelOf 62 = .ok (.istore 4, 2) := by decide +kernel
theorem dX3_levelOf_64 : decode cX3_levelOf 64 = .ok (.iload 4, 2) := by decide +kernel
theorem dX3_levelOf_66 : decode cX3_levelOf 66 = .ok (.ifCond .eq 14, 3) := by decide +kernel
theorem dX3_levelOf_69 : decode cX3_levelOf 69 = .ok (.iload_n 3, 1) := by decide +kernel
theorem dX3_levelOf_70 : decode cX3_levelOf 70 = .ok (.iconst 3, 1) := by decide +kernel
theorem dX3_levelOf_71 : decode cX3_levelOf 71 = .ok (.if_icmp .ge 9, 3) := by decide +kernel
theorem dX3_levelOf_74 : decode cX3_levelOf 74 = .ok (.iload_n 3, 1) := by decide +kernel
theorem dX3_levelOf_75 : decode cX3_levelOf 75 = .ok (.iconst 1, 1) := by decide +kernel
theorem dX3_levelOf_76 : decode cX3_levelOf 76 = .ok (.iadd, 1) := by decide +kernel
theorem dX3_levelOf_77 : decode cX3_levelOf 77 = .ok (.goto 4, 3) := by decide +kernel
theorem dX3_levelOf_80 : decode cX3_levelOf 80 = .ok (.iload_n 3, 1) := by decide +kernel
theorem dX3_levelOf_81 : decode cX3_levelOf 81 = .ok (.ireturn, 1) := by decide +kernel
theorem dX3_level_0 : decode cX3_level 0 = .ok (.iload_n 1, 1) := by decide +kernel
theorem dX3_level_1 : decode cX3_level 1 = .ok (.iload_n 2, 1) := by decide +kernel
theorem dX3_level_2 : decode cX3_level 2 = .ok (.invokestatic 44, 3) := by decide +kernel
theorem dX3_level_5 : decode cX3_level 5 = .ok (.ifCond .eq 13, 3) := by decide +kernel
theorem dX3_level_8 : decode cX3_level 8 = .ok (.iload_n 3, 1) := by decide +kernel
theorem dX3_level_9 : decode cX3_level 9 = .ok (.iconst 0, 1) := by decide +kernel
theorem dX3_level_10 : decode cX3_level 10 = .ok (.bipush 9, 2) := by decide +kernel
theorem dX3_level_12 : decode cX3_level 12 = .ok (.invokestatic 40, 3) := by decide +kernel
theorem dX3_level_15 : decode cX3_level 15 = .ok (.ifCond .ne 6, 3) := by decide +kernel
theorem dX3_level_18 : decode cX3_level 18 = .ok (.bipush (-100), 2) := by decide +kernel
theorem dX3_level_20 : decode cX3_level 20 = .ok (.ireturn, 1) := by decide +kernel
theorem dX3_level_21 : decode cX3_level 21 = .ok (.iconst 4, 1) := by decide +kernel
theorem dX3_level_22 : decode cX3_level 22 = .ok (.iload_n 1, 1) := by decide +kernel
theorem dX3_level_23 : decode cX3_level 23 = .ok (.imul, 1) := by decide +kernel
theorem dX3_level_24 : decode cX3_level 24 = .ok (.iload_n 2, 1) := by decide +kernel
theorem dX3_level_25 : decode cX3_level 25 = .ok (.iadd, 1) := by decide +kernel
theorem dX3_level_26 : decode cX3_level 26 = .ok (.istore 4, 2) := by decide +kernel
theorem dX3_level_28 : decode cX3_level 28 = .ok (.aload_n 0, 1) := by decide +kernel
theorem dX3_level_29 : decode cX3_level 29 = .ok (.dup, 1) := by decide +kernel
theorem dX3_level_30 : decode cX3_level 30 = .ok (.getfield 58, 3) := by decide +kernel
theorem dX3_level_33 : decode cX3_level 33 = .ok (.aload_n 0, 1) := by decide +kernel
theorem dX3_level_34 : decode cX3_level 34 = .ok (.getfield 7, 3) := by decide +kernel
theorem dX3_level_37 : decode cX3_level 37 = .ok (.iload 4, 2) := by decide +kernel
theorem dX3_level_39 : decode cX3_level 39 = .ok (.iaload, 1) := by decide +kernel
theorem dX3_level_40 : decode cX3_level 40 = .ok (.ifCond .ne 7, 3) := by decide +kernel
theorem dX3_level_43 : decode cX3_level 43 = .ok (.lconst 1, 1) := by decide +kernel
theorem dX3_level_44 : decode cX3_level 44 = .ok (.goto 23, 3) := by decide +kernel
theorem dX3_level_47 : decode cX3_level 47 = .ok (.aload_n 0, 1) := by decide +kernel
theorem dX3_level_48 : decode cX3_level 48 = .ok (.getfield 7, 3) := by decide +kernel
theorem dX3_level_51 : decode cX3_level 51 = .ok (.iload 4, 2) := by decide +kernel
theorem dX3_level_53 : decode cX3_level 53 = .ok (.iaload, 1) := by decide +kernel
theorem dX3_level_54 : decode cX3_level 54 = .ok (.iconst 1, 1) := by decide +kernel
theorem dX3_level_55 : decode cX3_level 55 = .ok (.if_icmp .ne 9, 3) := by decide +kernel
end
section
theorem dX3_level_58 : decode cX3_level 58 = .ok (.ldc2_w 62, 3) := by decide +kernel
theorem dX3_level_61 : decode cX3_level 61 = .ok (.goto 6, 3) := by decide +kernel
theorem dX3_level_64 : decode cX3_level 64 = .ok (.ldc2_w 64, 3) := by decide +kernel
theorem dX3_level_67 : decode cX3_level 67 = .ok (.ladd, 1) := by decide +kernel
theorem dX3_level_68 : decode cX3_level 68 = .ok (.putfield 58, 3) := by decide +kernel
theorem dX3_level_71 : decode cX3_level 71 = .ok (.aload_n 0, 1) := by decide +kernel
theorem dX3_level_72 : decode cX3_level 72 = .ok (.iload 4, 2) := by decide +kernel
theorem dX3_level_74 : decode cX3_level 74 = .ok (.iload_n 3, 1) := by decide +kernel
theorem dX3_level_75 : decode cX3_level 75 = .ok (.invokevirtual 66, 3) := by decide +kernel
theorem dX3_level_78 : decode cX3_level 78 = .ok (.ireturn, 1) := by decide +kernel
theorem dX3_senseOf_0 : decode cX3_senseOf 0 = .ok (.iconst 0, 1) := by decide +kernel
theorem dX3_senseOf_1 : decode cX3_senseOf 1 = .ok (.istore_n 3, 1) := by decide +kernel
theorem dX3_senseOf_2 : decode cX3_senseOf 2 = .ok (.iconst 0, 1) := by decide +kernel
theorem dX3_senseOf_3 : decode cX3_senseOf 3 = .ok (.istore 4, 2) := by decide +kernel
theorem dX3_senseOf_5 : decode cX3_senseOf 5 = .ok (.iload 4, 2) := by decide +kernel
theorem dX3_senseOf_7 : decode cX3_senseOf 7 = .ok (.bipush 10, 2) := by decide +kernel
theorem dX3_senseOf_9 : decode cX3_senseOf 9 = .ok (.if_icmp .ge 79, 3) := by decide +kernel
theorem dX3_senseOf_12 : decode cX3_senseOf 12 = .ok (.iconst 0, 1) := by decide +kernel
theorem dX3_senseOf_13 : decode cX3_senseOf 13 = .ok (.istore 5, 2) := by decide +kernel
theorem dX3_senseOf_15 : decode cX3_senseOf 15 = .ok (.iconst 0, 1) := by decide +kernel
theorem dX3_senseOf_16 : decode cX3_senseOf 16 = .ok (.istore 6, 2) := by decide +kernel
theorem dX3_senseOf_18 : decode cX3_senseOf 18 = .ok (.iload 6, 2) := by decide +kernel
theorem dX3_senseOf_20 : decode cX3_senseOf 20 = .ok (.iconst 4, 1) := by decide +kernel
theorem dX3_senseOf_21 : decode cX3_senseOf 21 = .ok (.if_icmp .ge 31, 3) := by decide +kernel
theorem dX3_senseOf_24 : decode cX3_senseOf 24 = .ok (.iload 5, 2) := by decide +kernel
theorem dX3_senseOf_26 : decode cX3_senseOf 26 = .ok (.aload_n 0, 1) := by decide +kernel
theorem dX3_senseOf_27 : decode cX3_senseOf 27 = .ok (.iload_n 1, 1) := by decide +kernel
theorem dX3_senseOf_28 : decode cX3_senseOf 28 = .ok (.iload 6, 2) := by decide +kernel
theorem dX3_senseOf_30 : decode cX3_senseOf 30 = .ok (.iload 4, 2) := by decide +kernel
theorem dX3_senseOf_32 : decode cX3_senseOf 32 = .ok (.invokevirtual 48, 3) := by decide +kernel
theorem dX3_senseOf_35 : decode cX3_senseOf 35 = .ok (.ifCond .eq 7, 3) := by decide +kernel
theorem dX3_senseOf_38 : decode cX3_senseOf 38 = .ok (.iconst 1, 1) := by decide +kernel
theorem dX3_senseOf_39 : decode cX3_senseOf 39 = .ok (.goto 4, 3) := by decide +kernel
theorem dX3_senseOf_42 : decode cX3_senseOf 42 = .ok (.iconst 0, 1) := by decide +kernel
theorem dX3_senseOf_43 : decode cX3_senseOf 43 = .ok (.iadd, 1) := by decide +kernel
theorem dX3_senseOf_44 : decode cX3_senseOf 44 = .ok (.istore 5, 2) := by decide +kernel
theorem dX3_senseOf_46 : decode cX3_senseOf 46 = .ok (.iinc 6 1, 3) := by decide +kernel
theorem dX3_senseOf_49 : decode cX3_senseOf 49 = .ok (.goto (-31), 3) := by decide +kernel
theorem dX3_senseOf_52 : decode cX3_senseOf 52 = .ok (.iload_n 3, 1) := by decide +kernel
theorem dX3_senseOf_53 : decode cX3_senseOf 53 = .ok (.iload_n 2, 1) := by decide +kernel
theorem dX3_senseOf_54 : decode cX3_senseOf 54 = .ok (.ifCond .eq 8, 3) := by decide +kernel
theorem dX3_senseOf_57 : decode cX3_senseOf 57 = .ok (.iload 5, 2) := by decide +kernel
theorem dX3_senseOf_59 : decode cX3_senseOf 59 = .ok (.ifCond .eq 13, 3) := by decide +kernel
theorem dX3_senseOf_62 : decode cX3_senseOf 62 = .ok (.iload_n 2, 1) := by decide +kernel
theorem dX3_senseOf_63 : decode cX3_senseOf 63 = .ok (.ifCond .ne 16, 3) := by decide +kernel
theorem dX3_senseOf_66 : decode cX3_senseOf 66 = .ok (.iload 5, 2) := by decide +kernel
theorem dX3_senseOf_68 : decode cX3_senseOf 68 = .ok (.iconst 1, 1) := by decide +kernel
theorem dX3_senseOf_69 : decode cX3_senseOf 69 = .ok (.if_icmp .le 10, 3) := by decide +kernel
theorem dX3_senseOf_72 : decode cX3_senseOf 72 = .ok (.iconst 1, 1) := by decide +kernel
theorem dX3_senseOf_73 : decode cX3_senseOf 73 = .ok (.iload 4, 2) := by decide +kernel
theorem dX3_senseOf_75 : decode cX3_senseOf 75 = .ok (.ishl, 1) := by decide +kernel
theorem dX3_senseOf_76 : decode cX3_senseOf 76 = .ok (.goto 4, 3) := by decide +kernel
theorem dX3_senseOf_79 : decode cX3_senseOf 79 = .ok (.iconst 0, 1) := by decide +kernel
theorem dX3_senseOf_80 : decode cX3_senseOf 80 = .ok (.ior, 1) := by decide +kernel
theorem dX3_senseOf_81 : decode cX3_senseOf 81 = .ok (.istore_n 3, 1) := by decide +kernel
theorem dX3_senseOf_82 : decode cX3_senseOf 82 = .ok (.iinc 4 1, 3) := by decide +kernel
theorem dX3_senseOf_85 : decode cX3_senseOf 85 = .ok (.goto (-80), 3) := by decide +kernel
theorem dX3_senseOf_88 : decode cX3_senseOf 88 = .ok (.iload_n 3, 1) := by decide +kernel
theorem dX3_senseOf_89 : decode cX3_senseOf 89 = .ok (.ireturn, 1) := by decide +kernel
theorem dX3_sense_0 : decode cX3_sense 0 = .ok (.iload_n 1, 1) := by decide +kernel
theorem dX3_sense_1 : decode cX3_sense 1 = .ok (.iload_n 2, 1) := by decide +kernel
theorem dX3_sense_2 : decode cX3_sense 2 = .ok (.invokestatic 44, 3) := by decide +kernel
theorem dX3_sense_5 : decode cX3_sense 5 = .ok (.ifCond .eq 33, 3) := by decide +kernel
theorem dX3_sense_8 : decode cX3_sense 8 = .ok (.iload_n 3, 1) := by decide +kernel
theorem dX3_sense_9 : decode cX3_sense 9 = .ok (.iconst 0, 1) := by decide +kernel
theorem dX3_sense_10 : decode cX3_sense 10 = .ok (.iconst 1, 1) := by decide +kernel
theorem dX3_sense_11 : decode cX3_sense 11 = .ok (.invokestatic 40, 3) := by decide +kernel
theorem dX3_sense_14 : decode cX3_sense 14 = .ok (.ifCond .eq 24, 3) := by decide +kernel
theorem dX3_sense_17 : decode cX3_sense 17 = .ok (.aload_n 0, 1) := by decide +kernel
theorem dX3_sense_18 : decode cX3_sense 18 = .ok (.iconst 4, 1) := by decide +kernel
theorem dX3_sense_19 : decode cX3_sense 19 = .ok (.iload_n 1, 1) := by decide +kernel
theorem dX3_sense_20 : decode cX3_sense 20 = .ok (.imul, 1) := by decide +kernel
theorem dX3_sense_21 : decode cX3_sense 21 = .ok (.iload_n 2, 1) := by decide +kernel
theorem dX3_sense_22 : decode cX3_sense 22 = .ok (.iadd, 1) := by decide +kernel
theorem dX3_sense_23 : decode cX3_sense 23 = .ok (.iload_n 3, 1) := by decide +kernel
theorem dX3_sense_24 : decode cX3_sense 24 = .ok (.ifCond .ne 7, 3) := by decide +kernel
theorem dX3_sense_27 : decode cX3_sense 27 = .ok (.iconst 1, 1) := by decide +kernel
theorem dX3_sense_28 : decode cX3_sense 28 = .ok (.goto 4, 3) := by decide +kernel
theorem dX3_sense_31 : decode cX3_sense 31 = .ok (.iconst 0, 1) := by decide +kernel
theorem dX3_sense_32 : decode cX3_sense 32 = .ok (.invokevirtual 69, 3) := by decide +kernel
theorem dX3_sense_35 : decode cX3_sense 35 = .ok (.goto 5, 3) := by decide +kernel
theorem dX3_sense_38 : decode cX3_sense 38 = .ok (.bipush (-100), 2) := by decide +kernel
theorem dX3_sense_40 : decode cX3_sense 40 = .ok (.ireturn, 1) := by decide +kernel
theorem dX3_isSensible_0 : decode cX3_isSensible 0 = .ok (.aload_n 0, 1) := by decide +kernel
theorem dX3_isSensible_1 : decode cX3_isSensible 1 = .ok (.iload_n 1, 1) := by decide +kernel
theorem dX3_isSensible_2 : decode cX3_isSensible 2 = .ok (.iconst 1, 1) := by decide +kernel
theorem dX3_isSensible_3 : decode cX3_isSensible 3 = .ok (.invokevirtual 69, 3) := by decide +kernel
theorem dX3_isSensible_6 : decode cX3_isSensible 6 = .ok (.ifCond .ne 16, 3) := by decide +kernel
theorem dX3_isSensible_9 : decode cX3_isSensible 9 = .ok (.aload_n 0, 1) := by decide +kernel
theorem dX3_isSensible_10 : decode cX3_isSensible 10 = .ok (.iload_n 1, 1) := by decide +kernel
theorem dX3_isSensible_11 : decode cX3_isSensible 11 = .ok (.iconst 0, 1) := by decide +kernel
theorem dX3_isSensible_12 : decode cX3_isSensible 12 = .ok (.invokevirtual 69, 3) := by decide +kernel
theorem dX3_isSensible_15 : decode cX3_isSensible 15 = .ok (.ifCond .ne 7, 3) := by decide +kernel
theorem dX3_isSensible_18 : decode cX3_isSensible 18 = .ok (.iconst 1, 1) := by decide +kernel
theorem dX3_isSensible_19 : decode cX3_isSensible 19 = .ok (.goto 4, 3) := by decide +kernel
theorem dX3_isSensible_22 : decode cX3_isSensible 22 = .ok (.iconst 0, 1) := by decide +kernel
theorem dX3_isSensible_23 : decode cX3_isSensible 23 = .ok (.istore_n 2, 1) := by decide +kernel
theorem dX3_isSensible_24 : decode cX3_isSensible 24 = .ok (.iconst 1, 1) := by decide +kernel
theorem dX3_isSensible_25 : decode cX3_isSensible 25 = .ok (.istore_n 3, 1) := by decide +kernel
theorem dX3_isSensible_26 : decode cX3_isSensible 26 = .ok (.iload_n 3, 1) := by decide +kernel
theorem dX3_isSensible_27 : decode cX3_isSensible 27 = .ok (.bipush 10, 2) := by decide +kernel
theorem dX3_isSensible_29 : decode cX3_isSensible 29 = .ok (.if_icmp .ge 36, 3) := by decide +kernel
theorem dX3_isSensible_32 : decode cX3_isSensible 32 = .ok (.iload_n 2, 1) := by decide +kernel
theorem dX3_isSensible_33 : decode cX3_isSensible 33 = .ok (.ifCond .eq 32, 3) := by decide +kernel
theorem dX3_isSensible_36 : decode cX3_isSensible 36 = .ok (.aload_n 0, 1) := by decide +kernel
theorem dX3_isSensible_37 : decode cX3_isSensible 37 = .ok (.iload_n 1, 1) := by decide +kernel
theorem dX3_isSensible_38 : decode cX3_isSensible 38 = .ok (.iload_n 3, 1) := by decide +kernel
theorem dX3_isSensible_39 : decode cX3_isSensible 39 = .ok (.invokevirtual 66, 3) := by decide +kernel
theorem dX3_isSensible_42 : decode cX3_isSensible 42 = .ok (.aload_n 0, 1) := by decide +kernel
theorem dX3_isSensible_43 : decode cX3_isSensible 43 = .ok (.iload_n 1, 1) := by decide +kernel
theorem dX3_isSensible_44 : decode cX3_isSensible 44 = .ok (.iload_n 3, 1) := by decide +kernel
theorem dX3_isSensible_45 : decode cX3_isSensible 45 = .ok (.iconst 1, 1) := by decide +kernel
theorem dX3_isSensible_46 : decode cX3_isSensible 46 = .ok (.isub, 1) := by decide +kernel
theorem dX3_isSensible_47 : decode cX3_isSensible 47 = .ok (.invokevirtual 66, 3) := by decide +kernel
theorem dX3_isSensible_50 : decode cX3_isSensible 50 = .ok (.if_icmp .lt 7, 3) := by decide +kernel
theorem dX3_isSensible_53 : decode cX3_isSensible 53 = .ok (.iconst 1, 1) := by decide +kernel
theorem dX3_isSensible_54 : decode cX3_isSensible 54 = .ok (.goto 4, 3) := by decide +kernel
theorem dX3_isSensible_57 : decode cX3_isSensible 57 = .ok (.iconst 0, 1) := by decide +kernel
theorem dX3_isSensible_58 : decode cX3_isSensible 58 = .ok (.istore_n 2, 1) := by decide +kernel
theorem dX3_isSensible_59 : decode cX3_isSensible 59 = .ok (.iinc 3 1, 3) := by decide +kernel
theorem dX3_isSensible_62 : decode cX3_isSensible 62 = .ok (.goto (-36), 3) := by decide +kernel
theorem dX3_isSensible_65 : decode cX3_isSensible 65 = .ok (.iload_n 2, 1) := by decide +kernel
theorem dX3_isSensible_66 : decode cX3_isSensible 66 = .ok (.ireturn, 1) := by decide +kernel
theorem dX3_sensible_0 : decode cX3_sensible 0 = .ok (.iload_n 1, 1) := by decide +kernel
theorem dX3_sensible_1 : decode cX3_sensible 1 = .ok (.iload_n 2, 1) := by decide +kernel
theorem dX3_sensible_2 : decode cX3_sensible 2 = .ok (.invokestatic 44, 3) := by decide +kernel
theorem dX3_sensible_5 : decode cX3_sensible 5 = .ok (.ifCond .ne 8, 3) := by decide +kernel
theorem dX3_sensible_8 : decode cX3_sensible 8 = .ok (.bipush (-100), 2) := by decide +kernel
theorem dX3_sensible_10 : decode cX3_sensible 10 = .ok (.goto 20, 3) := by decide +kernel
theorem dX3_sensible_13 : decode cX3_sensible 13 = .ok (.aload_n 0, 1) := by decide +kernel
theorem dX3_sensible_14 : decode cX3_sensible 14 = .ok (.iconst 4, 1) := by decide +kernel
theorem dX3_sensible_15 : decode cX3_sensible 15 = .ok (.iload_n 1, 1) := by decide +kernel
theorem dX3_sensible_16 : decode cX3_sensible 16 = .ok (.imul, 1) := by decide +kernel
theorem dX3_sensible_17 : decode cX3_sensible 17 = .ok (.iload_n 2, 1) := by decide +kernel
theorem dX3_sensible_18 : decode cX3_sensible 18 = .ok (.iadd, 1) := by decide +kernel
theorem dX3_sensible_19 : decode cX3_sensible 19 = .ok (.invokevirtual 73, 3) := by decide +kernel
theorem dX3_sensible_22 : decode cX3_sensible 22 = .ok (.ifCond .eq 7, 3) := by decide +kernel
theorem dX3_sensible_25 : decode cX3_sensible 25 = .ok (.iconst 1, 1) := by decide +kernel
theorem dX3_sensible_26 : decode cX3_sensible 26 = .ok (.goto 4, 3) := by decide +kernel
theorem dX3_sensible_29 : decode cX3_sensible 29 = .ok (.iconst 0, 1) := by decide +kernel
theorem dX3_sensible_30 : decode cX3_sensible 30 = .ok (.ireturn, 1) := by decide +kernel
theorem dX3_isWork_0 : decode cX3_isWork 0 = .ok (.iload_n 1, 1) := by decide +kernel
theorem dX3_isWork_1 : decode cX3_isWork 1 = .ok (.iconst 0, 1) := by decide +kernel
theorem dX3_isWork_2 : decode cX3_isWork 2 = .ok (.aload_n 0, 1) := by decide +kernel
theorem dX3_isWork_3 : decode cX3_isWork 3 = .ok (.getfield 77, 3) := by decide +kernel
theorem dX3_isWork_6 : decode cX3_isWork 6 = .ok (.iconst 1, 1) := by decide +kernel
theorem dX3_isWork_7 : decode cX3_isWork 7 = .ok (.isub, 1) := by decide +kernel
theorem dX3_isWork_8 : decode cX3_isWork 8 = .ok (.invokestatic 40, 3) := by decide +kernel
theorem dX3_isWork_11 : decode cX3_isWork 11 = .ok (.ireturn, 1) := by decide +kernel
theorem dX3_isMarker_0 : decode cX3_isMarker 0 = .ok (.iload_n 0, 1) := by decide +kernel
theorem dX3_isMarker_1 : decode cX3_isMarker 1 = .ok (.iconst 0, 1) := by decide +kernel
theorem dX3_isMarker_2 : decode cX3_isMarker 2 = .ok (.iconst 2, 1) := by decide +kernel
theorem dX3_isMarker_3 : decode cX3_isMarker 3 = .ok (.invokestatic 40, 3) := by decide +kernel
theorem dX3_isMarker_6 : decode cX3_isMarker 6 = .ok (.ireturn, 1) := by decide +kernel
theorem dX3_work_0 : decode cX3_work 0 = .ok (.iload_n 1, 1) := by decide +kernel
theorem dX3_work_1 : decode cX3_work 1 = .ok (.iconst 0, 1) := by decide +kernel
theorem dX3_work_2 : decode cX3_work 2 = .ok (.bipush 9, 2) := by decide +kernel
theorem dX3_work_4 : decode cX3_work 4 = .ok (.invokestatic 40, 3) := by decide +kernel
theorem dX3_work_7 : decode cX3_work 7 = .ok (.ifCond .eq 34, 3) := by decide +kernel
theorem dX3_work_10 : decode cX3_work 10 = .ok (.iload_n 2, 1) := by decide +kernel
theorem dX3_work_11 : decode cX3_work 11 = .ok (.iconst 0, 1) := by decide +kernel
theorem dX3_work_12 : decode cX3_work 12 = .ok (.bipush 9, 2) := by decide +kernel
theorem dX3_work_14 : decode cX3_work 14 = .ok (.invokestatic 40, 3) := by decide +kernel
theorem dX3_work_17 : decode cX3_work 17 = .ok (.ifCond .eq 24, 3) := by decide +kernel
theorem dX3_work_20 : decode cX3_work 20 = .ok (.iload_n 3, 1) := by decide +kernel
theorem dX3_work_21 : decode cX3_work 21 = .ok (.iconst 0, 1) := by decide +kernel
theorem dX3_work_22 : decode cX3_work 22 = .ok (.bipush 9, 2) := by decide +kernel
theorem dX3_work_24 : decode cX3_work 24 = .ok (.invokestatic 40, 3) := by decide +kernel
theorem dX3_work_27 : decode cX3_work 27 = .ok (.ifCond .eq 14, 3) := by decide +kernel
theorem dX3_work_30 : decode cX3_work 30 = .ok (.iload 4, 2) := by decide +kernel
theorem dX3_work_32 : decode cX3_work 32 = .ok (.iconst 0, 1) := by decide +kernel
theorem dX3_work_33 : decode cX3_work 33 = .ok (.bipush 9, 2) := by decide +kernel
theorem dX3_work_35 : decode cX3_work 35 = .ok (.invokestatic 40, 3) := by decide +kernel
theorem dX3_work_38 : decode cX3_work 38 = .ok (.ifCond .ne 6, 3) := by decide +kernel
theorem dX3_work_41 : decode cX3_work 41 = .ok (.bipush (-100), 2) := by decide +kernel
theorem dX3_work_43 : decode cX3_work 43 = .ok (.ireturn, 1) := by decide +kernel
theorem dX3_work_44 : decode cX3_work 44 = .ok (.aload_n 0, 1) := by decide +kernel
theorem dX3_work_45 : decode cX3_work 45 = .ok (.getfield 77, 3) := by decide +kernel
theorem dX3_work_48 : decode cX3_work 48 = .ok (.bipush 12, 2) := by decide +kernel
theorem dX3_work_50 : decode cX3_work 50 = .ok (.if_icmp .ne 7, 3) := by decide +kernel
theorem dX3_work_53 : decode cX3_work 53 = .ok (.sipush (-300), 3) := by decide +kernel
theorem dX3_work_56 : decode cX3_work 56 = .ok (.ireturn, 1) := by decide +kernel
theorem dX3_work_57 : decode cX3_work 57 = .ok (.aload_n 0, 1) := by decide +kernel
theorem dX3_work_58 : decode cX3_work 58 = .ok (.getfield 25, 3) := by decide +kernel
theorem dX3_work_61 : decode cX3_work 61 = .ok (.iconst 4, 1) := by decide +kernel
theorem dX3_work_62 : decode cX3_work 62 = .ok (.aload_n 0, 1) := by decide +kernel
theorem dX3_work_63 : decode cX3_work 63 = .ok (.getfield 77, 3) := by decide +kernel
theorem dX3_work_66 : decode cX3_work 66 = .ok (.imul, 1) := by decide +kernel
theorem dX3_work_67 : decode cX3_work 67 = .ok (.iload_n 1, 1) := by decide +kernel
theorem dX3_work_68 : decode cX3_work 68 = .ok (.iastore, 1) := by decide +kernel
theorem dX3_work_69 : decode cX3_work 69 = .ok (.aload_n 0, 1) := by decide +kernel
theorem dX3_work_70 : decode cX3_work 70 = .ok (.getfield 25, 3) := by decide +kernel
theorem dX3_work_73 : decode cX3_work 73 = .ok (.iconst 4, 1) := by decide +kernel
theorem dX3_work_74 : decode cX3_work 74 = .ok (.aload_n 0, 1) := by decide +kernel
theorem dX3_work_75 : decode cX3_work 75 = .ok (.getfield 77, 3) := by decide +kernel
theorem dX3_work_78 : decode cX3_work 78 = .ok (.imul, 1) := by decide +kernel
theorem dX3_work_79 : decode cX3_work 79 = .ok (.iconst 1, 1) := by decide +kernel
theorem dX3_work_80 : decode cX3_work 80 = .ok (.iadd, 1) := by decide +kernel
theorem dX3_work_81 : decode cX3_work 81 = .ok (.iload_n 2, 1) := by decide +kernel
theorem dX3_work_82 : decode cX3_work 82 = .ok (.iastore, 1) := by decide +kernel
theorem dX3_work_83 : decode cX3_work 83 = .ok (.aload_n 0, 1) := by decide +kernel
theorem dX3_work_84 : decode cX3_work 84 = .ok (.getfield 25, 3) := by decide +kernel
theorem dX3_work_87 : decode cX3_work 87 = .ok (.iconst 4, 1) := by decide +kernel
theorem dX3_work_88 : decode cX3_work 88 = .ok (.aload_n 0, 1) := by decide +kernel
theorem dX3_work_89 : decode cX3_work 89 = .ok (.getfield 77, 3) := by decide +kernel
theorem dX3_work_92 : decode cX3_work 92 = .ok (.imul, 1) := by decide +kernel
theorem dX3_work_93 : decode cX3_work 93 = .ok (.iconst 2, 1) := by decide +kernel
theorem dX3_work_94 : decode cX3_work 94 = .ok (.iadd, 1) := by decide +kernel
theorem dX3_work_95 : decode cX3_work 95 = .ok (.iload_n 3, 1) := by decide +kernel
theorem dX3_work_96 : decode cX3_work 96 = .ok (.iastore, 1) := by decide +kernel
theorem dX3_work_97 : decode cX3_work 97 = .ok (.aload_n 0, 1) := by decide +kernel
theorem dX3_work_98 : decode cX3_work 98 = .ok (.getfield 25, 3) := by decide +kernel
theorem dX3_work_101 : decode cX3_work 101 = .ok (.iconst 4, 1) := by decide +kernel
theorem dX3_work_102 : decode cX3_work 102 = .ok (.aload_n 0, 1) := by decide +kernel
theorem dX3_work_103 : decode cX3_work 103 = .ok (.getfield 77, 3) := by decide +kernel
theorem dX3_work_106 : decode cX3_work 106 = .ok (.imul, 1) := by decide +kernel
theorem dX3_work_107 : decode cX3_work 107 = .ok (.iconst 3, 1) := by decide +kernel
theorem dX3_work_108 : decode cX3_work 108 = .ok (.iadd, 1) := by decide +kernel
theorem dX3_work_109 : decode cX3_work 109 = .ok (.iload 4, 2) := by decide +kernel
theorem dX3_work_111 : decode cX3_work 111 = .ok (.iastore, 1) := by decide +kernel
theorem dX3_work_112 : decode cX3_work 112 = .ok (.aload_n 0, 1) := by decide +kernel
theorem dX3_work_113 : decode cX3_work 113 = .ok (.dup, 1) := by decide +kernel
theorem dX3_work_114 : decode cX3_work 114 = .ok (.getfield 77, 3) := by decide +kernel
theorem dX3_work_117 : decode cX3_work 117 = .ok (.iconst 1, 1) := by decide +kernel
theorem dX3_work_118 : decode cX3_work 118 = .ok (.iadd, 1) := by decide +kernel
theorem dX3_work_119 : decode cX3_work 119 = .ok (.putfield 77, 3) := by decide +kernel
theorem dX3_work_122 : decode cX3_work 122 = .ok (.aload_n 0, 1) := by decide +kernel
theorem dX3_work_123 : decode cX3_work 123 = .ok (.getfield 77, 3) := by decide +kernel
theorem dX3_work_126 : decode cX3_work 126 = .ok (.iconst 1, 1) := by decide +kernel
theorem dX3_work_127 : decode cX3_work 127 = .ok (.isub, 1) := by decide +kernel
theorem dX3_work_128 : decode cX3_work 128 = .ok (.ireturn, 1) := by decide +kernel
theorem dX3_fact_0 : decode cX3_fact 0 = .ok (.aload_n 0, 1) := by decide +kernel
theorem dX3_fact_1 : decode cX3_fact 1 = .ok (.iload_n 1, 1) := by decide +kernel
theorem dX3_fact_2 : decode cX3_fact 2 = .ok (.invokevirtual 81, 3) := by decide +kernel
theorem dX3_fact_5 : decode cX3_fact 5 = .ok (.ifCond .eq 22, 3) := by decide +kernel
theorem dX3_fact_8 : decode cX3_fact 8 = .ok (.iload_n 2, 1) := by decide +kernel
theorem dX3_fact_9 : decode cX3_fact 9 = .ok (.iconst 0, 1) := by decide +kernel
theorem dX3_fact_10 : decode cX3_fact 10 = .ok (.iconst 3, 1) := by decide +kernel
theorem dX3_fact_11 : decode cX3_fact 11 = .ok (.invokestatic 40, 3) := by decide +kernel
theorem dX3_fact_14 : decode cX3_fact 14 = .ok (.ifCond .eq 13, 3) := by decide +kernel
theorem dX3_fact_17 : decode cX3_fact 17 = .ok (.iload_n 3, 1) := by decide +kernel
theorem dX3_fact_18 : decode cX3_fact 18 = .ok (.iconst 0, 1) := by decide +kernel
theorem dX3_fact_19 : decode cX3_fact 19 = .ok (.bipush 9, 2) := by decide +kernel
theorem dX3_fact_21 : decode cX3_fact 21 = .ok (.invokestatic 40, 3) := by decide +kernel
theorem dX3_fact_24 : decode cX3_fact 24 = .ok (.ifCond .ne 6, 3) := by decide +kernel
theorem dX3_fact_27 : decode cX3_fact 27 = .ok (.bipush (-100), 2) := by decide +kernel
theorem dX3_fact_29 : decode cX3_fact 29 = .ok (.ireturn, 1) := by decide +kernel
theorem dX3_fact_30 : decode cX3_fact 30 = .ok (.aload_n 0, 1) := by decide +kernel
theorem dX3_fact_31 : decode cX3_fact 31 = .ok (.getfield 25, 3) := by decide +kernel
theorem dX3_fact_34 : decode cX3_fact 34 = .ok (.iconst 4, 1) := by decide +kernel
theorem dX3_fact_35 : decode cX3_fact 35 = .ok (.iload_n 1, 1) := by decide +kernel
theorem dX3_fact_36 : decode cX3_fact 36 = .ok (.imul, 1) := by decide +kernel
theorem dX3_fact_37 : decode cX3_fact 37 = .ok (.iload_n 2, 1) := by decide +kernel
theorem dX3_fact_38 : decode cX3_fact 38 = .ok (.iadd, 1) := by decide +kernel
theorem dX3_fact_39 : decode cX3_fact 39 = .ok (.iaload, 1) := by decide +kernel
theorem dX3_fact_40 : decode cX3_fact 40 = .ok (.istore 4, 2) := by decide +kernel
theorem dX3_fact_42 : decode cX3_fact 42 = .ok (.aload_n 0, 1) := by decide +kernel
theorem dX3_fact_43 : decode cX3_fact 43 = .ok (.getfield 25, 3) := by decide +kernel
theorem dX3_fact_46 : decode cX3_fact 46 = .ok (.iconst 4, 1) := by decide +kernel
theorem dX3_fact_47 : decode cX3_fact 47 = .ok (.iload_n 1, 1) := by decide +kernel
theorem dX3_fact_48 : decode cX3_fact 48 = .ok (.imul, 1) := by decide +kernel
theorem dX3_fact_49 : decode cX3_fact 49 = .ok (.iload_n 2, 1) := by decide +kernel
theorem dX3_fact_50 : decode cX3_fact 50 = .ok (.iadd, 1) := by decide +kernel
theorem dX3_fact_51 : decode cX3_fact 51 = .ok (.iload_n 3, 1) := by decide +kernel
theorem dX3_fact_52 : decode cX3_fact 52 = .ok (.iastore, 1) := by decide +kernel
theorem dX3_fact_53 : decode cX3_fact 53 = .ok (.iload 4, 2) := by decide +kernel
theorem dX3_fact_55 : decode cX3_fact 55 = .ok (.ireturn, 1) := by decide +kernel
theorem dX3_pointsOf_0 : decode cX3_pointsOf 0 = .ok (.iconst 0, 1) := by decide +kernel
theorem dX3_pointsOf_1 : decode cX3_pointsOf 1 = .ok (.istore_n 3, 1) := by decide +kernel
theorem dX3_pointsOf_2 : decode cX3_pointsOf 2 = .ok (.iconst 4, 1) := by decide +kernel
theorem dX3_pointsOf_3 : decode cX3_pointsOf 3 = .ok (.iload_n 1, 1) := by decide +kernel
theorem dX3_pointsOf_4 : decode cX3_pointsOf 4 = .ok (.imul, 1) := by decide +kernel
theorem dX3_pointsOf_5 : decode cX3_pointsOf 5 = .ok (.istore 4, 2) := by decide +kernel
theorem dX3_pointsOf_7 : decode cX3_pointsOf 7 = .ok (.iload 4, 2) := by decide +kernel
theorem dX3_pointsOf_9 : decode cX3_pointsOf 9 = .ok (.iconst 4, 1) := by decide +kernel
theorem dX3_pointsOf_10 : decode cX3_pointsOf 10 = .ok (.iload_n 1, 1) := by decide +kernel
theorem dX3_pointsOf_11 : decode cX3_pointsOf 11 = .ok (.imul, 1) := by decide +kernel
theorem dX3_pointsOf_12 : decode cX3_pointsOf 12 = .ok (.iconst 4, 1) := by decide +kernel
theorem dX3_pointsOf_13 : decode cX3_pointsOf 13 = .ok (.iadd, 1) := by decide +kernel
theorem dX3_pointsOf_14 : decode cX3_pointsOf 14 = .ok (.if_icmp .ge 58, 3) := by decide +kernel
theorem dX3_pointsOf_17 : decode cX3_pointsOf 17 = .ok (.aload_n 0, 1) := by decide +kernel
theorem dX3_pointsOf_18 : decode cX3_pointsOf 18 = .ok (.iload 4, 2) := by decide +kernel
theorem dX3_pointsOf_20 : decode cX3_pointsOf 20 = .ok (.aload_n 0, 1) := by decide +kernel
theorem dX3_pointsOf_21 : decode cX3_pointsOf 21 = .ok (.getfield 25, 3) := by decide +kernel
theorem dX3_pointsOf_24 : decode cX3_pointsOf 24 = .ok (.iconst 4, 1) := by decide +kernel
theorem dX3_pointsOf_25 : decode cX3_pointsOf 25 = .ok (.iload_n 2, 1) := by decide +kernel
theorem dX3_pointsOf_26 : decode cX3_pointsOf 26 = .ok (.imul, 1) := by decide +kernel
theorem dX3_pointsOf_27 : decode cX3_pointsOf 27 = .ok (.aload_n 0, 1) := by decide +kernel
theorem dX3_pointsOf_28 : decode cX3_pointsOf 28 = .ok (.getfield 13, 3) := by decide +kernel
theorem dX3_pointsOf_31 : decode cX3_pointsOf 31 = .ok (.iload 4, 2) := by decide +kernel
theorem dX3_pointsOf_33 : decode cX3_pointsOf 33 = .ok (.iaload, 1) := by decide +kernel
theorem dX3_pointsOf_34 : decode cX3_pointsOf 34 = .ok (.iadd, 1) := by decide +kernel
theorem dX3_pointsOf_35 : decode cX3_pointsOf 35 = .ok (.iaload, 1) := by decide +kernel
theorem dX3_pointsOf_36 : decode cX3_pointsOf 36 = .ok (.invokevirtual 66, 3) := by decide +kernel
theorem dX3_pointsOf_39 : decode cX3_pointsOf 39 = .ok (.istore 5, 2) := by decide +kernel
theorem dX3_pointsOf_41 : decode cX3_pointsOf 41 = .ok (.iload_n 3, 1) := by decide +kernel
theorem dX3_pointsOf_42 : decode cX3_pointsOf 42 = .ok (.iload 5, 2) := by decide +kernel
theorem dX3_pointsOf_44 : decode cX3_pointsOf 44 = .ok (.sipush (-900), 3) := by decide +kernel
theorem dX3_pointsOf_47 : decode cX3_pointsOf 47 = .ok (.if_icmp .ne 7, 3) := by decide +kernel
theorem dX3_pointsOf_50 : decode cX3_pointsOf 50 = .ok (.iconst 0, 1) := by decide +kernel
theorem dX3_pointsOf_51 : decode cX3_pointsOf 51 = .ok (.goto 13, 3) := by decide +kernel
theorem dX3_pointsOf_54 : decode cX3_pointsOf 54 = .ok (.aload_n 0, 1) := by decide +kernel
theorem dX3_pointsOf_55 : decode cX3_pointsOf 55 = .ok (.getfield 16, 3) := by decide +kernel
theorem dX3_pointsOf_58 : decode cX3_pointsOf 58 = .ok (.iload 4, 2) := by decide +kernel
theorem dX3_pointsOf_60 : decode cX3_pointsOf 60 = .ok (.iaload, 1) := by decide +kernel
theorem dX3_pointsOf_61 : decode cX3_pointsOf 61 = .ok (.iload 5, 2) := by decide +kernel
theorem dX3_pointsOf_63 : decode cX3_pointsOf 63 = .ok (.imul, 1) := by decide +kernel
theorem dX3_pointsOf_64 : decode cX3_pointsOf 64 = .ok (.iadd, 1) := by decide +kernel
theorem dX3_pointsOf_65 : decode cX3_pointsOf 65 = .ok (.istore_n 3, 1) := by decide +kernel
theorem dX3_pointsOf_66 : decode cX3_pointsOf 66 = .ok (.iinc 4 1, 3) := by decide +kernel
theorem dX3_pointsOf_69 : decode cX3_pointsOf 69 = .ok (.goto (-62), 3) := by decide +kernel
theorem dX3_pointsOf_72 : decode cX3_pointsOf 72 = .ok (.iload_n 3, 1) := by decide +kernel
theorem dX3_pointsOf_73 : decode cX3_pointsOf 73 = .ok (.ireturn, 1) := by decide +kernel
theorem dX3_points_0 : decode cX3_points 0 = .ok (.iload_n 1, 1) := by decide +kernel
theorem dX3_points_1 : decode cX3_points 1 = .ok (.iconst 0, 1) := by decide +kernel
theorem dX3_points_2 : decode cX3_points 2 = .ok (.iconst 1, 1) := by decide +kernel
theorem dX3_points_3 : decode cX3_points 3 = .ok (.invokestatic 40, 3) := by decide +kernel
theorem dX3_points_6 : decode cX3_points 6 = .ok (.ifCond .eq 20, 3) := by decide +kernel
theorem dX3_points_9 : decode cX3_points 9 = .ok (.aload_n 0, 1) := by decide +kernel
theorem dX3_points_10 : decode cX3_points 10 = .ok (.iload_n 2, 1) := by decide +kernel
theorem dX3_points_11 : decode cX3_points 11 = .ok (.invokevirtual 81, 3) := by decide +kernel
theorem dX3_points_14 : decode cX3_points 14 = .ok (.ifCond .eq 12, 3) := by decide +kernel
theorem dX3_points_17 : decode cX3_points 17 = .ok (.aload_n 0, 1) := by decide +kernel
theorem dX3_points_18 : decode cX3_points 18 = .ok (.iload_n 1, 1) := by decide +kernel
theorem dX3_points_19 : decode cX3_points 19 = .ok (.iload_n 2, 1) := by decide +kernel
theorem dX3_points_20 : decode cX3_points 20 = .ok (.invokevirtual 84, 3) := by decide +kernel
theorem dX3_points_23 : decode cX3_points 23 = .ok (.goto 5, 3) := by decide +kernel
theorem dX3_points_26 : decode cX3_points 26 = .ok (.bipush (-100), 2) := by decide +kernel
theorem dX3_points_28 : decode cX3_points 28 = .ok (.ireturn, 1) := by decide +kernel
theorem dX3_isMark_0 : decode cX3_isMark 0 = .ok (.iload_n 0, 1) := by decide +kernel
theorem dX3_isMark_1 : decode cX3_isMark 1 = .ok (.sipush (-900), 3) := by decide +kernel
theorem dX3_isMark_4 : decode cX3_isMark 4 = .ok (.if_icmp .eq 12, 3) := by decide +kernel
theorem dX3_isMark_7 : decode cX3_isMark 7 = .ok (.iload_n 0, 1) := by decide +kernel
theorem dX3_isMark_8 : decode cX3_isMark 8 = .ok (.iconst 0, 1) := by decide +kernel
theorem dX3_isMark_9 : decode cX3_isMark 9 = .ok (.iconst 3, 1) := by decide +kernel
theorem dX3_isMark_10 : decode cX3_isMark 10 = .ok (.invokestatic 40, 3) := by decide +kernel
theorem dX3_isMark_13 : decode cX3_isMark 13 = .ok (.ifCond .eq 7, 3) := by decide +kernel
theorem dX3_isMark_16 : decode cX3_isMark 16 = .ok (.iconst 1, 1) := by decide +kernel
theorem dX3_isMark_17 : decode cX3_isMark 17 = .ok (.goto 4, 3) := by decide +kernel
theorem dX3_isMark_20 : decode cX3_isMark 20 = .ok (.iconst 0, 1) := by decide +kernel
theorem dX3_isMark_21 : decode cX3_isMark 21 = .ok (.ireturn, 1) := by decide +kernel
theorem dX3_mark_0 : decode cX3_mark 0 = .ok (.iload_n 1, 1) := by decide +kernel
theorem dX3_mark_1 : decode cX3_mark 1 = .ok (.invokestatic 87, 3) := by decide +kernel
theorem dX3_mark_4 : decode cX3_mark 4 = .ok (.ifCond .eq 18, 3) := by decide +kernel
theorem dX3_mark_7 : decode cX3_mark 7 = .ok (.aload_n 0, 1) := by decide +kernel
theorem dX3_mark_8 : decode cX3_mark 8 = .ok (.iload_n 2, 1) := by decide +kernel
theorem dX3_mark_9 : decode cX3_mark 9 = .ok (.invokevirtual 81, 3) := by decide +kernel
theorem dX3_mark_12 : decode cX3_mark 12 = .ok (.ifCond .eq 10, 3) := by decide +kernel
theorem dX3_mark_15 : decode cX3_mark 15 = .ok (.iload_n 3, 1) := by decide +kernel
theorem dX3_mark_16 : decode cX3_mark 16 = .ok (.invokestatic 90, 3) := by decide +kernel
theorem dX3_mark_19 : decode cX3_mark 19 = .ok (.ifCond .ne 6, 3) := by decide +kernel
theorem dX3_mark_22 : decode cX3_mark 22 = .ok (.bipush (-100), 2) := by decide +kernel
theorem dX3_mark_24 : decode cX3_mark 24 = .ok (.ireturn, 1) := by decide +kernel
theorem dX3_mark_25 : decode cX3_mark 25 = .ok (.aload_n 0, 1) := by decide +kernel
theorem dX3_mark_26 : decode cX3_mark 26 = .ok (.getfield 28, 3) := by decide +kernel
theorem dX3_mark_29 : decode cX3_mark 29 = .ok (.bipush 12, 2) := by decide +kernel
theorem dX3_mark_31 : decode cX3_mark 31 = .ok (.iload_n 1, 1) := by decide +kernel
theorem dX3_mark_32 : decode cX3_mark 32 = .ok (.imul, 1) := by decide +kernel
theorem dX3_mark_33 : decode cX3_mark 33 = .ok (.iload_n 2, 1) := by decide +kernel
theorem dX3_mark_34 : decode cX3_mark 34 = .ok (.iadd, 1) := by decide +kernel
theorem dX3_mark_35 : decode cX3_mark 35 = .ok (.iaload, 1) := by decide +kernel
theorem dX3_mark_36 : decode cX3_mark 36 = .ok (.istore 4, 2) := by decide +kernel
theorem dX3_mark_38 : decode cX3_mark 38 = .ok (.aload_n 0, 1) := by decide +kernel
theorem dX3_mark_39 : decode cX3_mark 39 = .ok (.getfield 28, 3) := by decide +kernel
theorem dX3_mark_42 : decode cX3_mark 42 = .ok (.bipush 12, 2) := by decide +kernel
theorem dX3_mark_44 : decode cX3_mark 44 = .ok (.iload_n 1, 1) := by decide +kernel
theorem dX3_mark_45 : decode cX3_mark 45 = .ok (.imul, 1) := by decide +kernel
theorem dX3_mark_46 : decode cX3_mark 46 = .ok (.iload_n 2, 1) := by decide +kernel
theorem dX3_mark_47 : decode cX3_mark 47 = .ok (.iadd, 1) := by decide +kernel
theorem dX3_mark_48 : decode cX3_mark 48 = .ok (.iload_n 3, 1) := by decide +kernel
theorem dX3_mark_49 : decode cX3_mark 49 = .ok (.iastore, 1) := by decide +kernel
theorem dX3_mark_50 : decode cX3_mark 50 = .ok (.iload 4, 2) := by decide +kernel
theorem dX3_mark_52 : decode cX3_mark 52 = .ok (.ireturn, 1) := by decide +kernel
theorem dX3_given_0 : decode cX3_given 0 = .ok (.iload_n 1, 1) := by decide +kernel
theorem dX3_given_1 : decode cX3_given 1 = .ok (.invokestatic 87, 3) := by decide +kernel
theorem dX3_given_4 : decode cX3_given 4 = .ok (.ifCond .eq 25, 3) := by decide +kernel
theorem dX3_given_7 : decode cX3_given 7 = .ok (.aload_n 0, 1) := by decide +kernel
theorem dX3_given_8 : decode cX3_given 8 = .ok (.iload_n 2, 1) := by decide +kernel
theorem dX3_given_9 : decode cX3_given 9 = .ok (.invokevirtual 81, 3) := by decide +kernel
theorem dX3_given_12 : decode cX3_given 12 = .ok (.ifCond .eq 17, 3) := by decide +kernel
theorem dX3_given_15 : decode cX3_given 15 = .ok (.aload_n 0, 1) := by decide +kernel
theorem dX3_given_16 : decode cX3_given 16 = .ok (.getfield 28, 3) := by decide +kernel
theorem dX3_given_19 : decode cX3_given 19 = .ok (.bipush 12, 2) := by decide +kernel
theorem dX3_given_21 : decode cX3_given 21 = .ok (.iload_n 1, 1) := by decide +kernel
theorem dX3_given_22 : decode cX3_given 22 = .ok (.imul, 1) := by decide +kernel
theorem dX3_given_23 : decode cX3_given 23 = .ok (.iload_n 2, 1) := by decide +kernel
theorem dX3_given_24 : decode cX3_given 24 = .ok (.iadd, 1) := by decide +kernel
theorem dX3_given_25 : decode cX3_given 25 = .ok (.iaload, 1) := by decide +kernel
theorem dX3_given_26 : decode cX3_given 26 = .ok (.goto 5, 3) := by decide +kernel
theorem dX3_given_29 : decode cX3_given 29 = .ok (.bipush (-100), 2) := by decide +kernel
theorem dX3_given_31 : decode cX3_given 31 = .ok (.ireturn, 1) := by decide +kernel
theorem dX3_common_0 : decode cX3_common 0 = .ok (.iload_n 0, 1) := by decide +kernel
theorem dX3_common_1 : decode cX3_common 1 = .ok (.invokestatic 93, 3) := by decide +kernel
theorem dX3_common_4 : decode cX3_common 4 = .ok (.istore_n 2, 1) := by decide +kernel
theorem dX3_common_5 : decode cX3_common 5 = .ok (.iload_n 1, 1) := by decide +kernel
theorem dX3_common_6 : decode cX3_common 6 = .ok (.invokestatic 93, 3) := by decide +kernel
theorem dX3_common_9 : decode cX3_common 9 = .ok (.istore_n 3, 1) := by decide +kernel
theorem dX3_common_10 : decode cX3_common 10 = .ok (.iload_n 3, 1) := by decide +kernel
theorem dX3_common_11 : decode cX3_common 11 = .ok (.ifCond .eq 16, 3) := by decide +kernel
theorem dX3_common_14 : decode cX3_common 14 = .ok (.iload_n 2, 1) := by decide +kernel
theorem dX3_common_15 : decode cX3_common 15 = .ok (.iload_n 3, 1) := by decide +kernel
theorem dX3_common_16 : decode cX3_common 16 = .ok (.irem, 1) := by decide +kernel
theorem dX3_common_17 : decode cX3_common 17 = .ok (.istore 4, 2) := by decide +kernel
theorem dX3_common_19 : decode cX3_common 19 = .ok (.iload_n 3, 1) := by decide +kernel
theorem dX3_common_20 : decode cX3_common 20 = .ok (.istore_n 2, 1) := by decide +kernel
theorem dX3_common_21 : decode cX3_common 21 = .ok (.iload 4, 2) := by decide +kernel
theorem dX3_common_23 : decode cX3_common 23 = .ok (.istore_n 3, 1) := by decide +kernel
theorem dX3_common_24 : decode cX3_common 24 = .ok (.goto (-14), 3) := by decide +kernel
theorem dX3_common_27 : decode cX3_common 27 = .ok (.iload_n 2, 1) := by decide +kernel
theorem dX3_common_28 : decode cX3_common 28 = .ok (.ireturn, 1) := by decide +kernel
theorem dX3_both_0 : decode cX3_both 0 = .ok (.aload_n 0, 1) := by decide +kernel
theorem dX3_both_1 : decode cX3_both 1 = .ok (.getfield 28, 3) := by decide +kernel
theorem dX3_both_4 : decode cX3_both 4 = .ok (.bipush 12, 2) := by decide +kernel
theorem dX3_both_6 : decode cX3_both 6 = .ok (.iload_n 1, 1) := by decide +kernel
theorem dX3_both_7 : decode cX3_both 7 = .ok (.imul, 1) := by decide +kernel
theorem dX3_both_8 : decode cX3_both 8 = .ok (.iload_n 3, 1) := by decide +kernel
theorem dX3_both_9 : decode cX3_both 9 = .ok (.iadd, 1) := by decide +kernel
theorem dX3_both_10 : decode cX3_both 10 = .ok (.iaload, 1) := by decide +kernel
theorem dX3_both_11 : decode cX3_both 11 = .ok (.sipush (-900), 3) := by decide +kernel
theorem dX3_both_14 : decode cX3_both 14 = .ok (.if_icmp .eq 24, 3) := by decide +kernel
theorem dX3_both_17 : decode cX3_both 17 = .ok (.aload_n 0, 1) := by decide +kernel
theorem dX3_both_18 : decode cX3_both 18 = .ok (.getfield 28, 3) := by decide +kernel
theorem dX3_both_21 : decode cX3_both 21 = .ok (.bipush 12, 2) := by decide +kernel
theorem dX3_both_23 : decode cX3_both 23 = .ok (.iload_n 2, 1) := by decide +kernel
theorem dX3_both_24 : decode cX3_both 24 = .ok (.imul, 1) := by decide +kernel
theorem dX3_both_25 : decode cX3_both 25 = .ok (.iload_n 3, 1) := by decide +kernel
theorem dX3_both_26 : decode cX3_both 26 = .ok (.iadd, 1) := by decide +kernel
theorem dX3_both_27 : decode cX3_both 27 = .ok (.iaload, 1) := by decide +kernel
theorem dX3_both_28 : decode cX3_both 28 = .ok (.sipush (-900), 3) := by decide +kernel
theorem dX3_both_31 : decode cX3_both 31 = .ok (.if_icmp .eq 7, 3) := by decide +kernel
theorem dX3_both_34 : decode cX3_both 34 = .ok (.iconst 1, 1) := by decide +kernel
theorem dX3_both_35 : decode cX3_both 35 = .ok (.goto 4, 3) := by decide +kernel
theorem dX3_both_38 : decode cX3_both 38 = .ok (.iconst 0, 1) := by decide +kernel
theorem dX3_both_39 : decode cX3_both 39 = .ok (.ireturn, 1) := by decide +kernel
theorem dX3_times_0 : decode cX3_times 0 = .ok (.iconst 0, 1) := by decide +kernel
theorem dX3_times_1 : decode cX3_times 1 = .ok (.istore 4, 2) := by decide +kernel
theorem dX3_times_3 : decode cX3_times 3 = .ok (.iconst 0, 1) := by decide +kernel
theorem dX3_times_4 : decode cX3_times 4 = .ok (.istore 5, 2) := by decide +kernel
theorem dX3_times_6 : decode cX3_times 6 = .ok (.iload 5, 2) := by decide +kernel
theorem dX3_times_8 : decode cX3_times 8 = .ok (.aload_n 0, 1) := by decide +kernel
theorem dX3_times_9 : decode cX3_times 9 = .ok (.getfield 77, 3) := by decide +kernel
theorem dX3_times_12 : decode cX3_times 12 = .ok (.if_icmp .ge 46, 3) := by decide +kernel
theorem dX3_times_15 : decode cX3_times 15 = .ok (.iload 4, 2) := by decide +kernel
theorem dX3_times_17 : decode cX3_times 17 = .ok (.aload_n 0, 1) := by decide +kernel
theorem dX3_times_18 : decode cX3_times 18 = .ok (.iload_n 1, 1) := by decide +kernel
theorem dX3_times_19 : decode cX3_times 19 = .ok (.iload_n 2, 1) := by decide +kernel
theorem dX3_times_20 : decode cX3_times 20 = .ok (.iload 5, 2) := by decide +kernel
theorem dX3_times_22 : decode cX3_times 22 = .ok (.invokevirtual 97, 3) := by decide +kernel
theorem dX3_times_25 : decode cX3_times 25 = .ok (.ifCond .eq 23, 3) := by decide +kernel
theorem dX3_times_28 : decode cX3_times 28 = .ok (.aload_n 0, 1) := by decide +kernel
theorem dX3_times_29 : decode cX3_times 29 = .ok (.getfield 28, 3) := by decide +kernel
theorem dX3_times_32 : decode cX3_times 32 = .ok (.bipush 12, 2) := by decide +kernel
theorem dX3_times_34 : decode cX3_times 34 = .ok (.iload_n 1, 1) := by decide +kernel
theorem dX3_times_35 : decode cX3_times 35 = .ok (.imul, 1) := by decide +kernel
theorem dX3_times_36 : decode cX3_times 36 = .ok (.iload 5, 2) := by decide +kernel
theorem dX3_times_38 : decode cX3_times 38 = .ok (.iadd, 1) := by decide +kernel
theorem dX3_times_39 : decode cX3_times 39 = .ok (.iaload, 1) := by decide +kernel
theorem dX3_times_40 : decode cX3_times 40 = .ok (.iload_n 3, 1) := by decide +kernel
theorem dX3_times_41 : decode cX3_times 41 = .ok (.if_icmp .ne 7, 3) := by decide +kernel
theorem dX3_times_44 : decode cX3_times 44 = .ok (.iconst 1, 1) := by decide +kernel
theorem dX3_times_45 : decode cX3_times 45 = .ok (.goto 4, 3) := by decide +kernel
theorem dX3_times_48 : decode cX3_times 48 = .ok (.iconst 0, 1) := by decide +kernel
theorem dX3_times_49 : decode cX3_times 49 = .ok (.iadd, 1) := by decide +kernel
theorem dX3_times_50 : decode cX3_times 50 = .ok (.istore 4, 2) := by decide +kernel
theorem dX3_times_52 : decode cX3_times 52 = .ok (.iinc 5 1, 3) := by decide +kernel
theorem dX3_times_55 : decode cX3_times 55 = .ok (.goto (-49), 3) := by decide +kernel
theorem dX3_times_58 : decode cX3_times 58 = .ok (.iload 4, 2) := by decide +kernel
theorem dX3_times_60 : decode cX3_times 60 = .ok (.ireturn, 1) := by decide +kernel
theorem dX3_like_0 : decode cX3_like 0 = .ok (.iload_n 1, 1) := by decide +kernel
theorem dX3_like_1 : decode cX3_like 1 = .ok (.invokestatic 87, 3) := by decide +kernel
theorem dX3_like_4 : decode cX3_like 4 = .ok (.ifCond .eq 24, 3) := by decide +kernel
theorem dX3_like_7 : decode cX3_like 7 = .ok (.iload_n 2, 1) := by decide +kernel
theorem dX3_like_8 : decode cX3_like 8 = .ok (.invokestatic 87, 3) := by decide +kernel
theorem dX3_like_11 : decode cX3_like 11 = .ok (.ifCond .eq 17, 3) := by decide +kernel
theorem dX3_like_14 : decode cX3_like 14 = .ok (.iload_n 1, 1) := by decide +kernel
theorem dX3_like_15 : decode cX3_like 15 = .ok (.iload_n 2, 1) := by decide +kernel
theorem dX3_like_16 : decode cX3_like 16 = .ok (.if_icmp .eq 12, 3) := by decide +kernel
theorem dX3_like_19 : decode cX3_like 19 = .ok (.iload_n 3, 1) := by decide +kernel
theorem dX3_like_20 : decode cX3_like 20 = .ok (.iconst 0, 1) := by decide +kernel
theorem dX3_like_21 : decode cX3_like 21 = .ok (.iconst 2, 1) := by decide +kernel
theorem dX3_like_22 : decode cX3_like 22 = .ok (.invokestatic 40, 3) := by decide +kernel
theorem dX3_like_25 : decode cX3_like 25 = .ok (.ifCond .ne 6, 3) := by decide +kernel
theorem dX3_like_28 : decode cX3_like 28 = .ok (.bipush (-100), 2) := by decide +kernel
theorem dX3_like_30 : decode cX3_like 30 = .ok (.ireturn, 1) := by decide +kernel
theorem dX3_like_31 : decode cX3_like 31 = .ok (.iconst 0, 1) := by decide +kernel
theorem dX3_like_32 : decode cX3_like 32 = .ok (.istore 4, 2) := by decide +kernel
theorem dX3_like_34 : decode cX3_like 34 = .ok (.iconst 0, 1) := by decide +kernel
theorem dX3_like_35 : decode cX3_like 35 = .ok (.istore 5, 2) := by decide +kernel
theorem dX3_like_37 : decode cX3_like 37 = .ok (.iconst 0, 1) := by decide +kernel
theorem dX3_like_38 : decode cX3_like 38 = .ok (.istore 6, 2) := by decide +kernel
theorem dX3_like_40 : decode cX3_like 40 = .ok (.iconst 0, 1) := by decide +kernel
theorem dX3_like_41 : decode cX3_like 41 = .ok (.istore 7, 2) := by decide +kernel
theorem dX3_like_43 : decode cX3_like 43 = .ok (.iload 7, 2) := by decide +kernel
theorem dX3_like_45 : decode cX3_like 45 = .ok (.aload_n 0, 1) := by decide +kernel
theorem dX3_like_46 : decode cX3_like 46 = .ok (.getfield 77, 3) := by decide +kernel
theorem dX3_like_49 : decode cX3_like 49 = .ok (.if_icmp .ge 78, 3) := by decide +kernel
theorem dX3_like_52 : decode cX3_like 52 = .ok (.iload 4, 2) := by decide +kernel
theorem dX3_like_54 : decode cX3_like 54 = .ok (.aload_n 0, 1) := by decide +kernel
theorem dX3_like_55 : decode cX3_like 55 = .ok (.iload_n 1, 1) := by decide +kernel
theorem dX3_like_56 : decode cX3_like 56 = .ok (.iload_n 2, 1) := by decide +kernel
theorem dX3_like_57 : decode cX3_like 57 = .ok (.iload 7, 2) := by decide +kernel
theorem dX3_like_59 : decode cX3_like 59 = .ok (.invokevirtual 97, 3) := by decide +kernel
theorem dX3_like_62 : decode cX3_like 62 = .ok (.ifCond .eq 7, 3) := by decide +kernel
theorem dX3_like_65 : decode cX3_like 65 = .ok (.iconst 1, 1) := by decide +kernel
theorem dX3_like_66 : decode cX3_like 66 = .ok (.goto 4, 3) := by decide +kernel
theorem dX3_like_69 : decode cX3_like 69 = .ok (.iconst 0, 1) := by decide +kernel
theorem dX3_like_70 : decode cX3_like 70 = .ok (.iadd, 1) := by decide +kernel
theorem dX3_like_71 : decode cX3_like 71 = .ok (.istore 4, 2) := by decide +kernel
theorem dX3_like_73 : decode cX3_like 73 = .ok (.iload 5, 2) := by decide +kernel
theorem dX3_like_75 : decode cX3_like 75 = .ok (.aload_n 0, 1) := by decide +kernel
theorem dX3_like_76 : decode cX3_like 76 = .ok (.iload_n 1, 1) := by decide +kernel
theorem dX3_like_77 : decode cX3_like 77 = .ok (.iload_n 2, 1) := by decide +kernel
theorem dX3_like_78 : decode cX3_like 78 = .ok (.iload 7, 2) := by decide +kernel
theorem dX3_like_80 : decode cX3_like 80 = .ok (.invokevirtual 97, 3) := by decide +kernel
theorem dX3_like_83 : decode cX3_like 83 = .ok (.ifCond .eq 34, 3) := by decide +kernel
theorem dX3_like_86 : decode cX3_like 86 = .ok (.aload_n 0, 1) := by decide +kernel
theorem dX3_like_87 : decode cX3_like 87 = .ok (.getfield 28, 3) := by decide +kernel
theorem dX3_like_90 : decode cX3_like 90 = .ok (.bipush 12, 2) := by decide +kernel
theorem dX3_like_92 : decode cX3_like 92 = .ok (.iload_n 1, 1) := by decide +kernel
theorem dX3_like_93 : decode cX3_like 93 = .ok (.imul, 1) := by decide +kernel
theorem dX3_like_94 : decode cX3_like 94 = .ok (.iload 7, 2) := by decide +kernel
theorem dX3_like_96 : decode cX3_like 96 = .ok (.iadd, 1) := by decide +kernel
theorem dX3_like_97 : decode cX3_like 97 = .ok (.iaload, 1) := by decide +kernel
theorem dX3_like_98 : decode cX3_like 98 = .ok (.aload_n 0, 1) := by decide +kernel
theorem dX3_like_99 : decode cX3_like 99 = .ok (.getfield 28, 3) := by decide +kernel
theorem dX3_like_102 : decode cX3_like 102 = .ok (.bipush 12, 2) := by decide +kernel
theorem dX3_like_104 : decode cX3_like 104 = .ok (.iload_n 2, 1) := by decide +kernel
theorem dX3_like_105 : decode cX3_like 105 = .ok (.imul, 1) := by decide +kernel
theorem dX3_like_106 : decode cX3_like 106 = .ok (.iload 7, 2) := by decide +kernel
theorem dX3_like_108 : decode cX3_like 108 = .ok (.iadd, 1) := by decide +kernel
theorem dX3_like_109 : decode cX3_like 109 = .ok (.iaload, 1) := by decide +kernel
theorem dX3_like_110 : decode cX3_like 110 = .ok (.if_icmp .ne 7, 3) := by decide +kernel
theorem dX3_like_113 : decode cX3_like 113 = .ok (.iconst 1, 1) := by decide +kernel
theorem dX3_like_114 : decode cX3_like 114 = .ok (.goto 4, 3) := by decide +kernel
theorem dX3_like_117 : decode cX3_like 117 = .ok (.iconst 0, 1) := by decide +kernel
theorem dX3_like_118 : decode cX3_like 118 = .ok (.iadd, 1) := by decide +kernel
theorem dX3_like_119 : decode cX3_like 119 = .ok (.istore 5, 2) := by decide +kernel
theorem dX3_like_121 : decode cX3_like 121 = .ok (.iinc 7 1, 3) := by decide +kernel
theorem dX3_like_124 : decode cX3_like 124 = .ok (.goto (-81), 3) := by decide +kernel
theorem dX3_like_127 : decode cX3_like 127 = .ok (.iconst 0, 1) := by decide +kernel
theorem dX3_like_128 : decode cX3_like 128 = .ok (.istore 7, 2) := by decide +kernel
theorem dX3_like_130 : decode cX3_like 130 = .ok (.iload 7, 2) := by decide +kernel
theorem dX3_like_132 : decode cX3_like 132 = .ok (.iconst 4, 1) := by decide +kernel
theorem dX3_like_133 : decode cX3_like 133 = .ok (.if_icmp .ge 31, 3) := by decide +kernel
theorem dX3_like_136 : decode cX3_like 136 = .ok (.iload 6, 2) := by decide +kernel
theorem dX3_like_138 : decode cX3_like 138 = .ok (.aload_n 0, 1) := by decide +kernel
theorem dX3_like_139 : decode cX3_like 139 = .ok (.iload_n 1, 1) := by decide +kernel
theorem dX3_like_140 : decode cX3_like 140 = .ok (.iload_n 2, 1) := by decide +kernel
theorem dX3_like_141 : decode cX3_like 141 = .ok (.iload 7, 2) := by decide +kernel
theorem dX3_like_143 : decode cX3_like 143 = .ok (.invokevirtual 100, 3) := by decide +kernel
theorem dX3_like_146 : decode cX3_like 146 = .ok (.aload_n 0, 1) := by decide +kernel
theorem dX3_like_147 : decode cX3_like 147 = .ok (.iload_n 2, 1) := by decide +kernel
theorem dX3_like_148 : decode cX3_like 148 = .ok (.iload_n 1, 1) := by decide +kernel
theorem dX3_like_149 : decode cX3_like 149 = .ok (.iload 7, 2) := by decide +kernel
theorem dX3_like_151 : decode cX3_like 151 = .ok (.invokevirtual 100, 3) := by decide +kernel
theorem dX3_like_154 : decode cX3_like 154 = .ok (.imul, 1) := by decide +kernel
theorem dX3_like_155 : decode cX3_like 155 = .ok (.iadd, 1) := by decide +kernel
theorem dX3_like_156 : decode cX3_like 156 = .ok (.istore 6, 2) := by decide +kernel
theorem dX3_like_158 : decode cX3_like 158 = .ok (.iinc 7 1, 3) := by decide +kernel
theorem dX3_like_161 : decode cX3_like 161 = .ok (.goto (-31), 3) := by decide +kernel
theorem dX3_like_164 : decode cX3_like 164 = .ok (.iload_n 3, 1) := by decide +kernel
theorem dX3_like_165 : decode cX3_like 165 = .ok (.iconst 2, 1) := by decide +kernel
theorem dX3_like_166 : decode cX3_like 166 = .ok (.if_icmp .ne 6, 3) := by decide +kernel
theorem dX3_like_169 : decode cX3_like 169 = .ok (.iload 4, 2) := by decide +kernel
theorem dX3_like_171 : decode cX3_like 171 = .ok (.ireturn, 1) := by decide +kernel
theorem dX3_like_172 : decode cX3_like 172 = .ok (.iload 5, 2) := by decide +kernel
theorem dX3_like_174 : decode cX3_like 174 = .ok (.iload 4, 2) := by decide +kernel
theorem dX3_like_176 : decode cX3_like 176 = .ok (.imul, 1) := by decide +kernel
theorem dX3_like_177 : decode cX3_like 177 = .ok (.iload 6, 2) := by decide +kernel
theorem dX3_like_179 : decode cX3_like 179 = .ok (.isub, 1) := by decide +kernel
theorem dX3_like_180 : decode cX3_like 180 = .ok (.istore 7, 2) := by decide +kernel
theorem dX3_like_182 : decode cX3_like 182 = .ok (.iload 4, 2) := by decide +kernel
theorem dX3_like_184 : decode cX3_like 184 = .ok (.iload 4, 2) := by decide +kernel
theorem dX3_like_186 : decode cX3_like 186 = .ok (.imul, 1) := by decide +kernel
theorem dX3_like_187 : decode cX3_like 187 = .ok (.iload 6, 2) := by decide +kernel
theorem dX3_like_189 : decode cX3_like 189 = .ok (.isub, 1) := by decide +kernel
theorem dX3_like_190 : decode cX3_like 190 = .ok (.istore 8, 2) := by decide +kernel
theorem dX3_like_192 : decode cX3_like 192 = .ok (.iload 8, 2) := by decide +kernel
theorem dX3_like_194 : decode cX3_like 194 = .ok (.ifCond .ne 7, 3) := by decide +kernel
theorem dX3_like_197 : decode cX3_like 197 = .ok (.sipush (-200), 3) := by decide +kernel
theorem dX3_like_200 : decode cX3_like 200 = .ok (.ireturn, 1) := by decide +kernel
theorem dX3_like_201 : decode cX3_like 201 = .ok (.iload 7, 2) := by decide +kernel
theorem dX3_like_203 : decode cX3_like 203 = .ok (.iload 8, 2) := by decide +kernel
theorem dX3_like_205 : decode cX3_like 205 = .ok (.invokestatic 104, 3) := by decide +kernel
theorem dX3_like_208 : decode cX3_like 208 = .ok (.istore 9, 2) := by decide +kernel
theorem dX3_like_210 : decode cX3_like 210 = .ok (.iload_n 3, 1) := by decide +kernel
theorem dX3_like_211 : decode cX3_like 211 = .ok (.ifCond .ne 11, 3) := by decide +kernel
theorem dX3_like_214 : decode cX3_like 214 = .ok (.iload 7, 2) := by decide +kernel
theorem dX3_like_216 : decode cX3_like 216 = .ok (.iload 9, 2) := by decide +kernel
theorem dX3_like_218 : decode cX3_like 218 = .ok (.idiv, 1) := by decide +kernel
theorem dX3_like_219 : decode cX3_like 219 = .ok (.goto 8, 3) := by decide +kernel
theorem dX3_like_222 : decode cX3_like 222 = .ok (.iload 8, 2) := by decide +kernel
theorem dX3_like_224 : decode cX3_like 224 = .ok (.iload 9, 2) := by decide +kernel
theorem dX3_like_226 : decode cX3_like 226 = .ok (.idiv, 1) := by decide +kernel
theorem dX3_like_227 : decode cX3_like 227 = .ok (.ireturn, 1) := by decide +kernel
theorem dX3_parts_0 : decode cX3_parts 0 = .ok (.iload_n 1, 1) := by decide +kernel
theorem dX3_parts_1 : decode cX3_parts 1 = .ok (.invokestatic 87, 3) := by decide +kernel
theorem dX3_parts_4 : decode cX3_parts 4 = .ok (.ifCond .eq 15, 3) := by decide +kernel
theorem dX3_parts_7 : decode cX3_parts 7 = .ok (.iload_n 2, 1) := by decide +kernel
theorem dX3_parts_8 : decode cX3_parts 8 = .ok (.invokestatic 87, 3) := by decide +kernel
theorem dX3_parts_11 : decode cX3_parts 11 = .ok (.ifCond .eq 8, 3) := by decide +kernel
theorem dX3_parts_14 : decode cX3_parts 14 = .ok (.iload_n 1, 1) := by decide +kernel
theorem dX3_parts_15 : decode cX3_parts 15 = .ok (.iload_n 2, 1) := by decide +kernel
theorem dX3_parts_16 : decode cX3_parts 16 = .ok (.if_icmp .ne 6, 3) := by decide +kernel
theorem dX3_parts_19 : decode cX3_parts 19 = .ok (.bipush (-100), 2) := by decide +kernel
theorem dX3_parts_21 : decode cX3_parts 21 = .ok (.ireturn, 1) := by decide +kernel
theorem dX3_parts_22 : decode cX3_parts 22 = .ok (.sipush (-900), 3) := by decide +kernel
theorem dX3_parts_25 : decode cX3_parts 25 = .ok (.istore_n 3, 1) := by decide +kernel
theorem dX3_parts_26 : decode cX3_parts 26 = .ok (.iconst 0, 1) := by decide +kernel
theorem dX3_parts_27 : decode cX3_parts 27 = .ok (.istore 4, 2) := by decide +kernel
theorem dX3_parts_29 : decode cX3_parts 29 = .ok (.iconst 0, 1) := by decide +kernel
theorem dX3_parts_30 : decode cX3_parts 30 = .ok (.istore 5, 2) := by decide +kernel
theorem dX3_parts_32 : decode cX3_parts 32 = .ok (.iload 5, 2) := by decide +kernel
theorem dX3_parts_34 : decode cX3_parts 34 = .ok (.aload_n 0, 1) := by decide +kernel
theorem dX3_parts_35 : decode cX3_parts 35 = .ok (.getfield 77, 3) := by decide +kernel
theorem dX3_parts_38 : decode cX3_parts 38 = .ok (.if_icmp .ge 84, 3) := by decide +kernel
theorem dX3_parts_41 : decode cX3_parts 41 = .ok (.aload_n 0, 1) := by decide +kernel
theorem dX3_parts_42 : decode cX3_parts 42 = .ok (.iload_n 1, 1) := by decide +kernel
theorem dX3_parts_43 : decode cX3_parts 43 = .ok (.iload_n 2, 1) := by decide +kernel
theorem dX3_parts_44 : decode cX3_parts 44 = .ok (.iload 5, 2) := by decide +kernel
theorem dX3_parts_46 : decode cX3_parts 46 = .ok (.invokevirtual 97, 3) := by decide +kernel
theorem dX3_parts_49 : decode cX3_parts 49 = .ok (.ifCond .eq 34, 3) := by decide +kernel
theorem dX3_parts_52 : decode cX3_parts 52 = .ok (.aload_n 0, 1) := by decide +kernel
theorem dX3_parts_53 : decode cX3_parts 53 = .ok (.getfield 28, 3) := by decide +kernel
theorem dX3_parts_56 : decode cX3_parts 56 = .ok (.bipush 12, 2) := by decide +kernel
theorem dX3_parts_58 : decode cX3_parts 58 = .ok (.iload_n 1, 1) := by decide +kernel
theorem dX3_parts_59 : decode cX3_parts 59 = .ok (.imul, 1) := by decide +kernel
theorem dX3_parts_60 : decode cX3_parts 60 = .ok (.iload 5, 2) := by decide +kernel
theorem dX3_parts_62 : decode cX3_parts 62 = .ok (.iadd, 1) := by decide +kernel
theorem dX3_parts_63 : decode cX3_parts 63 = .ok (.iaload, 1) := by decide +kernel
theorem dX3_parts_64 : decode cX3_parts 64 = .ok (.aload_n 0, 1) := by decide +kernel
theorem dX3_parts_65 : decode cX3_parts 65 = .ok (.getfield 28, 3) := by decide +kernel
theorem dX3_parts_68 : decode cX3_parts 68 = .ok (.bipush 12, 2) := by decide +kernel
theorem dX3_parts_70 : decode cX3_parts 70 = .ok (.iload_n 2, 1) := by decide +kernel
theorem dX3_parts_71 : decode cX3_parts 71 = .ok (.imul, 1) := by decide +kernel
theorem dX3_parts_72 : decode cX3_parts 72 = .ok (.iload 5, 2) := by decide +kernel
theorem dX3_parts_74 : decode cX3_parts 74 = .ok (.iadd, 1) := by decide +kernel
theorem dX3_parts_75 : decode cX3_parts 75 = .ok (.iaload, 1) := by decide +kernel
theorem dX3_parts_76 : decode cX3_parts 76 = .ok (.isub, 1) := by decide +kernel
theorem dX3_parts_77 : decode cX3_parts 77 = .ok (.invokestatic 93, 3) := by decide +kernel
theorem dX3_parts_80 : decode cX3_parts 80 = .ok (.goto 4, 3) := by decide +kernel
theorem dX3_parts_83 : decode cX3_parts 83 = .ok (.iconst 0, 1) := by decide +kernel
theorem dX3_parts_84 : decode cX3_parts 84 = .ok (.istore 6, 2) := by decide +kernel
theorem dX3_parts_86 : decode cX3_parts 86 = .ok (.iload 6, 2) := by decide +kernel
theorem dX3_parts_88 : decode cX3_parts 88 = .ok (.iload 4, 2) := by decide +kernel
theorem dX3_parts_90 : decode cX3_parts 90 = .ok (.if_icmp .le 8, 3) := by decide +kernel
theorem dX3_parts_93 : decode cX3_parts 93 = .ok (.iload 5, 2) := by decide +kernel
theorem dX3_parts_95 : decode cX3_parts 95 = .ok (.goto 4, 3) := by decide +kernel
theorem dX3_parts_98 : decode cX3_parts 98 = .ok (.iload_n 3, 1) := by decide +kernel
theorem dX3_parts_99 : decode cX3_parts 99 = .ok (.istore_n 3, 1) := by decide +kernel
theorem dX3_parts_100 : decode cX3_parts 100 = .ok (.iload 6, 2) := by decide +kernel
theorem dX3_parts_102 : decode cX3_parts 102 = .ok (.iload 4, 2) := by decide +kernel
theorem dX3_parts_104 : decode cX3_parts 104 = .ok (.if_icmp .le 8, 3) := by decide +kernel
theorem dX3_parts_107 : decode cX3_parts 107 = .ok (.iload 6, 2) := by decide +kernel
theorem dX3_parts_109 : decode cX3_parts 109 = .ok (.goto 5, 3) := by decide +kernel
theorem dX3_parts_112 : decode cX3_parts 112 = .ok (.iload 4, 2) := by decide +kernel
theorem dX3_parts_114 : decode cX3_parts 114 = .ok (.istore 4, 2) := by decide +kernel
theorem dX3_parts_116 : decode cX3_parts 116 = .ok (.iinc 5 1, 3) := by decide +kernel
theorem dX3_parts_119 : decode cX3_parts 119 = .ok (.goto (-87), 3) := by decide +kernel
theorem dX3_parts_122 : decode cX3_parts 122 = .ok (.iload_n 3, 1) := by decide +kernel
theorem dX3_parts_123 : decode cX3_parts 123 = .ok (.ireturn, 1) := by decide +kernel
theorem dX3_anchor_0 : decode cX3_anchor 0 = .ok (.aload_n 0, 1) := by decide +kernel
theorem dX3_anchor_1 : decode cX3_anchor 1 = .ok (.iload_n 1, 1) := by decide +kernel
theorem dX3_anchor_2 : decode cX3_anchor 2 = .ok (.invokevirtual 81, 3) := by decide +kernel
theorem dX3_anchor_5 : decode cX3_anchor 5 = .ok (.ifCond .eq 10, 3) := by decide +kernel
theorem dX3_anchor_8 : decode cX3_anchor 8 = .ok (.iload_n 2, 1) := by decide +kernel
theorem dX3_anchor_9 : decode cX3_anchor 9 = .ok (.invokestatic 90, 3) := by decide +kernel
theorem dX3_anchor_12 : decode cX3_anchor 12 = .ok (.ifCond .ne 6, 3) := by decide +kernel
theorem dX3_anchor_15 : decode cX3_anchor 15 = .ok (.bipush (-100), 2) := by decide +kernel
theorem dX3_anchor_17 : decode cX3_anchor 17 = .ok (.ireturn, 1) := by decide +kernel
theorem dX3_anchor_18 : decode cX3_anchor 18 = .ok (.aload_n 0, 1) := by decide +kernel
theorem dX3_anchor_19 : decode cX3_anchor 19 = .ok (.getfield 31, 3) := by decide +kernel
theorem dX3_anchor_22 : decode cX3_anchor 22 = .ok (.iload_n 1, 1) := by decide +kernel
theorem dX3_anchor_23 : decode cX3_anchor 23 = .ok (.iaload, 1) := by decide +kernel
theorem dX3_anchor_24 : decode cX3_anchor 24 = .ok (.istore_n 3, 1) := by decide +kernel
theorem dX3_anchor_25 : decode cX3_anchor 25 = .ok (.aload_n 0, 1) := by decide +kernel
theorem dX3_anchor_26 : decode cX3_anchor 26 = .ok (.getfield 31, 3) := by decide +kernel
theorem dX3_anchor_29 : decode cX3_anchor 29 = .ok (.iload_n 1, 1) := by decide +kernel
theorem dX3_anchor_30 : decode cX3_anchor 30 = .ok (.iload_n 2, 1) := by decide +kernel
theorem dX3_anchor_31 : decode cX3_anchor 31 = .ok (.iastore, 1) := by decide +kernel
theorem dX3_anchor_32 : decode cX3_anchor 32 = .ok (.iload_n 3, 1) := by decide +kernel
theorem dX3_anchor_33 : decode cX3_anchor 33 = .ok (.ireturn, 1) := by decide +kernel
theorem dX3_findOff_0 : decode cX3_findOff 0 = .ok (.aload_n 0, 1) := by decide +kernel
theorem dX3_findOff_1 : decode cX3_findOff 1 = .ok (.iconst 0, 1) := by decide +kernel
theorem dX3_findOff_2 : decode cX3_findOff 2 = .ok (.putfield 107, 3) := by decide +kernel
theorem dX3_findOff_5 : decode cX3_findOff 5 = .ok (.aload_n 0, 1) := by decide +kernel
theorem dX3_findOff_6 : decode cX3_findOff 6 = .ok (.iconst 0, 1) := by decide +kernel
theorem dX3_findOff_7 : decode cX3_findOff 7 = .ok (.putfield 110, 3) := by decide +kernel
theorem dX3_findOff_10 : decode cX3_findOff 10 = .ok (.iconst 0, 1) := by decide +kernel
theorem dX3_findOff_11 : decode cX3_findOff 11 = .ok (.istore_n 2, 1) := by decide +kernel
theorem dX3_findOff_12 : decode cX3_findOff 12 = .ok (.iload_n 2, 1) := by decide +kernel
theorem dX3_findOff_13 : decode cX3_findOff 13 = .ok (.aload_n 0, 1) := by decide +kernel
theorem dX3_findOff_14 : decode cX3_findOff 14 = .ok (.getfield 77, 3) := by decide +kernel
theorem dX3_findOff_17 : decode cX3_findOff 17 = .ok (.if_icmp .ge 75, 3) := by decide +kernel
theorem dX3_findOff_20 : decode cX3_findOff 20 = .ok (.aload_n 0, 1) := by decide +kernel
theorem dX3_findOff_21 : decode cX3_findOff 21 = .ok (.getfield 31, 3) := by decide +kernel
theorem dX3_findOff_24 : decode cX3_findOff 24 = .ok (.iload_n 2, 1) := by decide +kernel
theorem dX3_findOff_25 : decode cX3_findOff 25 = .ok (.iaload, 1) := by decide +kernel
theorem dX3_findOff_26 : decode cX3_findOff 26 = .ok (.sipush (-900), 3) := by decide +kernel
theorem dX3_findOff_29 : decode cX3_findOff 29 = .ok (.if_icmp .eq 57, 3) := by decide +kernel
theorem dX3_findOff_32 : decode cX3_findOff 32 = .ok (.aload_n 0, 1) := by decide +kernel
theorem dX3_findOff_33 : decode cX3_findOff 33 = .ok (.getfield 28, 3) := by decide +kernel
theorem dX3_findOff_36 : decode cX3_findOff 36 = .ok (.bipush 12, 2) := by decide +kernel
theorem dX3_findOff_38 : decode cX3_findOff 38 = .ok (.iload_n 1, 1) := by decide +kernel
theorem dX3_findOff_39 : decode cX3_findOff 39 = .ok (.imul, 1) := by decide +kernel
theorem dX3_findOff_40 : decode cX3_findOff 40 = .ok (.iload_n 2, 1) := by decide +kernel
theorem dX3_findOff_41 : decode cX3_findOff 41 = .ok (.iadd, 1) := by decide +kernel
theorem dX3_findOff_42 : decode cX3_findOff 42 = .ok (.iaload, 1) := by decide +kernel
theorem dX3_findOff_43 : decode cX3_findOff 43 = .ok (.sipush (-900), 3) := by decide +kernel
theorem dX3_findOff_46 : decode cX3_findOff 46 = .ok (.if_icmp .eq 40, 3) := by decide +kernel
theorem dX3_findOff_49 : decode cX3_findOff 49 = .ok (.aload_n 0, 1) := by decide +kernel
theorem dX3_findOff_50 : decode cX3_findOff 50 = .ok (.dup, 1) := by decide +kernel
theorem dX3_findOff_51 : decode cX3_findOff 51 = .ok (.getfield 107, 3) := by decide +kernel
theorem dX3_findOff_54 : decode cX3_findOff 54 = .ok (.aload_n 0, 1) := by decide +kernel
theorem dX3_findOff_55 : decode cX3_findOff 55 = .ok (.getfield 28, 3) := by decide +kernel
theorem dX3_findOff_58 : decode cX3_findOff 58 = .ok (.bipush 12, 2) := by decide +kernel
theorem dX3_findOff_60 : decode cX3_findOff 60 = .ok (.iload_n 1, 1) := by decide +kernel
theorem dX3_findOff_61 : decode cX3_findOff 61 = .ok (.imul, 1) := by decide +kernel
theorem dX3_findOff_62 : decode cX3_findOff 62 = .ok (.iload_n 2, 1) := by decide +kernel
theorem dX3_findOff_63 : decode cX3_findOff 63 = .ok (.iadd, 1) := by decide +kernel
theorem dX3_findOff_64 : decode cX3_findOff 64 = .ok (.iaload, 1) := by decide +kernel
theorem dX3_findOff_65 : decode cX3_findOff 65 = .ok (.aload_n 0, 1) := by decide +kernel
theorem dX3_findOff_66 : decode cX3_findOff 66 = .ok (.getfield 31, 3) := by decide +kernel
theorem dX3_findOff_69 : decode cX3_findOff 69 = .ok (.iload_n 2, 1) := by decide +kernel
theorem dX3_findOff_70 : decode cX3_findOff 70 = .ok (.iaload, 1) := by decide +kernel
theorem dX3_findOff_71 : decode cX3_findOff 71 = .ok (.isub, 1) := by decide +kernel
theorem dX3_findOff_72 : decode cX3_findOff 72 = .ok (.iadd, 1) := by decide +kernel
theorem dX3_findOff_73 : decode cX3_findOff 73 = .ok (.putfield 107, 3) := by decide +kernel
theorem dX3_findOff_76 : decode cX3_findOff 76 = .ok (.aload_n 0, 1) := by decide +kernel
theorem dX3_findOff_77 : decode cX3_findOff 77 = .ok (.dup, 1) := by decide +kernel
theorem dX3_findOff_78 : decode cX3_findOff 78 = .ok (.getfield 110, 3) := by decide +kernel
theorem dX3_findOff_81 : decode cX3_findOff 81 = .ok (.iconst 1, 1) := by decide +kernel
theorem dX3_findOff_82 : decode cX3_findOff 82 = .ok (.iadd, 1) := by decide +kernel
theorem dX3_findOff_83 : decode cX3_findOff 83 = .ok (.putfield 110, 3) := by decide +kernel
theorem dX3_findOff_86 : decode cX3_findOff 86 = .ok (.iinc 2 1, 3) := by decide +kernel
theorem dX3_findOff_89 : decode cX3_findOff 89 = .ok (.goto (-77), 3) := by decide +kernel
theorem dX3_findOff_92 : decode cX3_findOff 92 = .ok (.return_, 1) := by decide +kernel
theorem dX3_off_0 : decode cX3_off 0 = .ok (.iload_n 1, 1) := by decide +kernel
theorem dX3_off_1 : decode cX3_off 1 = .ok (.invokestatic 87, 3) := by decide +kernel
theorem dX3_off_4 : decode cX3_off 4 = .ok (.ifCond .eq 12, 3) := by decide +kernel
theorem dX3_off_7 : decode cX3_off 7 = .ok (.iload_n 2, 1) := by decide +kernel
theorem dX3_off_8 : decode cX3_off 8 = .ok (.iconst 0, 1) := by decide +kernel
theorem dX3_off_9 : decode cX3_off 9 = .ok (.iconst 2, 1) := by decide +kernel
theorem dX3_off_10 : decode cX3_off 10 = .ok (.invokestatic 40, 3) := by decide +kernel
theorem dX3_off_13 : decode cX3_off 13 = .ok (.ifCond .ne 6, 3) := by decide +kernel
theorem dX3_off_16 : decode cX3_off 16 = .ok (.bipush (-100), 2) := by decide +kernel
theorem dX3_off_18 : decode cX3_off 18 = .ok (.ireturn, 1) := by decide +kernel
theorem dX3_off_19 : decode cX3_off 19 = .ok (.aload_n 0, 1) := by decide +kernel
theorem dX3_off_20 : decode cX3_off 20 = .ok (.iload_n 1, 1) := by decide +kernel
theorem dX3_off_21 : decode cX3_off 21 = .ok (.invokevirtual 113, 3) := by decide +kernel
theorem dX3_off_24 : decode cX3_off 24 = .ok (.iload_n 2, 1) := by decide +kernel
theorem dX3_off_25 : decode cX3_off 25 = .ok (.iconst 2, 1) := by decide +kernel
theorem dX3_off_26 : decode cX3_off 26 = .ok (.if_icmp .ne 8, 3) := by decide +kernel
theorem dX3_off_29 : decode cX3_off 29 = .ok (.aload_n 0, 1) := by decide +kernel
theorem dX3_off_30 : decode cX3_off 30 = .ok (.getfield 110, 3) := by decide +kernel
theorem dX3_off_33 : decode cX3_off 33 = .ok (.ireturn, 1) := by decide +kernel
theorem dX3_off_34 : decode cX3_off 34 = .ok (.aload_n 0, 1) := by decide +kernel
theorem dX3_off_35 : decode cX3_off 35 = .ok (.getfield 110, 3) := by decide +kernel
theorem dX3_off_38 : decode cX3_off 38 = .ok (.ifCond .ne 7, 3) := by decide +kernel
theorem dX3_off_41 : decode cX3_off 41 = .ok (.sipush (-200), 3) := by decide +kernel
theorem dX3_off_44 : decode cX3_off 44 = .ok (.ireturn, 1) := by decide +kernel
theorem dX3_off_45 : decode cX3_off 45 = .ok (.aload_n 0, 1) := by decide +kernel
theorem dX3_off_46 : decode cX3_off 46 = .ok (.getfield 107, 3) := by decide +kernel
theorem dX3_off_49 : decode cX3_off 49 = .ok (.aload_n 0, 1) := by decide +kernel
theorem dX3_off_50 : decode cX3_off 50 = .ok (.getfield 110, 3) := by decide +kernel
theorem dX3_off_53 : decode cX3_off 53 = .ok (.invokestatic 104, 3) := by decide +kernel
theorem dX3_off_56 : decode cX3_off 56 = .ok (.istore_n 3, 1) := by decide +kernel
theorem dX3_off_57 : decode cX3_off 57 = .ok (.iload_n 2, 1) := by decide +kernel
theorem dX3_off_58 : decode cX3_off 58 = .ok (.ifCond .ne 12, 3) := by decide +kernel
theorem dX3_off_61 : decode cX3_off 61 = .ok (.aload_n 0, 1) := by decide +kernel
theorem dX3_off_62 : decode cX3_off 62 = .ok (.getfield 107, 3) := by decide +kernel
theorem dX3_off_65 : decode cX3_off 65 = .ok (.iload_n 3, 1) := by decide +kernel
theorem dX3_off_66 : decode cX3_off 66 = .ok (.idiv, 1) := by decide +kernel
theorem dX3_off_67 : decode cX3_off 67 = .ok (.goto 9, 3) := by decide +kernel
theorem dX3_off_70 : decode cX3_off 70 = .ok (.aload_n 0, 1) := by decide +kernel
theorem dX3_off_71 : decode cX3_off 71 = .ok (.getfield 110, 3) := by decide +kernel
theorem dX3_off_74 : decode cX3_off 74 = .ok (.iload_n 3, 1) := by decide +kernel
theorem dX3_off_75 : decode cX3_off 75 = .ok (.idiv, 1) := by decide +kernel
theorem dX3_off_76 : decode cX3_off 76 = .ok (.ireturn, 1) := by decide +kernel
theorem dX3_fair_0 : decode cX3_fair 0 = .ok (.iload_n 1, 1) := by decide +kernel
theorem dX3_fair_1 : decode cX3_fair 1 = .ok (.invokestatic 87, 3) := by decide +kernel
theorem dX3_fair_4 : decode cX3_fair 4 = .ok (.ifCond .eq 11, 3) := by decide +kernel
theorem dX3_fair_7 : decode cX3_fair 7 = .ok (.aload_n 0, 1) := by decide +kernel
theorem dX3_fair_8 : decode cX3_fair 8 = .ok (.iload_n 2, 1) := by decide +kernel
theorem dX3_fair_9 : decode cX3_fair 9 = .ok (.invokevirtual 81, 3) := by decide +kernel
theorem dX3_fair_12 : decode cX3_fair 12 = .ok (.ifCond .ne 6, 3) := by decide +kernel
theorem dX3_fair_15 : decode cX3_fair 15 = .ok (.bipush (-100), 2) := by decide +kernel
theorem dX3_fair_17 : decode cX3_fair 17 = .ok (.ireturn, 1) := by decide +kernel
theorem dX3_fair_18 : decode cX3_fair 18 = .ok (.aload_n 0, 1) := by decide +kernel
theorem dX3_fair_19 : decode cX3_fair 19 = .ok (.iload_n 1, 1) := by decide +kernel
theorem dX3_fair_20 : decode cX3_fair 20 = .ok (.invokevirtual 113, 3) := by decide +kernel
theorem dX3_fair_23 : decode cX3_fair 23 = .ok (.aload_n 0, 1) := by decide +kernel
theorem dX3_fair_24 : decode cX3_fair 24 = .ok (.getfield 28, 3) := by decide +kernel
theorem dX3_fair_27 : decode cX3_fair 27 = .ok (.bipush 12, 2) := by decide +kernel
theorem dX3_fair_29 : decode cX3_fair 29 = .ok (.iload_n 1, 1) := by decide +kernel
theorem dX3_fair_30 : decode cX3_fair 30 = .ok (.imul, 1) := by decide +kernel
theorem dX3_fair_31 : decode cX3_fair 31 = .ok (.iload_n 2, 1) := by decide +kernel
theorem dX3_fair_32 : decode cX3_fair 32 = .ok (.iadd, 1) := by decide +kernel
theorem dX3_fair_33 : decode cX3_fair 33 = .ok (.iaload, 1) := by decide +kernel
theorem dX3_fair_34 : decode cX3_fair 34 = .ok (.istore_n 3, 1) := by decide +kernel
theorem dX3_fair_35 : decode cX3_fair 35 = .ok (.iload_n 3, 1) := by decide +kernel
theorem dX3_fair_36 : decode cX3_fair 36 = .ok (.sipush (-900), 3) := by decide +kernel
theorem dX3_fair_39 : decode cX3_fair 39 = .ok (.if_icmp .eq 10, 3) := by decide +kernel
theorem dX3_fair_42 : decode cX3_fair 42 = .ok (.aload_n 0, 1) := by decide +kernel
theorem dX3_fair_43 : decode cX3_fair 43 = .ok (.getfield 110, 3) := by decide +kernel
theorem dX3_fair_46 : decode cX3_fair 46 = .ok (.ifCond .ne 7, 3) := by decide +kernel
theorem dX3_fair_49 : decode cX3_fair 49 = .ok (.sipush (-200), 3) := by decide +kernel
theorem dX3_fair_52 : decode cX3_fair 52 = .ok (.ireturn, 1) := by decide +kernel
theorem dX3_fair_53 : decode cX3_fair 53 = .ok (.iconst 0, 1) := by decide +kernel
theorem dX3_fair_54 : decode cX3_fair 54 = .ok (.istore 4, 2) := by decide +kernel
theorem dX3_fair_56 : decode cX3_fair 56 = .ok (.iconst 1, 1) := by decide +kernel
theorem dX3_fair_57 : decode cX3_fair 57 = .ok (.istore 5, 2) := by decide +kernel
theorem dX3_fair_59 : decode cX3_fair 59 = .ok (.iload 5, 2) := by decide +kernel
theorem dX3_fair_61 : decode cX3_fair 61 = .ok (.iconst 4, 1) := by decide +kernel
theorem dX3_fair_62 : decode cX3_fair 62 = .ok (.if_icmp .ge 45, 3) := by decide +kernel
theorem dX3_fair_65 : decode cX3_fair 65 = .ok (.iconst 2, 1) := by decide +kernel
theorem dX3_fair_66 : decode cX3_fair 66 = .ok (.iload 5, 2) := by decide +kernel
theorem dX3_fair_68 : decode cX3_fair 68 = .ok (.imul, 1) := by decide +kernel
theorem dX3_fair_69 : decode cX3_fair 69 = .ok (.iconst 1, 1) := by decide +kernel
theorem dX3_fair_70 : decode cX3_fair 70 = .ok (.isub, 1) := by decide +kernel
theorem dX3_fair_71 : decode cX3_fair 71 = .ok (.aload_n 0, 1) := by decide +kernel
theorem dX3_fair_72 : decode cX3_fair 72 = .ok (.getfield 110, 3) := by decide +kernel
theorem dX3_fair_75 : decode cX3_fair 75 = .ok (.imul, 1) := by decide +kernel
theorem dX3_fair_76 : decode cX3_fair 76 = .ok (.iconst 2, 1) := by decide +kernel
theorem dX3_fair_77 : decode cX3_fair 77 = .ok (.iload_n 3, 1) := by decide +kernel
theorem dX3_fair_78 : decode cX3_fair 78 = .ok (.aload_n 0, 1) := by decide +kernel
theorem dX3_fair_79 : decode cX3_fair 79 = .ok (.getfield 110, 3) := by decide +kernel
theorem dX3_fair_82 : decode cX3_fair 82 = .ok (.imul, 1) := by decide +kernel
theorem dX3_fair_83 : decode cX3_fair 83 = .ok (.aload_n 0, 1) := by decide +kernel
theorem dX3_fair_84 : decode cX3_fair 84 = .ok (.getfield 107, 3) := by decide +kernel
theorem dX3_fair_87 : decode cX3_fair 87 = .ok (.isub, 1) := by decide +kernel
theorem dX3_fair_88 : decode cX3_fair 88 = .ok (.imul, 1) := by decide +kernel
theorem dX3_fair_89 : decode cX3_fair 89 = .ok (.if_icmp .gt 8, 3) := by decide +kernel
theorem dX3_fair_92 : decode cX3_fair 92 = .ok (.iload 5, 2) := by decide +kernel
theorem dX3_fair_94 : decode cX3_fair 94 = .ok (.goto 5, 3) := by decide +kernel
theorem dX3_fair_97 : decode cX3_fair 97 = .ok (.iload 4, 2) := by decide +kernel
theorem dX3_fair_99 : decode cX3_fair 99 = .ok (.istore 4, 2) := by decide +kernel
theorem dX3_fair_101 : decode cX3_fair 101 = .ok (.iinc 5 1, 3) := by decide +kernel
theorem dX3_fair_104 : decode cX3_fair 104 = .ok (.goto (-45), 3) := by decide +kernel
theorem dX3_fair_107 : decode cX3_fair 107 = .ok (.iload 4, 2) := by decide +kernel
theorem dX3_fair_109 : decode cX3_fair 109 = .ok (.ireturn, 1) := by decide +kernel
theorem dX3_collect_0 : decode cX3_collect 0 = .ok (.aload_n 0, 1) := by decide +kernel
theorem dX3_collect_1 : decode cX3_collect 1 = .ok (.iconst 0, 1) := by decide +kernel
theorem dX3_collect_2 : decode cX3_collect 2 = .ok (.putfield 117, 3) := by decide +kernel
theorem dX3_collect_5 : decode cX3_collect 5 = .ok (.iconst 0, 1) := by decide +kernel
theorem dX3_collect_6 : decode cX3_collect 6 = .ok (.istore_n 2, 1) := by decide +kernel
theorem dX3_collect_7 : decode cX3_collect 7 = .ok (.iload_n 2, 1) := by decide +kernel
theorem dX3_collect_8 : decode cX3_collect 8 = .ok (.aload_n 0, 1) := by decide +kernel
theorem dX3_collect_9 : decode cX3_collect 9 = .ok (.getfield 77, 3) := by decide +kernel
theorem dX3_collect_12 : decode cX3_collect 12 = .ok (.if_icmp .ge 65, 3) := by decide +kernel
theorem dX3_collect_15 : decode cX3_collect 15 = .ok (.aload_n 0, 1) := by decide +kernel
theorem dX3_collect_16 : decode cX3_collect 16 = .ok (.getfield 117, 3) := by decide +kernel
theorem dX3_collect_19 : decode cX3_collect 19 = .ok (.bipush 6, 2) := by decide +kernel
theorem dX3_collect_21 : decode cX3_collect 21 = .ok (.if_icmp .ge 56, 3) := by decide +kernel
theorem dX3_collect_24 : decode cX3_collect 24 = .ok (.aload_n 0, 1) := by decide +kernel
theorem dX3_collect_25 : decode cX3_collect 25 = .ok (.getfield 28, 3) := by decide +kernel
theorem dX3_collect_28 : decode cX3_collect 28 = .ok (.bipush 12, 2) := by decide +kernel
theorem dX3_collect_30 : decode cX3_collect 30 = .ok (.iload_n 1, 1) := by decide +kernel
theorem dX3_collect_31 : decode cX3_collect 31 = .ok (.imul, 1) := by decide +kernel
theorem dX3_collect_32 : decode cX3_collect 32 = .ok (.iload_n 2, 1) := by decide +kernel
theorem dX3_collect_33 : decode cX3_collect 33 = .ok (.iadd, 1) := by decide +kernel
theorem dX3_collect_34 : decode cX3_collect 34 = .ok (.iaload, 1) := by decide +kernel
theorem dX3_collect_35 : decode cX3_collect 35 = .ok (.sipush (-900), 3) := by decide +kernel
theorem dX3_collect_38 : decode cX3_collect 38 = .ok (.if_icmp .eq 33, 3) := by decide +kernel
theorem dX3_collect_41 : decode cX3_collect 41 = .ok (.aload_n 0, 1) := by decide +kernel
theorem dX3_collect_42 : decode cX3_collect 42 = .ok (.getfield 34, 3) := by decide +kernel
theorem dX3_collect_45 : decode cX3_collect 45 = .ok (.aload_n 0, 1) := by decide +kernel
theorem dX3_collect_46 : decode cX3_collect 46 = .ok (.getfield 117, 3) := by decide +kernel
theorem dX3_collect_49 : decode cX3_collect 49 = .ok (.aload_n 0, 1) := by decide +kernel
theorem dX3_collect_50 : decode cX3_collect 50 = .ok (.getfield 28, 3) := by decide +kernel
theorem dX3_collect_53 : decode cX3_collect 53 = .ok (.bipush 12, 2) := by decide +kernel
theorem dX3_collect_55 : decode cX3_collect 55 = .ok (.iload_n 1, 1) := by decide +kernel
theorem dX3_collect_56 : decode cX3_collect 56 = .ok (.imul, 1) := by decide +kernel
theorem dX3_collect_57 : decode cX3_collect 57 = .ok (.iload_n 2, 1) := by decide +kernel
theorem dX3_collect_58 : decode cX3_collect 58 = .ok (.iadd, 1) := by decide +kernel
theorem dX3_collect_59 : decode cX3_collect 59 = .ok (.iaload, 1) := by decide +kernel
theorem dX3_collect_60 : decode cX3_collect 60 = .ok (.iastore, 1) := by decide +kernel
theorem dX3_collect_61 : decode cX3_collect 61 = .ok (.aload_n 0, 1) := by decide +kernel
theorem dX3_collect_62 : decode cX3_collect 62 = .ok (.dup, 1) := by decide +kernel
theorem dX3_collect_63 : decode cX3_collect 63 = .ok (.getfield 117, 3) := by decide +kernel
theorem dX3_collect_66 : decode cX3_collect 66 = .ok (.iconst 1, 1) := by decide +kernel
theorem dX3_collect_67 : decode cX3_collect 67 = .ok (.iadd, 1) := by decide +kernel
theorem dX3_collect_68 : decode cX3_collect 68 = .ok (.putfield 117, 3) := by decide +kernel
theorem dX3_collect_71 : decode cX3_collect 71 = .ok (.iinc 2 1, 3) := by decide +kernel
theorem dX3_collect_74 : decode cX3_collect 74 = .ok (.goto (-67), 3) := by decide +kernel
theorem dX3_collect_77 : decode cX3_collect 77 = .ok (.return_, 1) := by decide +kernel
theorem dX3_drifts_0 : decode cX3_drifts 0 = .ok (.iconst 0, 1) := by decide +kernel
theorem dX3_drifts_1 : decode cX3_drifts 1 = .ok (.istore_n 1, 1) := by decide +kernel
theorem dX3_drifts_2 : decode cX3_drifts 2 = .ok (.iconst 0, 1) := by decide +kernel
theorem dX3_drifts_3 : decode cX3_drifts 3 = .ok (.istore_n 2, 1) := by decide +kernel
theorem dX3_drifts_4 : decode cX3_drifts 4 = .ok (.iload_n 2, 1) := by decide +kernel
theorem dX3_drifts_5 : decode cX3_drifts 5 = .ok (.aload_n 0, 1) := by decide +kernel
theorem dX3_drifts_6 : decode cX3_drifts 6 = .ok (.getfield 117, 3) := by decide +kernel
theorem dX3_drifts_9 : decode cX3_drifts 9 = .ok (.if_icmp .ge 64, 3) := by decide +kernel
theorem dX3_drifts_12 : decode cX3_drifts 12 = .ok (.iconst 0, 1) := by decide +kernel
theorem dX3_drifts_13 : decode cX3_drifts 13 = .ok (.istore_n 3, 1) := by decide +kernel
theorem dX3_drifts_14 : decode cX3_drifts 14 = .ok (.iload_n 3, 1) := by decide +kernel
theorem dX3_drifts_15 : decode cX3_drifts 15 = .ok (.iload_n 2, 1) := by decide +kernel
theorem dX3_drifts_16 : decode cX3_drifts 16 = .ok (.if_icmp .ge 51, 3) := by decide +kernel
theorem dX3_drifts_19 : decode cX3_drifts 19 = .ok (.iload_n 1, 1) := by decide +kernel
theorem dX3_drifts_20 : decode cX3_drifts 20 = .ok (.aload_n 0, 1) := by decide +kernel
theorem dX3_drifts_21 : decode cX3_drifts 21 = .ok (.getfield 37, 3) := by decide +kernel
theorem dX3_drifts_24 : decode cX3_drifts 24 = .ok (.iload_n 2, 1) := by decide +kernel
theorem dX3_drifts_25 : decode cX3_drifts 25 = .ok (.iaload, 1) := by decide +kernel
theorem dX3_drifts_26 : decode cX3_drifts 26 = .ok (.aload_n 0, 1) := by decide +kernel
theorem dX3_drifts_27 : decode cX3_drifts 27 = .ok (.getfield 37, 3) := by decide +kernel
theorem dX3_drifts_30 : decode cX3_drifts 30 = .ok (.iload_n 3, 1) := by decide +kernel
theorem dX3_drifts_31 : decode cX3_drifts 31 = .ok (.iaload, 1) := by decide +kernel
theorem dX3_drifts_32 : decode cX3_drifts 32 = .ok (.if_icmp .le 7, 3) := by decide +kernel
theorem dX3_drifts_35 : decode cX3_drifts 35 = .ok (.iconst 1, 1) := by decide +kernel
theorem dX3_drifts_36 : decode cX3_drifts 36 = .ok (.goto 23, 3) := by decide +kernel
theorem dX3_drifts_39 : decode cX3_drifts 39 = .ok (.aload_n 0, 1) := by decide +kernel
theorem dX3_drifts_40 : decode cX3_drifts 40 = .ok (.getfield 37, 3) := by decide +kernel
theorem dX3_drifts_43 : decode cX3_drifts 43 = .ok (.iload_n 2, 1) := by decide +kernel
theorem dX3_drifts_44 : decode cX3_drifts 44 = .ok (.iaload, 1) := by decide +kernel
theorem dX3_drifts_45 : decode cX3_drifts 45 = .ok (.aload_n 0, 1) := by decide +kernel
theorem dX3_drifts_46 : decode cX3_drifts 46 = .ok (.getfield 37, 3) := by decide +kernel
theorem dX3_drifts_49 : decode cX3_drifts 49 = .ok (.iload_n 3, 1) := by decide +kernel
theorem dX3_drifts_50 : decode cX3_drifts 50 = .ok (.iaload, 1) := by decide +kernel
theorem dX3_drifts_51 : decode cX3_drifts 51 = .ok (.if_icmp .ge 7, 3) := by decide +kernel
theorem dX3_drifts_54 : decode cX3_drifts 54 = .ok (.iconst (-1), 1) := by decide +kernel
theorem dX3_drifts_55 : decode cX3_drifts 55 = .ok (.goto 4, 3) := by decide +kernel
theorem dX3_drifts_58 : decode cX3_drifts 58 = .ok (.iconst 0, 1) := by decide +kernel
theorem dX3_drifts_59 : decode cX3_drifts 59 = .ok (.iadd, 1) := by decide +kernel
theorem dX3_drifts_60 : decode cX3_drifts 60 = .ok (.istore_n 1, 1) := by decide +kernel
theorem dX3_drifts_61 : decode cX3_drifts 61 = .ok (.iinc 3 1, 3) := by decide +kernel
theorem dX3_drifts_64 : decode cX3_drifts 64 = .ok (.goto (-50), 3) := by decide +kernel
theorem dX3_drifts_67 : decode cX3_drifts 67 = .ok (.iinc 2 1, 3) := by decide +kernel
theorem dX3_drifts_70 : decode cX3_drifts 70 = .ok (.goto (-66), 3) := by decide +kernel
theorem dX3_drifts_73 : decode cX3_drifts 73 = .ok (.iload_n 1, 1) := by decide +kernel
theorem dX3_drifts_74 : decode cX3_drifts 74 = .ok (.ireturn, 1) := by decide +kernel
theorem dX3_take_0 : decode cX3_take 0 = .ok (.iload_n 1, 1) := by decide +kernel
theorem dX3_take_1 : decode cX3_take 1 = .ok (.istore_n 2, 1) := by decide +kernel
theorem dX3_take_2 : decode cX3_take 2 = .ok (.iconst 0, 1) := by decide +kernel
theorem dX3_take_3 : decode cX3_take 3 = .ok (.istore_n 3, 1) := by decide +kernel
theorem dX3_take_4 : decode cX3_take 4 = .ok (.iload_n 3, 1) := by decide +kernel
theorem dX3_take_5 : decode cX3_take 5 = .ok (.aload_n 0, 1) := by decide +kernel
theorem dX3_take_6 : decode cX3_take 6 = .ok (.getfield 117, 3) := by decide +kernel
theorem dX3_take_9 : decode cX3_take 9 = .ok (.if_icmp .ge 67, 3) := by decide +kernel
theorem dX3_take_12 : decode cX3_take 12 = .ok (.iload_n 2, 1) := by decide +kernel
theorem dX3_take_13 : decode cX3_take 13 = .ok (.iload_n 3, 1) := by decide +kernel
theorem dX3_take_14 : decode cX3_take 14 = .ok (.iconst 1, 1) := by decide +kernel
theorem dX3_take_15 : decode cX3_take 15 = .ok (.iadd, 1) := by decide +kernel
theorem dX3_take_16 : decode cX3_take 16 = .ok (.irem, 1) := by decide +kernel
theorem dX3_take_17 : decode cX3_take 17 = .ok (.istore 4, 2) := by decide +kernel
theorem dX3_take_19 : decode cX3_take 19 = .ok (.iload_n 2, 1) := by decide +kernel
theorem dX3_take_20 : decode cX3_take 20 = .ok (.iload_n 3, 1) := by decide +kernel
theorem dX3_take_21 : decode cX3_take 21 = .ok (.iconst 1, 1) := by decide +kernel
theorem dX3_take_22 : decode cX3_take 22 = .ok (.iadd, 1) := by decide +kernel
theorem dX3_take_23 : decode cX3_take 23 = .ok (.idiv, 1) := by decide +kernel
theorem dX3_take_24 : decode cX3_take 24 = .ok (.istore_n 2, 1) := by decide +kernel
theorem dX3_take_25 : decode cX3_take 25 = .ok (.iload_n 3, 1) := by decide +kernel
theorem dX3_take_26 : decode cX3_take 26 = .ok (.istore 5, 2) := by decide +kernel
theorem dX3_take_28 : decode cX3_take 28 = .ok (.iload 5, 2) := by decide +kernel
theorem dX3_take_30 : decode cX3_take 30 = .ok (.iload 4, 2) := by decide +kernel
theorem dX3_take_32 : decode cX3_take 32 = .ok (.if_icmp .le 25, 3) := by decide +kernel
theorem dX3_take_35 : decode cX3_take 35 = .ok (.aload_n 0, 1) := by decide +kernel
theorem dX3_take_36 : decode cX3_take 36 = .ok (.getfield 37, 3) := by decide +kernel
theorem dX3_take_39 : decode cX3_take 39 = .ok (.iload 5, 2) := by decide +kernel
theorem dX3_take_41 : decode cX3_take 41 = .ok (.aload_n 0, 1) := by decide +kernel
theorem dX3_take_42 : decode cX3_take 42 = .ok (.getfield 37, 3) := by decide +kernel
theorem dX3_take_45 : decode cX3_take 45 = .ok (.iload 5, 2) := by decide +kernel
theorem dX3_take_47 : decode cX3_take 47 = .ok (.iconst 1, 1) := by decide +kernel
theorem dX3_take_48 : decode cX3_take 48 = .ok (.isub, 1) := by decide +kernel
theorem dX3_take_49 : decode cX3_take 49 = .ok (.iaload, 1) := by decide +kernel
theorem dX3_take_50 : decode cX3_take 50 = .ok (.iastore, 1) := by decide +kernel
theorem dX3_take_51 : decode cX3_take 51 = .ok (.iinc 5 (-1), 3) := by decide +kernel
theorem dX3_take_54 : decode cX3_take 54 = .ok (.goto (-26), 3) := by decide +kernel
theorem dX3_take_57 : decode cX3_take 57 = .ok (.aload_n 0, 1) := by decide +kernel
theorem dX3_take_58 : decode cX3_take 58 = .ok (.getfield 37, 3) := by decide +kernel
theorem dX3_take_61 : decode cX3_take 61 = .ok (.iload 4, 2) := by decide +kernel
theorem dX3_take_63 : decode cX3_take 63 = .ok (.aload_n 0, 1) := by decide +kernel
theorem dX3_take_64 : decode cX3_take 64 = .ok (.getfield 34, 3) := by decide +kernel
theorem dX3_take_67 : decode cX3_take 67 = .ok (.iload_n 3, 1) := by decide +kernel
theorem dX3_take_68 : decode cX3_take 68 = .ok (.iaload, 1) := by decide +kernel
theorem dX3_take_69 : decode cX3_take 69 = .ok (.iastore, 1) := by decide +kernel
theorem dX3_take_70 : decode cX3_take 70 = .ok (.iinc 3 1, 3) := by decide +kernel
theorem dX3_take_73 : decode cX3_take 73 = .ok (.goto (-69), 3) := by decide +kernel
theorem dX3_take_76 : decode cX3_take 76 = .ok (.return_, 1) := by decide +kernel
theorem dX3_drift_0 : decode cX3_drift 0 = .ok (.iload_n 1, 1) := by decide +kernel
theorem dX3_drift_1 : decode cX3_drift 1 = .ok (.invokestatic 87, 3) := by decide +kernel
theorem dX3_drift_4 : decode cX3_drift 4 = .ok (.ifCond .eq 12, 3) := by decide +kernel
theorem dX3_drift_7 : decode cX3_drift 7 = .ok (.iload_n 2, 1) := by decide +kernel
theorem dX3_drift_8 : decode cX3_drift 8 = .ok (.iconst 0, 1) := by decide +kernel
theorem dX3_drift_9 : decode cX3_drift 9 = .ok (.iconst 2, 1) := by decide +kernel
theorem dX3_drift_10 : decode cX3_drift 10 = .ok (.invokestatic 40, 3) := by decide +kernel
theorem dX3_drift_13 : decode cX3_drift 13 = .ok (.ifCond .ne 6, 3) := by decide +kernel
theorem dX3_drift_16 : decode cX3_drift 16 = .ok (.bipush (-100), 2) := by decide +kernel
theorem dX3_drift_18 : decode cX3_drift 18 = .ok (.ireturn, 1) := by decide +kernel
theorem dX3_drift_19 : decode cX3_drift 19 = .ok (.aload_n 0, 1) := by decide +kernel
theorem dX3_drift_20 : decode cX3_drift 20 = .ok (.iload_n 1, 1) := by decide +kernel
theorem dX3_drift_21 : decode cX3_drift 21 = .ok (.invokevirtual 120, 3) := by decide +kernel
theorem dX3_drift_24 : decode cX3_drift 24 = .ok (.iload_n 2, 1) := by decide +kernel
theorem dX3_drift_25 : decode cX3_drift 25 = .ok (.iconst 2, 1) := by decide +kernel
theorem dX3_drift_26 : decode cX3_drift 26 = .ok (.if_icmp .ne 8, 3) := by decide +kernel
theorem dX3_drift_29 : decode cX3_drift 29 = .ok (.aload_n 0, 1) := by decide +kernel
theorem dX3_drift_30 : decode cX3_drift 30 = .ok (.getfield 117, 3) := by decide +kernel
theorem dX3_drift_33 : decode cX3_drift 33 = .ok (.ireturn, 1) := by decide +kernel
theorem dX3_drift_34 : decode cX3_drift 34 = .ok (.iconst 0, 1) := by decide +kernel
theorem dX3_drift_35 : decode cX3_drift 35 = .ok (.istore_n 3, 1) := by decide +kernel
theorem dX3_drift_36 : decode cX3_drift 36 = .ok (.iload_n 3, 1) := by decide +kernel
theorem dX3_drift_37 : decode cX3_drift 37 = .ok (.aload_n 0, 1) := by decide +kernel
theorem dX3_drift_38 : decode cX3_drift 38 = .ok (.getfield 117, 3) := by decide +kernel
theorem dX3_drift_41 : decode cX3_drift 41 = .ok (.if_icmp .ge 21, 3) := by decide +kernel
theorem dX3_drift_44 : decode cX3_drift 44 = .ok (.aload_n 0, 1) := by decide +kernel
theorem dX3_drift_45 : decode cX3_drift 45 = .ok (.getfield 37, 3) := by decide +kernel
theorem dX3_drift_48 : decode cX3_drift 48 = .ok (.iload_n 3, 1) := by decide +kernel
theorem dX3_drift_49 : decode cX3_drift 49 = .ok (.aload_n 0, 1) := by decide +kernel
theorem dX3_drift_50 : decode cX3_drift 50 = .ok (.getfield 34, 3) := by decide +kernel
theorem dX3_drift_53 : decode cX3_drift 53 = .ok (.iload_n 3, 1) := by decide +kernel
theorem dX3_drift_54 : decode cX3_drift 54 = .ok (.iaload, 1) := by decide +kernel
theorem dX3_drift_55 : decode cX3_drift 55 = .ok (.iastore, 1) := by decide +kernel
theorem dX3_drift_56 : decode cX3_drift 56 = .ok (.iinc 3 1, 3) := by decide +kernel
theorem dX3_drift_59 : decode cX3_drift 59 = .ok (.goto (-23), 3) := by decide +kernel
theorem dX3_drift_62 : decode cX3_drift 62 = .ok (.aload_n 0, 1) := by decide +kernel
theorem dX3_drift_63 : decode cX3_drift 63 = .ok (.invokevirtual 123, 3) := by decide +kernel
theorem dX3_drift_66 : decode cX3_drift 66 = .ok (.istore_n 3, 1) := by decide +kernel
theorem dX3_drift_67 : decode cX3_drift 67 = .ok (.iload_n 2, 1) := by decide +kernel
theorem dX3_drift_68 : decode cX3_drift 68 = .ok (.ifCond .ne 5, 3) := by decide +kernel
theorem dX3_drift_71 : decode cX3_drift 71 = .ok (.iload_n 3, 1) := by decide +kernel
theorem dX3_drift_72 : decode cX3_drift 72 = .ok (.ireturn, 1) := by decide +kernel
theorem dX3_drift_73 : decode cX3_drift 73 = .ok (.iconst 1, 1) := by decide +kernel
theorem dX3_drift_74 : decode cX3_drift 74 = .ok (.istore 4, 2) := by decide +kernel
theorem dX3_drift_76 : decode cX3_drift 76 = .ok (.iconst 2, 1) := by decide +kernel
theorem dX3_drift_77 : decode cX3_drift 77 = .ok (.istore 5, 2) := by decide +kernel
theorem dX3_drift_79 : decode cX3_drift 79 = .ok (.iload 5, 2) := by decide +kernel
theorem dX3_drift_81 : decode cX3_drift 81 = .ok (.aload_n 0, 1) := by decide +kernel
theorem dX3_drift_82 : decode cX3_drift 82 = .ok (.getfield 117, 3) := by decide +kernel
theorem dX3_drift_85 : decode cX3_drift 85 = .ok (.if_icmp .gt 16, 3) := by decide +kernel
theorem dX3_drift_88 : decode cX3_drift 88 = .ok (.iload 4, 2) := by decide +kernel
theorem dX3_drift_90 : decode cX3_drift 90 = .ok (.iload 5, 2) := by decide +kernel
theorem dX3_drift_92 : decode cX3_drift 92 = .ok (.imul, 1) := by decide +kernel
theorem dX3_drift_93 : decode cX3_drift 93 = .ok (.istore 4, 2) := by decide +kernel
theorem dX3_drift_95 : decode cX3_drift 95 = .ok (.iinc 5 1, 3) := by decide +kernel
theorem dX3_drift_98 : decode cX3_drift 98 = .ok (.goto (-19), 3) := by decide +kernel
theorem dX3_drift_101 : decode cX3_drift 101 = .ok (.iconst 0, 1) := by decide +kernel
theorem dX3_drift_102 : decode cX3_drift 102 = .ok (.istore 5, 2) := by decide +kernel
theorem dX3_drift_104 : decode cX3_drift 104 = .ok (.iconst 0, 1) := by decide +kernel
theorem dX3_drift_105 : decode cX3_drift 105 = .ok (.istore 6, 2) := by decide +kernel
theorem dX3_drift_107 : decode cX3_drift 107 = .ok (.iload 6, 2) := by decide +kernel
theorem dX3_drift_109 : decode cX3_drift 109 = .ok (.iload 4, 2) := by decide +kernel
theorem dX3_drift_111 : decode cX3_drift 111 = .ok (.if_icmp .ge 33, 3) := by decide +kernel
theorem dX3_drift_114 : decode cX3_drift 114 = .ok (.aload_n 0, 1) := by decide +kernel
theorem dX3_drift_115 : decode cX3_drift 115 = .ok (.iload 6, 2) := by decide +kernel
theorem dX3_drift_117 : decode cX3_drift 117 = .ok (.invokevirtual 127, 3) := by decide +kernel
theorem dX3_drift_120 : decode cX3_drift 120 = .ok (.iload 5, 2) := by decide +kernel
theorem dX3_drift_122 : decode cX3_drift 122 = .ok (.aload_n 0, 1) := by decide +kernel
theorem dX3_drift_123 : decode cX3_drift 123 = .ok (.invokevirtual 123, 3) := by decide +kernel
theorem dX3_drift_126 : decode cX3_drift 126 = .ok (.iload_n 3, 1) := by decide +kernel
theorem dX3_drift_127 : decode cX3_drift 127 = .ok (.if_icmp .lt 7, 3) := by decide +kernel
theorem dX3_drift_130 : decode cX3_drift 130 = .ok (.iconst 1, 1) := by decide +kernel
theorem dX3_drift_131 : decode cX3_drift 131 = .ok (.goto 4, 3) := by decide +kernel
theorem dX3_drift_134 : decode cX3_drift 134 = .ok (.iconst 0, 1) := by decide +kernel
theorem dX3_drift_135 : decode cX3_drift 135 = .ok (.iadd, 1) := by decide +kernel
theorem dX3_drift_136 : decode cX3_drift 136 = .ok (.istore 5, 2) := by decide +kernel
theorem dX3_drift_138 : decode cX3_drift 138 = .ok (.iinc 6 1, 3) := by decide +kernel
theorem dX3_drift_141 : decode cX3_drift 141 = .ok (.goto (-34), 3) := by decide +kernel
theorem dX3_drift_144 : decode cX3_drift 144 = .ok (.iload 5, 2) := by decide +kernel
theorem dX3_drift_146 : decode cX3_drift 146 = .ok (.ireturn, 1) := by decide +kernel
theorem dX3_moves_0 : decode cX3_moves 0 = .ok (.iload_n 1, 1) := by decide +kernel
theorem dX3_moves_1 : decode cX3_moves 1 = .ok (.iconst 0, 1) := by decide +kernel
theorem dX3_moves_2 : decode cX3_moves 2 = .ok (.iconst 1, 1) := by decide +kernel
theorem dX3_moves_3 : decode cX3_moves 3 = .ok (.invokestatic 40, 3) := by decide +kernel
theorem dX3_moves_6 : decode cX3_moves 6 = .ok (.ifCond .ne 6, 3) := by decide +kernel
theorem dX3_moves_9 : decode cX3_moves 9 = .ok (.bipush (-100), 2) := by decide +kernel
theorem dX3_moves_11 : decode cX3_moves 11 = .ok (.ireturn, 1) := by decide +kernel
theorem dX3_moves_12 : decode cX3_moves 12 = .ok (.iconst 0, 1) := by decide +kernel
theorem dX3_moves_13 : decode cX3_moves 13 = .ok (.istore_n 2, 1) := by decide +kernel
theorem dX3_moves_14 : decode cX3_moves 14 = .ok (.iconst 0, 1) := by decide +kernel
theorem dX3_moves_15 : decode cX3_moves 15 = .ok (.istore_n 3, 1) := by decide +kernel
theorem dX3_moves_16 : decode cX3_moves 16 = .ok (.iconst 0, 1) := by decide +kernel
theorem dX3_moves_17 : decode cX3_moves 17 = .ok (.istore 4, 2) := by decide +kernel
theorem dX3_moves_19 : decode cX3_moves 19 = .ok (.iload 4, 2) := by decide +kernel
theorem dX3_moves_21 : decode cX3_moves 21 = .ok (.aload_n 0, 1) := by decide +kernel
theorem dX3_moves_22 : decode cX3_moves 22 = .ok (.getfield 77, 3) := by decide +kernel
theorem dX3_moves_25 : decode cX3_moves 25 = .ok (.if_icmp .ge 94, 3) := by decide +kernel
theorem dX3_moves_28 : decode cX3_moves 28 = .ok (.iload_n 2, 1) := by decide +kernel
theorem dX3_moves_29 : decode cX3_moves 29 = .ok (.aload_n 0, 1) := by decide +kernel
theorem dX3_moves_30 : decode cX3_moves 30 = .ok (.iconst 0, 1) := by decide +kernel
theorem dX3_moves_31 : decode cX3_moves 31 = .ok (.iload 4, 2) := by decide +kernel
theorem dX3_moves_33 : decode cX3_moves 33 = .ok (.invokevirtual 84, 3) := by decide +kernel
theorem dX3_moves_36 : decode cX3_moves 36 = .ok (.aload_n 0, 1) := by decide +kernel
theorem dX3_moves_37 : decode cX3_moves 37 = .ok (.iconst 1, 1) := by decide +kernel
theorem dX3_moves_38 : decode cX3_moves 38 = .ok (.iload 4, 2) := by decide +kernel
theorem dX3_moves_40 : decode cX3_moves 40 = .ok (.invokevirtual 84, 3) := by decide +kernel
theorem dX3_moves_43 : decode cX3_moves 43 = .ok (.if_icmp .eq 7, 3) := by decide +kernel
theorem dX3_moves_46 : decode cX3_moves 46 = .ok (.iconst 1, 1) := by decide +kernel
theorem dX3_moves_47 : decode cX3_moves 47 = .ok (.goto 4, 3) := by decide +kernel
theorem dX3_moves_50 : decode cX3_moves 50 = .ok (.iconst 0, 1) := by decide +kernel
theorem dX3_moves_51 : decode cX3_moves 51 = .ok (.iadd, 1) := by decide +kernel
theorem dX3_moves_52 : decode cX3_moves 52 = .ok (.istore_n 2, 1) := by decide +kernel
theorem dX3_moves_53 : decode cX3_moves 53 = .ok (.iconst 0, 1) := by decide +kernel
theorem dX3_moves_54 : decode cX3_moves 54 = .ok (.istore 5, 2) := by decide +kernel
theorem dX3_moves_56 : decode cX3_moves 56 = .ok (.iload 5, 2) := by decide +kernel
theorem dX3_moves_58 : decode cX3_moves 58 = .ok (.aload_n 0, 1) := by decide +kernel
theorem dX3_moves_59 : decode cX3_moves 59 = .ok (.getfield 77, 3) := by decide +kernel
theorem dX3_moves_62 : decode cX3_moves 62 = .ok (.if_icmp .ge 51, 3) := by decide +kernel
theorem dX3_moves_65 : decode cX3_moves 65 = .ok (.iload_n 3, 1) := by decide +kernel
theorem dX3_moves_66 : decode cX3_moves 66 = .ok (.aload_n 0, 1) := by decide +kernel
theorem dX3_moves_67 : decode cX3_moves 67 = .ok (.iconst 0, 1) := by decide +kernel
end
section
theorem dX3_moves_68 : decode cX3_moves 68 = .ok (.iload 4, 2) := by decide +kernel
theorem dX3_moves_70 : decode cX3_moves 70 = .ok (.invokevirtual 84, 3) := by decide +kernel
theorem dX3_moves_73 : decode cX3_moves 73 = .ok (.aload_n 0, 1) := by decide +kernel
theorem dX3_moves_74 : decode cX3_moves 74 = .ok (.iconst 0, 1) := by decide +kernel
theorem dX3_moves_75 : decode cX3_moves 75 = .ok (.iload 5, 2) := by decide +kernel
theorem dX3_moves_77 : decode cX3_moves 77 = .ok (.invokevirtual 84, 3) := by decide +kernel
theorem dX3_moves_80 : decode cX3_moves 80 = .ok (.if_icmp .le 24, 3) := by decide +kernel
theorem dX3_moves_83 : decode cX3_moves 83 = .ok (.aload_n 0, 1) := by decide +kernel
theorem dX3_moves_84 : decode cX3_moves 84 = .ok (.iconst 1, 1) := by decide +kernel
theorem dX3_moves_85 : decode cX3_moves 85 = .ok (.iload 4, 2) := by decide +kernel
theorem dX3_moves_87 : decode cX3_moves 87 = .ok (.invokevirtual 84, 3) := by decide +kernel
theorem dX3_moves_90 : decode cX3_moves 90 = .ok (.aload_n 0, 1) := by decide +kernel
theorem dX3_moves_91 : decode cX3_moves 91 = .ok (.iconst 1, 1) := by decide +kernel
theorem dX3_moves_92 : decode cX3_moves 92 = .ok (.iload 5, 2) := by decide +kernel
theorem dX3_moves_94 : decode cX3_moves 94 = .ok (.invokevirtual 84, 3) := by decide +kernel
theorem dX3_moves_97 : decode cX3_moves 97 = .ok (.if_icmp .ge 7, 3) := by decide +kernel
theorem dX3_moves_100 : decode cX3_moves 100 = .ok (.iconst 1, 1) := by decide +kernel
theorem dX3_moves_101 : decode cX3_moves 101 = .ok (.goto 4, 3) := by decide +kernel
theorem dX3_moves_104 : decode cX3_moves 104 = .ok (.iconst 0, 1) := by decide +kernel
theorem dX3_moves_105 : decode cX3_moves 105 = .ok (.iadd, 1) := by decide +kernel
theorem dX3_moves_106 : decode cX3_moves 106 = .ok (.istore_n 3, 1) := by decide +kernel
theorem dX3_moves_107 : decode cX3_moves 107 = .ok (.iinc 5 1, 3) := by decide +kernel
theorem dX3_moves_110 : decode cX3_moves 110 = .ok (.goto (-54), 3) := by decide +kernel
theorem dX3_moves_113 : decode cX3_moves 113 = .ok (.iinc 4 1, 3) := by decide +kernel
theorem dX3_moves_116 : decode cX3_moves 116 = .ok (.goto (-97), 3) := by decide +kernel
theorem dX3_moves_119 : decode cX3_moves 119 = .ok (.iload_n 1, 1) := by decide +kernel
theorem dX3_moves_120 : decode cX3_moves 120 = .ok (.ifCond .ne 7, 3) := by decide +kernel
theorem dX3_moves_123 : decode cX3_moves 123 = .ok (.iload_n 2, 1) := by decide +kernel
theorem dX3_moves_124 : decode cX3_moves 124 = .ok (.goto 4, 3) := by decide +kernel
theorem dX3_moves_127 : decode cX3_moves 127 = .ok (.iload_n 3, 1) := by decide +kernel
theorem dX3_moves_128 : decode cX3_moves 128 = .ok (.ireturn, 1) := by decide +kernel
theorem dX3_become_0 : decode cX3_become 0 = .ok (.aload_n 1, 1) := by decide +kernel
theorem dX3_become_1 : decode cX3_become 1 = .ok (.iload_n 2, 1) := by decide +kernel
theorem dX3_become_2 : decode cX3_become 2 = .ok (.iaload, 1) := by decide +kernel
theorem dX3_become_3 : decode cX3_become 3 = .ok (.istore 6, 2) := by decide +kernel
theorem dX3_become_5 : decode cX3_become 5 = .ok (.aload_n 1, 1) := by decide +kernel
theorem dX3_become_6 : decode cX3_become 6 = .ok (.iload 5, 2) := by decide +kernel
theorem dX3_become_8 : decode cX3_become 8 = .ok (.iload_n 2, 1) := by decide +kernel
theorem dX3_become_9 : decode cX3_become 9 = .ok (.iadd, 1) := by decide +kernel
theorem dX3_become_10 : decode cX3_become 10 = .ok (.iaload, 1) := by decide +kernel
theorem dX3_become_11 : decode cX3_become 11 = .ok (.istore 7, 2) := by decide +kernel
theorem dX3_become_13 : decode cX3_become 13 = .ok (.aload_n 1, 1) := by decide +kernel
theorem dX3_become_14 : decode cX3_become 14 = .ok (.iload_n 2, 1) := by decide +kernel
theorem dX3_become_15 : decode cX3_become 15 = .ok (.iload_n 3, 1) := by decide +kernel
theorem dX3_become_16 : decode cX3_become 16 = .ok (.ifCond .ne 8, 3) := by decide +kernel
theorem dX3_become_19 : decode cX3_become 19 = .ok (.iload 4, 2) := by decide +kernel
theorem dX3_become_21 : decode cX3_become 21 = .ok (.ifCond .eq 8, 3) := by decide +kernel
theorem dX3_become_24 : decode cX3_become 24 = .ok (.iload 7, 2) := by decide +kernel
theorem dX3_become_26 : decode cX3_become 26 = .ok (.goto 5, 3) := by decide +kernel
theorem dX3_become_29 : decode cX3_become 29 = .ok (.iload 6, 2) := by decide +kernel
theorem dX3_become_31 : decode cX3_become 31 = .ok (.iastore, 1) := by decide +kernel
theorem dX3_become_32 : decode cX3_become 32 = .ok (.aload_n 1, 1) := by decide +kernel
theorem dX3_become_33 : decode cX3_become 33 = .ok (.iload 5, 2) := by decide +kernel
theorem dX3_become_35 : decode cX3_become 35 = .ok (.iload_n 2, 1) := by decide +kernel
theorem dX3_become_36 : decode cX3_become 36 = .ok (.iadd, 1) := by decide +kernel
theorem dX3_become_37 : decode cX3_become 37 = .ok (.iload_n 3, 1) := by decide +kernel
theorem dX3_become_38 : decode cX3_become 38 = .ok (.ifCond .eq 8, 3) := by decide +kernel
theorem dX3_become_41 : decode cX3_become 41 = .ok (.iload 4, 2) := by decide +kernel
theorem dX3_become_43 : decode cX3_become 43 = .ok (.ifCond .eq 8, 3) := by decide +kernel
theorem dX3_become_46 : decode cX3_become 46 = .ok (.iload 6, 2) := by decide +kernel
theorem dX3_become_48 : decode cX3_become 48 = .ok (.goto 5, 3) := by decide +kernel
theorem dX3_become_51 : decode cX3_become 51 = .ok (.iload 7, 2) := by decide +kernel
theorem dX3_become_53 : decode cX3_become 53 = .ok (.iastore, 1) := by decide +kernel
theorem dX3_become_54 : decode cX3_become 54 = .ok (.return_, 1) := by decide +kernel
theorem dX3_copy_0 : decode cX3_copy 0 = .ok (.iload_n 1, 1) := by decide +kernel
theorem dX3_copy_1 : decode cX3_copy 1 = .ok (.iconst 0, 1) := by decide +kernel
theorem dX3_copy_2 : decode cX3_copy 2 = .ok (.iconst 2, 1) := by decide +kernel
theorem dX3_copy_3 : decode cX3_copy 3 = .ok (.invokestatic 40, 3) := by decide +kernel
theorem dX3_copy_6 : decode cX3_copy 6 = .ok (.ifCond .ne 6, 3) := by decide +kernel
theorem dX3_copy_9 : decode cX3_copy 9 = .ok (.bipush (-100), 2) := by decide +kernel
theorem dX3_copy_11 : decode cX3_copy 11 = .ok (.ireturn, 1) := by decide +kernel
theorem dX3_copy_12 : decode cX3_copy 12 = .ok (.iconst 0, 1) := by decide +kernel
theorem dX3_copy_13 : decode cX3_copy 13 = .ok (.istore_n 2, 1) := by decide +kernel
theorem dX3_copy_14 : decode cX3_copy 14 = .ok (.iload_n 2, 1) := by decide +kernel
theorem dX3_copy_15 : decode cX3_copy 15 = .ok (.bipush 16, 2) := by decide +kernel
theorem dX3_copy_17 : decode cX3_copy 17 = .ok (.if_icmp .ge 166, 3) := by decide +kernel
theorem dX3_copy_20 : decode cX3_copy 20 = .ok (.iload_n 2, 1) := by decide +kernel
theorem dX3_copy_21 : decode cX3_copy 21 = .ok (.iconst 4, 1) := by decide +kernel
theorem dX3_copy_22 : decode cX3_copy 22 = .ok (.if_icmp .ge 93, 3) := by decide +kernel
theorem dX3_copy_25 : decode cX3_copy 25 = .ok (.aload_n 0, 1) := by decide +kernel
theorem dX3_copy_26 : decode cX3_copy 26 = .ok (.aload_n 0, 1) := by decide +kernel
theorem dX3_copy_27 : decode cX3_copy 27 = .ok (.getfield 7, 3) := by decide +kernel
theorem dX3_copy_30 : decode cX3_copy 30 = .ok (.iload_n 2, 1) := by decide +kernel
theorem dX3_copy_31 : decode cX3_copy 31 = .ok (.iload_n 1, 1) := by decide +kernel
theorem dX3_copy_32 : decode cX3_copy 32 = .ok (.iconst 1, 1) := by decide +kernel
theorem dX3_copy_33 : decode cX3_copy 33 = .ok (.if_icmp .ne 7, 3) := by decide +kernel
theorem dX3_copy_36 : decode cX3_copy 36 = .ok (.iconst 1, 1) := by decide +kernel
theorem dX3_copy_37 : decode cX3_copy 37 = .ok (.goto 4, 3) := by decide +kernel
theorem dX3_copy_40 : decode cX3_copy 40 = .ok (.iconst 0, 1) := by decide +kernel
theorem dX3_copy_41 : decode cX3_copy 41 = .ok (.iload_n 1, 1) := by decide +kernel
theorem dX3_copy_42 : decode cX3_copy 42 = .ok (.iconst 2, 1) := by decide +kernel
theorem dX3_copy_43 : decode cX3_copy 43 = .ok (.if_icmp .ne 7, 3) := by decide +kernel
theorem dX3_copy_46 : decode cX3_copy 46 = .ok (.iconst 1, 1) := by decide +kernel
theorem dX3_copy_47 : decode cX3_copy 47 = .ok (.goto 4, 3) := by decide +kernel
theorem dX3_copy_50 : decode cX3_copy 50 = .ok (.iconst 0, 1) := by decide +kernel
theorem dX3_copy_51 : decode cX3_copy 51 = .ok (.iconst 4, 1) := by decide +kernel
theorem dX3_copy_52 : decode cX3_copy 52 = .ok (.invokevirtual 130, 3) := by decide +kernel
theorem dX3_copy_55 : decode cX3_copy 55 = .ok (.aload_n 0, 1) := by decide +kernel
theorem dX3_copy_56 : decode cX3_copy 56 = .ok (.aload_n 0, 1) := by decide +kernel
theorem dX3_copy_57 : decode cX3_copy 57 = .ok (.getfield 13, 3) := by decide +kernel
theorem dX3_copy_60 : decode cX3_copy 60 = .ok (.iload_n 2, 1) := by decide +kernel
theorem dX3_copy_61 : decode cX3_copy 61 = .ok (.iload_n 1, 1) := by decide +kernel
theorem dX3_copy_62 : decode cX3_copy 62 = .ok (.iconst 1, 1) := by decide +kernel
theorem dX3_copy_63 : decode cX3_copy 63 = .ok (.if_icmp .ne 7, 3) := by decide +kernel
theorem dX3_copy_66 : decode cX3_copy 66 = .ok (.iconst 1, 1) := by decide +kernel
theorem dX3_copy_67 : decode cX3_copy 67 = .ok (.goto 4, 3) := by decide +kernel
theorem dX3_copy_70 : decode cX3_copy 70 = .ok (.iconst 0, 1) := by decide +kernel
theorem dX3_copy_71 : decode cX3_copy 71 = .ok (.iload_n 1, 1) := by decide +kernel
theorem dX3_copy_72 : decode cX3_copy 72 = .ok (.iconst 2, 1) := by decide +kernel
theorem dX3_copy_73 : decode cX3_copy 73 = .ok (.if_icmp .ne 7, 3) := by decide +kernel
theorem dX3_copy_76 : decode cX3_copy 76 = .ok (.iconst 1, 1) := by decide +kernel
theorem dX3_copy_77 : decode cX3_copy 77 = .ok (.goto 4, 3) := by decide +kernel
theorem dX3_copy_80 : decode cX3_copy 80 = .ok (.iconst 0, 1) := by decide +kernel
theorem dX3_copy_81 : decode cX3_copy 81 = .ok (.iconst 4, 1) := by decide +kernel
theorem dX3_copy_82 : decode cX3_copy 82 = .ok (.invokevirtual 130, 3) := by decide +kernel
theorem dX3_copy_85 : decode cX3_copy 85 = .ok (.aload_n 0, 1) := by decide +kernel
theorem dX3_copy_86 : decode cX3_copy 86 = .ok (.aload_n 0, 1) := by decide +kernel
theorem dX3_copy_87 : decode cX3_copy 87 = .ok (.getfield 16, 3) := by decide +kernel
theorem dX3_copy_90 : decode cX3_copy 90 = .ok (.iload_n 2, 1) := by decide +kernel
theorem dX3_copy_91 : decode cX3_copy 91 = .ok (.iload_n 1, 1) := by decide +kernel
theorem dX3_copy_92 : decode cX3_copy 92 = .ok (.iconst 1, 1) := by decide +kernel
theorem dX3_copy_93 : decode cX3_copy 93 = .ok (.if_icmp .ne 7, 3) := by decide +kernel
theorem dX3_copy_96 : decode cX3_copy 96 = .ok (.iconst 1, 1) := by decide +kernel
theorem dX3_copy_97 : decode cX3_copy 97 = .ok (.goto 4, 3) := by decide +kernel
theorem dX3_copy_100 : decode cX3_copy 100 = .ok (.iconst 0, 1) := by decide +kernel
theorem dX3_copy_101 : decode cX3_copy 101 = .ok (.iload_n 1, 1) := by decide +kernel
theorem dX3_copy_102 : decode cX3_copy 102 = .ok (.iconst 2, 1) := by decide +kernel
theorem dX3_copy_103 : decode cX3_copy 103 = .ok (.if_icmp .ne 7, 3) := by decide +kernel
theorem dX3_copy_106 : decode cX3_copy 106 = .ok (.iconst 1, 1) := by decide +kernel
theorem dX3_copy_107 : decode cX3_copy 107 = .ok (.goto 4, 3) := by decide +kernel
theorem dX3_copy_110 : decode cX3_copy 110 = .ok (.iconst 0, 1) := by decide +kernel
theorem dX3_copy_111 : decode cX3_copy 111 = .ok (.iconst 4, 1) := by decide +kernel
theorem dX3_copy_112 : decode cX3_copy 112 = .ok (.invokevirtual 130, 3) := by decide +kernel
theorem dX3_copy_115 : decode cX3_copy 115 = .ok (.aload_n 0, 1) := by decide +kernel
theorem dX3_copy_116 : decode cX3_copy 116 = .ok (.aload_n 0, 1) := by decide +kernel
theorem dX3_copy_117 : decode cX3_copy 117 = .ok (.getfield 19, 3) := by decide +kernel
theorem dX3_copy_120 : decode cX3_copy 120 = .ok (.iload_n 2, 1) := by decide +kernel
theorem dX3_copy_121 : decode cX3_copy 121 = .ok (.iload_n 1, 1) := by decide +kernel
theorem dX3_copy_122 : decode cX3_copy 122 = .ok (.iconst 1, 1) := by decide +kernel
theorem dX3_copy_123 : decode cX3_copy 123 = .ok (.if_icmp .ne 7, 3) := by decide +kernel
theorem dX3_copy_126 : decode cX3_copy 126 = .ok (.iconst 1, 1) := by decide +kernel
theorem dX3_copy_127 : decode cX3_copy 127 = .ok (.goto 4, 3) := by decide +kernel
theorem dX3_copy_130 : decode cX3_copy 130 = .ok (.iconst 0, 1) := by decide +kernel
theorem dX3_copy_131 : decode cX3_copy 131 = .ok (.iload_n 1, 1) := by decide +kernel
theorem dX3_copy_132 : decode cX3_copy 132 = .ok (.iconst 2, 1) := by decide +kernel
theorem dX3_copy_133 : decode cX3_copy 133 = .ok (.if_icmp .ne 7, 3) := by decide +kernel
theorem dX3_copy_136 : decode cX3_copy 136 = .ok (.iconst 1, 1) := by decide +kernel
theorem dX3_copy_137 : decode cX3_copy 137 = .ok (.goto 4, 3) := by decide +kernel
theorem dX3_copy_140 : decode cX3_copy 140 = .ok (.iconst 0, 1) := by decide +kernel
theorem dX3_copy_141 : decode cX3_copy 141 = .ok (.bipush 16, 2) := by decide +kernel
theorem dX3_copy_143 : decode cX3_copy 143 = .ok (.invokevirtual 130, 3) := by decide +kernel
theorem dX3_copy_146 : decode cX3_copy 146 = .ok (.aload_n 0, 1) := by decide +kernel
theorem dX3_copy_147 : decode cX3_copy 147 = .ok (.aload_n 0, 1) := by decide +kernel
theorem dX3_copy_148 : decode cX3_copy 148 = .ok (.getfield 22, 3) := by decide +kernel
theorem dX3_copy_151 : decode cX3_copy 151 = .ok (.iload_n 2, 1) := by decide +kernel
theorem dX3_copy_152 : decode cX3_copy 152 = .ok (.iload_n 1, 1) := by decide +kernel
theorem dX3_copy_153 : decode cX3_copy 153 = .ok (.iconst 1, 1) := by decide +kernel
theorem dX3_copy_154 : decode cX3_copy 154 = .ok (.if_icmp .ne 7, 3) := by decide +kernel
theorem dX3_copy_157 : decode cX3_copy 157 = .ok (.iconst 1, 1) := by decide +kernel
theorem dX3_copy_158 : decode cX3_copy 158 = .ok (.goto 4, 3) := by decide +kernel
theorem dX3_copy_161 : decode cX3_copy 161 = .ok (.iconst 0, 1) := by decide +kernel
theorem dX3_copy_162 : decode cX3_copy 162 = .ok (.iload_n 1, 1) := by decide +kernel
theorem dX3_copy_163 : decode cX3_copy 163 = .ok (.iconst 2, 1) := by decide +kernel
theorem dX3_copy_164 : decode cX3_copy 164 = .ok (.if_icmp .ne 7, 3) := by decide +kernel
theorem dX3_copy_167 : decode cX3_copy 167 = .ok (.iconst 1, 1) := by decide +kernel
theorem dX3_copy_168 : decode cX3_copy 168 = .ok (.goto 4, 3) := by decide +kernel
theorem dX3_copy_171 : decode cX3_copy 171 = .ok (.iconst 0, 1) := by decide +kernel
theorem dX3_copy_172 : decode cX3_copy 172 = .ok (.bipush 16, 2) := by decide +kernel
theorem dX3_copy_174 : decode cX3_copy 174 = .ok (.invokevirtual 130, 3) := by decide +kernel
theorem dX3_copy_177 : decode cX3_copy 177 = .ok (.iinc 2 1, 3) := by decide +kernel
theorem dX3_copy_180 : decode cX3_copy 180 = .ok (.goto (-166), 3) := by decide +kernel
theorem dX3_copy_183 : decode cX3_copy 183 = .ok (.iconst 1, 1) := by decide +kernel
theorem dX3_copy_184 : decode cX3_copy 184 = .ok (.ireturn, 1) := by decide +kernel
theorem dX3_count_0 : decode cX3_count 0 = .ok (.iconst 0, 1) := by decide +kernel
theorem dX3_count_1 : decode cX3_count 1 = .ok (.istore_n 2, 1) := by decide +kernel
theorem dX3_count_2 : decode cX3_count 2 = .ok (.iload_n 1, 1) := by decide +kernel
theorem dX3_count_3 : decode cX3_count 3 = .ok (.tableswitch 149 0 4 #[33, 38, 76, 112, 112], 33) := by decide +kernel
theorem dX3_count_36 : decode cX3_count 36 = .ok (.aload_n 0, 1) := by decide +kernel
theorem dX3_count_37 : decode cX3_count 37 = .ok (.getfield 77, 3) := by decide +kernel
theorem dX3_count_40 : decode cX3_count 40 = .ok (.ireturn, 1) := by decide +kernel
theorem dX3_count_41 : decode cX3_count 41 = .ok (.iconst 0, 1) := by decide +kernel
theorem dX3_count_42 : decode cX3_count 42 = .ok (.istore_n 3, 1) := by decide +kernel
theorem dX3_count_43 : decode cX3_count 43 = .ok (.iload_n 3, 1) := by decide +kernel
theorem dX3_count_44 : decode cX3_count 44 = .ok (.aload_n 0, 1) := by decide +kernel
theorem dX3_count_45 : decode cX3_count 45 = .ok (.getfield 77, 3) := by decide +kernel
theorem dX3_count_48 : decode cX3_count 48 = .ok (.if_icmp .ge 29, 3) := by decide +kernel
theorem dX3_count_51 : decode cX3_count 51 = .ok (.iload_n 2, 1) := by decide +kernel
theorem dX3_count_52 : decode cX3_count 52 = .ok (.aload_n 0, 1) := by decide +kernel
theorem dX3_count_53 : decode cX3_count 53 = .ok (.getfield 31, 3) := by decide +kernel
theorem dX3_count_56 : decode cX3_count 56 = .ok (.iload_n 3, 1) := by decide +kernel
theorem dX3_count_57 : decode cX3_count 57 = .ok (.iaload, 1) := by decide +kernel
theorem dX3_count_58 : decode cX3_count 58 = .ok (.sipush (-900), 3) := by decide +kernel
theorem dX3_count_61 : decode cX3_count 61 = .ok (.if_icmp .ne 7, 3) := by decide +kernel
theorem dX3_count_64 : decode cX3_count 64 = .ok (.iconst 0, 1) := by decide +kernel
theorem dX3_count_65 : decode cX3_count 65 = .ok (.goto 4, 3) := by decide +kernel
theorem dX3_count_68 : decode cX3_count 68 = .ok (.iconst 1, 1) := by decide +kernel
theorem dX3_count_69 : decode cX3_count 69 = .ok (.iadd, 1) := by decide +kernel
theorem dX3_count_70 : decode cX3_count 70 = .ok (.istore_n 2, 1) := by decide +kernel
theorem dX3_count_71 : decode cX3_count 71 = .ok (.iinc 3 1, 3) := by decide +kernel
theorem dX3_count_74 : decode cX3_count 74 = .ok (.goto (-31), 3) := by decide +kernel
theorem dX3_count_77 : decode cX3_count 77 = .ok (.iload_n 2, 1) := by decide +kernel
theorem dX3_count_78 : decode cX3_count 78 = .ok (.ireturn, 1) := by decide +kernel
theorem dX3_count_79 : decode cX3_count 79 = .ok (.iconst 0, 1) := by decide +kernel
theorem dX3_count_80 : decode cX3_count 80 = .ok (.istore_n 3, 1) := by decide +kernel
theorem dX3_count_81 : decode cX3_count 81 = .ok (.iload_n 3, 1) := by decide +kernel
theorem dX3_count_82 : decode cX3_count 82 = .ok (.bipush 36, 2) := by decide +kernel
theorem dX3_count_84 : decode cX3_count 84 = .ok (.if_icmp .ge 29, 3) := by decide +kernel
theorem dX3_count_87 : decode cX3_count 87 = .ok (.iload_n 2, 1) := by decide +kernel
theorem dX3_count_88 : decode cX3_count 88 = .ok (.aload_n 0, 1) := by decide +kernel
theorem dX3_count_89 : decode cX3_count 89 = .ok (.getfield 28, 3) := by decide +kernel
theorem dX3_count_92 : decode cX3_count 92 = .ok (.iload_n 3, 1) := by decide +kernel
theorem dX3_count_93 : decode cX3_count 93 = .ok (.iaload, 1) := by decide +kernel
theorem dX3_count_94 : decode cX3_count 94 = .ok (.sipush (-900), 3) := by decide +kernel
theorem dX3_count_97 : decode cX3_count 97 = .ok (.if_icmp .ne 7, 3) := by decide +kernel
theorem dX3_count_100 : decode cX3_count 100 = .ok (.iconst 0, 1) := by decide +kernel
theorem dX3_count_101 : decode cX3_count 101 = .ok (.goto 4, 3) := by decide +kernel
theorem dX3_count_104 : decode cX3_count 104 = .ok (.iconst 1, 1) := by decide +kernel
theorem dX3_count_105 : decode cX3_count 105 = .ok (.iadd, 1) := by decide +kernel
theorem dX3_count_106 : decode cX3_count 106 = .ok (.istore_n 2, 1) := by decide +kernel
theorem dX3_count_107 : decode cX3_count 107 = .ok (.iinc 3 1, 3) := by decide +kernel
theorem dX3_count_110 : decode cX3_count 110 = .ok (.goto (-29), 3) := by decide +kernel
theorem dX3_count_113 : decode cX3_count 113 = .ok (.iload_n 2, 1) := by decide +kernel
theorem dX3_count_114 : decode cX3_count 114 = .ok (.ireturn, 1) := by decide +kernel
theorem dX3_count_115 : decode cX3_count 115 = .ok (.iconst 0, 1) := by decide +kernel
theorem dX3_count_116 : decode cX3_count 116 = .ok (.istore_n 3, 1) := by decide +kernel
theorem dX3_count_117 : decode cX3_count 117 = .ok (.iload_n 3, 1) := by decide +kernel
theorem dX3_count_118 : decode cX3_count 118 = .ok (.iconst 4, 1) := by decide +kernel
theorem dX3_count_119 : decode cX3_count 119 = .ok (.if_icmp .ge 31, 3) := by decide +kernel
theorem dX3_count_122 : decode cX3_count 122 = .ok (.iload_n 2, 1) := by decide +kernel
theorem dX3_count_123 : decode cX3_count 123 = .ok (.aload_n 0, 1) := by decide +kernel
theorem dX3_count_124 : decode cX3_count 124 = .ok (.iconst 4, 1) := by decide +kernel
theorem dX3_count_125 : decode cX3_count 125 = .ok (.iload_n 1, 1) := by decide +kernel
theorem dX3_count_126 : decode cX3_count 126 = .ok (.iconst 3, 1) := by decide +kernel
theorem dX3_count_127 : decode cX3_count 127 = .ok (.isub, 1) := by decide +kernel
theorem dX3_count_128 : decode cX3_count 128 = .ok (.imul, 1) := by decide +kernel
theorem dX3_count_129 : decode cX3_count 129 = .ok (.iload_n 3, 1) := by decide +kernel
theorem dX3_count_130 : decode cX3_count 130 = .ok (.iadd, 1) := by decide +kernel
theorem dX3_count_131 : decode cX3_count 131 = .ok (.invokevirtual 73, 3) := by decide +kernel
theorem dX3_count_134 : decode cX3_count 134 = .ok (.ifCond .eq 7, 3) := by decide +kernel
theorem dX3_count_137 : decode cX3_count 137 = .ok (.iconst 1, 1) := by decide +kernel
theorem dX3_count_138 : decode cX3_count 138 = .ok (.goto 4, 3) := by decide +kernel
theorem dX3_count_141 : decode cX3_count 141 = .ok (.iconst 0, 1) := by decide +kernel
theorem dX3_count_142 : decode cX3_count 142 = .ok (.iadd, 1) := by decide +kernel
theorem dX3_count_143 : decode cX3_count 143 = .ok (.istore_n 2, 1) := by decide +kernel
theorem dX3_count_144 : decode cX3_count 144 = .ok (.iinc 3 1, 3) := by decide +kernel
theorem dX3_count_147 : decode cX3_count 147 = .ok (.goto (-30), 3) := by decide +kernel
theorem dX3_count_150 : decode cX3_count 150 = .ok (.iload_n 2, 1) := by decide +kernel
theorem dX3_count_151 : decode cX3_count 151 = .ok (.ireturn, 1) := by decide +kernel
theorem dX3_count_152 : decode cX3_count 152 = .ok (.bipush (-100), 2) := by decide +kernel
theorem dX3_count_154 : decode cX3_count 154 = .ok (.ireturn, 1) := by decide +kernel
theorem dX3_trace_0 : decode cX3_trace 0 = .ok (.aload_n 0, 1) := by decide +kernel
theorem dX3_trace_1 : decode cX3_trace 1 = .ok (.getfield 58, 3) := by decide +kernel
theorem dX3_trace_4 : decode cX3_trace 4 = .ok (.lreturn, 1) := by decide +kernel
theorem dJ6_compare_7cf53_0 : decode cJ6_compare_7cf53 0 = .ok (.iload_n 0, 1) := by decide +kernel
theorem dJ6_compare_7cf53_1 : decode cJ6_compare_7cf53 1 = .ok (.iload_n 1, 1) := by decide +kernel
theorem dJ6_compare_7cf53_2 : decode cJ6_compare_7cf53 2 = .ok (.if_icmp .ge 7, 3) := by decide +kernel
theorem dJ6_compare_7cf53_5 : decode cJ6_compare_7cf53 5 = .ok (.iconst (-1), 1) := by decide +kernel
theorem dJ6_compare_7cf53_6 : decode cJ6_compare_7cf53 6 = .ok (.goto 13, 3) := by decide +kernel
theorem dJ6_compare_7cf53_9 : decode cJ6_compare_7cf53 9 = .ok (.iload_n 0, 1) := by decide +kernel
theorem dJ6_compare_7cf53_10 : decode cJ6_compare_7cf53 10 = .ok (.iload_n 1, 1) := by decide +kernel
theorem dJ6_compare_7cf53_11 : decode cJ6_compare_7cf53 11 = .ok (.if_icmp .ne 7, 3) := by decide +kernel
theorem dJ6_compare_7cf53_14 : decode cJ6_compare_7cf53 14 = .ok (.iconst 0, 1) := by decide +kernel
theorem dJ6_compare_7cf53_15 : decode cJ6_compare_7cf53 15 = .ok (.goto 4, 3) := by decide +kernel
theorem dJ6_compare_7cf53_18 : decode cJ6_compare_7cf53 18 = .ok (.iconst 1, 1) := by decide +kernel
theorem dJ6_compare_7cf53_19 : decode cJ6_compare_7cf53 19 = .ok (.ireturn, 1) := by decide +kernel
theorem dJ9_floorDiv_7cf53_0 : decode cJ9_floorDiv_7cf53 0 = .ok (.iload_n 0, 1) := by decide +kernel
theorem dJ9_floorDiv_7cf53_1 : decode cJ9_floorDiv_7cf53 1 = .ok (.iload_n 1, 1) := by decide +kernel
theorem dJ9_floorDiv_7cf53_2 : decode cJ9_floorDiv_7cf53 2 = .ok (.idiv, 1) := by decide +kernel
theorem dJ9_floorDiv_7cf53_3 : decode cJ9_floorDiv_7cf53 3 = .ok (.istore_n 2, 1) := by decide +kernel
theorem dJ9_floorDiv_7cf53_4 : decode cJ9_floorDiv_7cf53 4 = .ok (.iload_n 0, 1) := by decide +kernel
theorem dJ9_floorDiv_7cf53_5 : decode cJ9_floorDiv_7cf53 5 = .ok (.iload_n 1, 1) := by decide +kernel
theorem dJ9_floorDiv_7cf53_6 : decode cJ9_floorDiv_7cf53 6 = .ok (.ixor, 1) := by decide +kernel
theorem dJ9_floorDiv_7cf53_7 : decode cJ9_floorDiv_7cf53 7 = .ok (.ifCond .ge 14, 3) := by decide +kernel
theorem dJ9_floorDiv_7cf53_10 : decode cJ9_floorDiv_7cf53 10 = .ok (.iload_n 2, 1) := by decide +kernel
theorem dJ9_floorDiv_7cf53_11 : decode cJ9_floorDiv_7cf53 11 = .ok (.iload_n 1, 1) := by decide +kernel
theorem dJ9_floorDiv_7cf53_12 : decode cJ9_floorDiv_7cf53 12 = .ok (.imul, 1) := by decide +kernel
theorem dJ9_floorDiv_7cf53_13 : decode cJ9_floorDiv_7cf53 13 = .ok (.iload_n 0, 1) := by decide +kernel
theorem dJ9_floorDiv_7cf53_14 : decode cJ9_floorDiv_7cf53 14 = .ok (.if_icmp .eq 7, 3) := by decide +kernel
theorem dJ9_floorDiv_7cf53_17 : decode cJ9_floorDiv_7cf53 17 = .ok (.iload_n 2, 1) := by decide +kernel
theorem dJ9_floorDiv_7cf53_18 : decode cJ9_floorDiv_7cf53 18 = .ok (.iconst 1, 1) := by decide +kernel
theorem dJ9_floorDiv_7cf53_19 : decode cJ9_floorDiv_7cf53 19 = .ok (.isub, 1) := by decide +kernel
theorem dJ9_floorDiv_7cf53_20 : decode cJ9_floorDiv_7cf53 20 = .ok (.ireturn, 1) := by decide +kernel
theorem dJ9_floorDiv_7cf53_21 : decode cJ9_floorDiv_7cf53 21 = .ok (.iload_n 2, 1) := by decide +kernel
theorem dJ9_floorDiv_7cf53_22 : decode cJ9_floorDiv_7cf53 22 = .ok (.ireturn, 1) := by decide +kernel
theorem dJ9_abs_0f7a4_0 : decode cJ9_abs_0f7a4 0 = .ok (.iload_n 0, 1) := by decide +kernel
theorem dJ9_abs_0f7a4_1 : decode cJ9_abs_0f7a4 1 = .ok (.ifCond .ge 8, 3) := by decide +kernel
theorem dJ9_abs_0f7a4_4 : decode cJ9_abs_0f7a4 4 = .ok (.iload_n 0, 1) := by decide +kernel
theorem dJ9_abs_0f7a4_5 : decode cJ9_abs_0f7a4 5 = .ok (.ineg, 1) := by decide +kernel
theorem dJ9_abs_0f7a4_6 : decode cJ9_abs_0f7a4 6 = .ok (.goto 4, 3) := by decide +kernel
theorem dJ9_abs_0f7a4_9 : decode cJ9_abs_0f7a4 9 = .ok (.iload_n 0, 1) := by decide +kernel
theorem dJ9_abs_0f7a4_10 : decode cJ9_abs_0f7a4 10 = .ok (.ireturn, 1) := by decide +kernel
theorem dJ9_max_7cf53_0 : decode cJ9_max_7cf53 0 = .ok (.iload_n 0, 1) := by decide +kernel
theorem dJ9_max_7cf53_1 : decode cJ9_max_7cf53 1 = .ok (.iload_n 1, 1) := by decide +kernel
theorem dJ9_max_7cf53_2 : decode cJ9_max_7cf53 2 = .ok (.if_icmp .lt 7, 3) := by decide +kernel
theorem dJ9_max_7cf53_5 : decode cJ9_max_7cf53 5 = .ok (.iload_n 0, 1) := by decide +kernel
theorem dJ9_max_7cf53_6 : decode cJ9_max_7cf53 6 = .ok (.goto 4, 3) := by decide +kernel
theorem dJ9_max_7cf53_9 : decode cJ9_max_7cf53 9 = .ok (.iload_n 1, 1) := by decide +kernel
theorem dJ9_max_7cf53_10 : decode cJ9_max_7cf53 10 = .ok (.ireturn, 1) := by decide +kernel
theorem dJ9_min_7cf53_0 : decode cJ9_min_7cf53 0 = .ok (.iload_n 0, 1) := by decide +kernel
theorem dJ9_min_7cf53_1 : decode cJ9_min_7cf53 1 = .ok (.iload_n 1, 1) := by decide +kernel
theorem dJ9_min_7cf53_2 : decode cJ9_min_7cf53 2 = .ok (.if_icmp .gt 7, 3) := by decide +kernel
theorem dJ9_min_7cf53_5 : decode cJ9_min_7cf53 5 = .ok (.iload_n 0, 1) := by decide +kernel
theorem dJ9_min_7cf53_6 : decode cJ9_min_7cf53 6 = .ok (.goto 4, 3) := by decide +kernel
theorem dJ9_min_7cf53_9 : decode cJ9_min_7cf53 9 = .ok (.iload_n 1, 1) := by decide +kernel
theorem dJ9_min_7cf53_10 : decode cJ9_min_7cf53 10 = .ok (.ireturn, 1) := by decide +kernel
theorem dL_law_0 : decode cL_law 0 = .ok (.new 7, 3) := by decide +kernel
theorem dL_law_3 : decode cL_law 3 = .ok (.dup, 1) := by decide +kernel
theorem dL_law_4 : decode cL_law 4 = .ok (.invokespecial 9, 3) := by decide +kernel
theorem dL_law_7 : decode cL_law 7 = .ok (.astore_n 1, 1) := by decide +kernel
theorem dL_law_8 : decode cL_law 8 = .ok (.new 10, 3) := by decide +kernel
theorem dL_law_11 : decode cL_law 11 = .ok (.dup, 1) := by decide +kernel
theorem dL_law_12 : decode cL_law 12 = .ok (.invokespecial 12, 3) := by decide +kernel
theorem dL_law_15 : decode cL_law 15 = .ok (.astore_n 2, 1) := by decide +kernel
theorem dL_law_16 : decode cL_law 16 = .ok (.iconst 0, 1) := by decide +kernel
theorem dL_law_17 : decode cL_law 17 = .ok (.istore_n 3, 1) := by decide +kernel
theorem dL_law_18 : decode cL_law 18 = .ok (.iload_n 3, 1) := by decide +kernel
theorem dL_law_19 : decode cL_law 19 = .ok (.aload_n 0, 1) := by decide +kernel
theorem dL_law_20 : decode cL_law 20 = .ok (.arraylength, 1) := by decide +kernel
theorem dL_law_21 : decode cL_law 21 = .ok (.bipush 6, 2) := by decide +kernel
theorem dL_law_23 : decode cL_law 23 = .ok (.isub, 1) := by decide +kernel
theorem dL_law_24 : decode cL_law 24 = .ok (.if_icmp .gt 898, 3) := by decide +kernel
theorem dL_law_27 : decode cL_law 27 = .ok (.aload_n 0, 1) := by decide +kernel
theorem dL_law_28 : decode cL_law 28 = .ok (.iload_n 3, 1) := by decide +kernel
theorem dL_law_29 : decode cL_law 29 = .ok (.iaload, 1) := by decide +kernel
theorem dL_law_30 : decode cL_law 30 = .ok (.bipush 31, 2) := by decide +kernel
theorem dL_law_32 : decode cL_law 32 = .ok (.iand, 1) := by decide +kernel
theorem dL_law_33 : decode cL_law 33 = .ok (.tableswitch 883 0 20 #[99, 162, 225, 268, 311, 354, 387, 440, 483, 516, 559, 592, 635, 668, 701, 734, 767, 800, 823, 846, 869], 99) := by decide +kernel
theorem dL_law_132 : decode cL_law 132 = .ok (.aload_n 1, 1) := by decide +kernel
theorem dL_law_133 : decode cL_law 133 = .ok (.aload_n 0, 1) := by decide +kernel
theorem dL_law_134 : decode cL_law 134 = .ok (.iload_n 3, 1) := by decide +kernel
theorem dL_law_135 : decode cL_law 135 = .ok (.iconst 1, 1) := by decide +kernel
theorem dL_law_136 : decode cL_law 136 = .ok (.iadd, 1) := by decide +kernel
theorem dL_law_137 : decode cL_law 137 = .ok (.iaload, 1) := by decide +kernel
theorem dL_law_138 : decode cL_law 138 = .ok (.aload_n 0, 1) := by decide +kernel
theorem dL_law_139 : decode cL_law 139 = .ok (.iload_n 3, 1) := by decide +kernel
theorem dL_law_140 : decode cL_law 140 = .ok (.iconst 2, 1) := by decide +kernel
theorem dL_law_141 : decode cL_law 141 = .ok (.iadd, 1) := by decide +kernel
theorem dL_law_142 : decode cL_law 142 = .ok (.iaload, 1) := by decide +kernel
theorem dL_law_143 : decode cL_law 143 = .ok (.aload_n 0, 1) := by decide +kernel
theorem dL_law_144 : decode cL_law 144 = .ok (.iload_n 3, 1) := by decide +kernel
theorem dL_law_145 : decode cL_law 145 = .ok (.iconst 3, 1) := by decide +kernel
theorem dL_law_146 : decode cL_law 146 = .ok (.iadd, 1) := by decide +kernel
theorem dL_law_147 : decode cL_law 147 = .ok (.iaload, 1) := by decide +kernel
theorem dL_law_148 : decode cL_law 148 = .ok (.aload_n 0, 1) := by decide +kernel
theorem dL_law_149 : decode cL_law 149 = .ok (.iload_n 3, 1) := by decide +kernel
theorem dL_law_150 : decode cL_law 150 = .ok (.iconst 4, 1) := by decide +kernel
theorem dL_law_151 : decode cL_law 151 = .ok (.iadd, 1) := by decide +kernel
theorem dL_law_152 : decode cL_law 152 = .ok (.iaload, 1) := by decide +kernel
theorem dL_law_153 : decode cL_law 153 = .ok (.aload_n 0, 1) := by decide +kernel
theorem dL_law_154 : decode cL_law 154 = .ok (.iload_n 3, 1) := by decide +kernel
theorem dL_law_155 : decode cL_law 155 = .ok (.iconst 5, 1) := by decide +kernel
theorem dL_law_156 : decode cL_law 156 = .ok (.iadd, 1) := by decide +kernel
theorem dL_law_157 : decode cL_law 157 = .ok (.iaload, 1) := by decide +kernel
theorem dL_law_158 : decode cL_law 158 = .ok (.invokevirtual 13, 3) := by decide +kernel
theorem dL_law_161 : decode cL_law 161 = .ok (.aload_n 2, 1) := by decide +kernel
theorem dL_law_162 : decode cL_law 162 = .ok (.aload_n 0, 1) := by decide +kernel
theorem dL_law_163 : decode cL_law 163 = .ok (.iload_n 3, 1) := by decide +kernel
theorem dL_law_164 : decode cL_law 164 = .ok (.iconst 1, 1) := by decide +kernel
theorem dL_law_165 : decode cL_law 165 = .ok (.iadd, 1) := by decide +kernel
theorem dL_law_166 : decode cL_law 166 = .ok (.iaload, 1) := by decide +kernel
theorem dL_law_167 : decode cL_law 167 = .ok (.aload_n 0, 1) := by decide +kernel
theorem dL_law_168 : decode cL_law 168 = .ok (.iload_n 3, 1) := by decide +kernel
theorem dL_law_169 : decode cL_law 169 = .ok (.iconst 2, 1) := by decide +kernel
theorem dL_law_170 : decode cL_law 170 = .ok (.iadd, 1) := by decide +kernel
theorem dL_law_171 : decode cL_law 171 = .ok (.iaload, 1) := by decide +kernel
theorem dL_law_172 : decode cL_law 172 = .ok (.aload_n 0, 1) := by decide +kernel
theorem dL_law_173 : decode cL_law 173 = .ok (.iload_n 3, 1) := by decide +kernel
theorem dL_law_174 : decode cL_law 174 = .ok (.iconst 3, 1) := by decide +kernel
theorem dL_law_175 : decode cL_law 175 = .ok (.iadd, 1) := by decide +kernel
theorem dL_law_176 : decode cL_law 176 = .ok (.iaload, 1) := by decide +kernel
theorem dL_law_177 : decode cL_law 177 = .ok (.aload_n 0, 1) := by decide +kernel
theorem dL_law_178 : decode cL_law 178 = .ok (.iload_n 3, 1) := by decide +kernel
theorem dL_law_179 : decode cL_law 179 = .ok (.iconst 4, 1) := by decide +kernel
theorem dL_law_180 : decode cL_law 180 = .ok (.iadd, 1) := by decide +kernel
theorem dL_law_181 : decode cL_law 181 = .ok (.iaload, 1) := by decide +kernel
theorem dL_law_182 : decode cL_law 182 = .ok (.aload_n 0, 1) := by decide +kernel
theorem dL_law_183 : decode cL_law 183 = .ok (.iload_n 3, 1) := by decide +kernel
theorem dL_law_184 : decode cL_law 184 = .ok (.iconst 5, 1) := by decide +kernel
theorem dL_law_185 : decode cL_law 185 = .ok (.iadd, 1) := by decide +kernel
theorem dL_law_186 : decode cL_law 186 = .ok (.iaload, 1) := by decide +kernel
theorem dL_law_187 : decode cL_law 187 = .ok (.invokevirtual 17, 3) := by decide +kernel
theorem dL_law_190 : decode cL_law 190 = .ok (.if_icmp .eq 726, 3) := by decide +kernel
theorem dL_law_193 : decode cL_law 193 = .ok (.iconst 0, 1) := by decide +kernel
theorem dL_law_194 : decode cL_law 194 = .ok (.ireturn, 1) := by decide +kernel
theorem dL_law_195 : decode cL_law 195 = .ok (.aload_n 1, 1) := by decide +kernel
theorem dL_law_196 : decode cL_law 196 = .ok (.aload_n 0, 1) := by decide +kernel
theorem dL_law_197 : decode cL_law 197 = .ok (.iload_n 3, 1) := by decide +kernel
theorem dL_law_198 : decode cL_law 198 = .ok (.iconst 1, 1) := by decide +kernel
theorem dL_law_199 : decode cL_law 199 = .ok (.iadd, 1) := by decide +kernel
theorem dL_law_200 : decode cL_law 200 = .ok (.iaload, 1) := by decide +kernel
theorem dL_law_201 : decode cL_law 201 = .ok (.aload_n 0, 1) := by decide +kernel
theorem dL_law_202 : decode cL_law 202 = .ok (.iload_n 3, 1) := by decide +kernel
theorem dL_law_203 : decode cL_law 203 = .ok (.iconst 2, 1) := by decide +kernel
theorem dL_law_204 : decode cL_law 204 = .ok (.iadd, 1) := by decide +kernel
theorem dL_law_205 : decode cL_law 205 = .ok (.iaload, 1) := by decide +kernel
theorem dL_law_206 : decode cL_law 206 = .ok (.aload_n 0, 1) := by decide +kernel
theorem dL_law_207 : decode cL_law 207 = .ok (.iload_n 3, 1) := by decide +kernel
theorem dL_law_208 : decode cL_law 208 = .ok (.iconst 3, 1) := by decide +kernel
theorem dL_law_209 : decode cL_law 209 = .ok (.iadd, 1) := by decide +kernel
theorem dL_law_210 : decode cL_law 210 = .ok (.iaload, 1) := by decide +kernel
theorem dL_law_211 : decode cL_law 211 = .ok (.aload_n 0, 1) := by decide +kernel
theorem dL_law_212 : decode cL_law 212 = .ok (.iload_n 3, 1) := by decide +kernel
theorem dL_law_213 : decode cL_law 213 = .ok (.iconst 4, 1) := by decide +kernel
theorem dL_law_214 : decode cL_law 214 = .ok (.iadd, 1) := by decide +kernel
theorem dL_law_215 : decode cL_law 215 = .ok (.iaload, 1) := by decide +kernel
theorem dL_law_216 : decode cL_law 216 = .ok (.aload_n 0, 1) := by decide +kernel
theorem dL_law_217 : decode cL_law 217 = .ok (.iload_n 3, 1) := by decide +kernel
theorem dL_law_218 : decode cL_law 218 = .ok (.iconst 5, 1) := by decide +kernel
theorem dL_law_219 : decode cL_law 219 = .ok (.iadd, 1) := by decide +kernel
theorem dL_law_220 : decode cL_law 220 = .ok (.iaload, 1) := by decide +kernel
theorem dL_law_221 : decode cL_law 221 = .ok (.invokevirtual 18, 3) := by decide +kernel
theorem dL_law_224 : decode cL_law 224 = .ok (.aload_n 2, 1) := by decide +kernel
theorem dL_law_225 : decode cL_law 225 = .ok (.aload_n 0, 1) := by decide +kernel
theorem dL_law_226 : decode cL_law 226 = .ok (.iload_n 3, 1) := by decide +kernel
theorem dL_law_227 : decode cL_law 227 = .ok (.iconst 1, 1) := by decide +kernel
theorem dL_law_228 : decode cL_law 228 = .ok (.iadd, 1) := by decide +kernel
theorem dL_law_229 : decode cL_law 229 = .ok (.iaload, 1) := by decide +kernel
theorem dL_law_230 : decode cL_law 230 = .ok (.aload_n 0, 1) := by decide +kernel
theorem dL_law_231 : decode cL_law 231 = .ok (.iload_n 3, 1) := by decide +kernel
theorem dL_law_232 : decode cL_law 232 = .ok (.iconst 2, 1) := by decide +kernel
theorem dL_law_233 : decode cL_law 233 = .ok (.iadd, 1) := by decide +kernel
theorem dL_law_234 : decode cL_law 234 = .ok (.iaload, 1) := by decide +kernel
theorem dL_law_235 : decode cL_law 235 = .ok (.aload_n 0, 1) := by decide +kernel
theorem dL_law_236 : decode cL_law 236 = .ok (.iload_n 3, 1) := by decide +kernel
theorem dL_law_237 : decode cL_law 237 = .ok (.iconst 3, 1) := by decide +kernel
theorem dL_law_238 : decode cL_law 238 = .ok (.iadd, 1) := by decide +kernel
theorem dL_law_239 : decode cL_law 239 = .ok (.iaload, 1) := by decide +kernel
theorem dL_law_240 : decode cL_law 240 = .ok (.aload_n 0, 1) := by decide +kernel
theorem dL_law_241 : decode cL_law 241 = .ok (.iload_n 3, 1) := by decide +kernel
theorem dL_law_242 : decode cL_law 242 = .ok (.iconst 4, 1) := by decide +kernel
theorem dL_law_243 : decode cL_law 243 = .ok (.iadd, 1) := by decide +kernel
theorem dL_law_244 : decode cL_law 244 = .ok (.iaload, 1) := by decide +kernel
theorem dL_law_245 : decode cL_law 245 = .ok (.aload_n 0, 1) := by decide +kernel
theorem dL_law_246 : decode cL_law 246 = .ok (.iload_n 3, 1) := by decide +kernel
theorem dL_law_247 : decode cL_law 247 = .ok (.iconst 5, 1) := by decide +kernel
theorem dL_law_248 : decode cL_law 248 = .ok (.iadd, 1) := by decide +kernel
theorem dL_law_249 : decode cL_law 249 = .ok (.iaload, 1) := by decide +kernel
theorem dL_law_250 : decode cL_law 250 = .ok (.invokevirtual 21, 3) := by decide +kernel
theorem dL_law_253 : decode cL_law 253 = .ok (.if_icmp .eq 663, 3) := by decide +kernel
theorem dL_law_256 : decode cL_law 256 = .ok (.iconst 0, 1) := by decide +kernel
theorem dL_law_257 : decode cL_law 257 = .ok (.ireturn, 1) := by decide +kernel
theorem dL_law_258 : decode cL_law 258 = .ok (.aload_n 1, 1) := by decide +kernel
theorem dL_law_259 : decode cL_law 259 = .ok (.aload_n 0, 1) := by decide +kernel
theorem dL_law_260 : decode cL_law 260 = .ok (.iload_n 3, 1) := by decide +kernel
theorem dL_law_261 : decode cL_law 261 = .ok (.iconst 1, 1) := by decide +kernel
theorem dL_law_262 : decode cL_law 262 = .ok (.iadd, 1) := by decide +kernel
theorem dL_law_263 : decode cL_law 263 = .ok (.iaload, 1) := by decide +kernel
theorem dL_law_264 : decode cL_law 264 = .ok (.aload_n 0, 1) := by decide +kernel
theorem dL_law_265 : decode cL_law 265 = .ok (.iload_n 3, 1) := by decide +kernel
theorem dL_law_266 : decode cL_law 266 = .ok (.iconst 2, 1) := by decide +kernel
theorem dL_law_267 : decode cL_law 267 = .ok (.iadd, 1) := by decide +kernel
theorem dL_law_268 : decode cL_law 268 = .ok (.iaload, 1) := by decide +kernel
theorem dL_law_269 : decode cL_law 269 = .ok (.aload_n 0, 1) := by decide +kernel
theorem dL_law_270 : decode cL_law 270 = .ok (.iload_n 3, 1) := by decide +kernel
theorem dL_law_271 : decode cL_law 271 = .ok (.iconst 3, 1) := by decide +kernel
theorem dL_law_272 : decode cL_law 272 = .ok (.iadd, 1) := by decide +kernel
theorem dL_law_273 : decode cL_law 273 = .ok (.iaload, 1) := by decide +kernel
theorem dL_law_274 : decode cL_law 274 = .ok (.invokevirtual 22, 3) := by decide +kernel
theorem dL_law_277 : decode cL_law 277 = .ok (.aload_n 2, 1) := by decide +kernel
theorem dL_law_278 : decode cL_law 278 = .ok (.aload_n 0, 1) := by decide +kernel
theorem dL_law_279 : decode cL_law 279 = .ok (.iload_n 3, 1) := by decide +kernel
theorem dL_law_280 : decode cL_law 280 = .ok (.iconst 1, 1) := by decide +kernel
theorem dL_law_281 : decode cL_law 281 = .ok (.iadd, 1) := by decide +kernel
theorem dL_law_282 : decode cL_law 282 = .ok (.iaload, 1) := by decide +kernel
theorem dL_law_283 : decode cL_law 283 = .ok (.aload_n 0, 1) := by decide +kernel
theorem dL_law_284 : decode cL_law 284 = .ok (.iload_n 3, 1) := by decide +kernel
theorem dL_law_285 : decode cL_law 285 = .ok (.iconst 2, 1) := by decide +kernel
theorem dL_law_286 : decode cL_law 286 = .ok (.iadd, 1) := by decide +kernel
theorem dL_law_287 : decode cL_law 287 = .ok (.iaload, 1) := by decide +kernel
theorem dL_law_288 : decode cL_law 288 = .ok (.aload_n 0, 1) := by decide +kernel
theorem dL_law_289 : decode cL_law 289 = .ok (.iload_n 3, 1) := by decide +kernel
theorem dL_law_290 : decode cL_law 290 = .ok (.iconst 3, 1) := by decide +kernel
theorem dL_law_291 : decode cL_law 291 = .ok (.iadd, 1) := by decide +kernel
theorem dL_law_292 : decode cL_law 292 = .ok (.iaload, 1) := by decide +kernel
theorem dL_law_293 : decode cL_law 293 = .ok (.invokevirtual 26, 3) := by decide +kernel
theorem dL_law_296 : decode cL_law 296 = .ok (.if_icmp .eq 620, 3) := by decide +kernel
theorem dL_law_299 : decode cL_law 299 = .ok (.iconst 0, 1) := by decide +kernel
theorem dL_law_300 : decode cL_law 300 = .ok (.ireturn, 1) := by decide +kernel
theorem dL_law_301 : decode cL_law 301 = .ok (.aload_n 1, 1) := by decide +kernel
theorem dL_law_302 : decode cL_law 302 = .ok (.aload_n 0, 1) := by decide +kernel
theorem dL_law_303 : decode cL_law 303 = .ok (.iload_n 3, 1) := by decide +kernel
theorem dL_law_304 : decode cL_law 304 = .ok (.iconst 1, 1) := by decide +kernel
theorem dL_law_305 : decode cL_law 305 = .ok (.iadd, 1) := by decide +kernel
theorem dL_law_306 : decode cL_law 306 = .ok (.iaload, 1) := by decide +kernel
theorem dL_law_307 : decode cL_law 307 = .ok (.aload_n 0, 1) := by decide +kernel
theorem dL_law_308 : decode cL_law 308 = .ok (.iload_n 3, 1) := by decide +kernel
theorem dL_law_309 : decode cL_law 309 = .ok (.iconst 2, 1) := by decide +kernel
theorem dL_law_310 : decode cL_law 310 = .ok (.iadd, 1) := by decide +kernel
theorem dL_law_311 : decode cL_law 311 = .ok (.iaload, 1) := by decide +kernel
theorem dL_law_312 : decode cL_law 312 = .ok (.aload_n 0, 1) := by decide +kernel
theorem dL_law_313 : decode cL_law 313 = .ok (.iload_n 3, 1) := by decide +kernel
theorem dL_law_314 : decode cL_law 314 = .ok (.iconst 3, 1) := by decide +kernel
theorem dL_law_315 : decode cL_law 315 = .ok (.iadd, 1) := by decide +kernel
theorem dL_law_316 : decode cL_law 316 = .ok (.iaload, 1) := by decide +kernel
theorem dL_law_317 : decode cL_law 317 = .ok (.invokevirtual 27, 3) := by decide +kernel
theorem dL_law_320 : decode cL_law 320 = .ok (.aload_n 2, 1) := by decide +kernel
theorem dL_law_321 : decode cL_law 321 = .ok (.aload_n 0, 1) := by decide +kernel
theorem dL_law_322 : decode cL_law 322 = .ok (.iload_n 3, 1) := by decide +kernel
theorem dL_law_323 : decode cL_law 323 = .ok (.iconst 1, 1) := by decide +kernel
theorem dL_law_324 : decode cL_law 324 = .ok (.iadd, 1) := by decide +kernel
theorem dL_law_325 : decode cL_law 325 = .ok (.iaload, 1) := by decide +kernel
theorem dL_law_326 : decode cL_law 326 = .ok (.aload_n 0, 1) := by decide +kernel
theorem dL_law_327 : decode cL_law 327 = .ok (.iload_n 3, 1) := by decide +kernel
theorem dL_law_328 : decode cL_law 328 = .ok (.iconst 2, 1) := by decide +kernel
theorem dL_law_329 : decode cL_law 329 = .ok (.iadd, 1) := by decide +kernel
theorem dL_law_330 : decode cL_law 330 = .ok (.iaload, 1) := by decide +kernel
theorem dL_law_331 : decode cL_law 331 = .ok (.aload_n 0, 1) := by decide +kernel
theorem dL_law_332 : decode cL_law 332 = .ok (.iload_n 3, 1) := by decide +kernel
theorem dL_law_333 : decode cL_law 333 = .ok (.iconst 3, 1) := by decide +kernel
theorem dL_law_334 : decode cL_law 334 = .ok (.iadd, 1) := by decide +kernel
theorem dL_law_335 : decode cL_law 335 = .ok (.iaload, 1) := by decide +kernel
theorem dL_law_336 : decode cL_law 336 = .ok (.invokevirtual 30, 3) := by decide +kernel
theorem dL_law_339 : decode cL_law 339 = .ok (.if_icmp .eq 577, 3) := by decide +kernel
theorem dL_law_342 : decode cL_law 342 = .ok (.iconst 0, 1) := by decide +kernel
theorem dL_law_343 : decode cL_law 343 = .ok (.ireturn, 1) := by decide +kernel
theorem dL_law_344 : decode cL_law 344 = .ok (.aload_n 1, 1) := by decide +kernel
theorem dL_law_345 : decode cL_law 345 = .ok (.aload_n 0, 1) := by decide +kernel
theorem dL_law_346 : decode cL_law 346 = .ok (.iload_n 3, 1) := by decide +kernel
theorem dL_law_347 : decode cL_law 347 = .ok (.iconst 1, 1) := by decide +kernel
theorem dL_law_348 : decode cL_law 348 = .ok (.iadd, 1) := by decide +kernel
theorem dL_law_349 : decode cL_law 349 = .ok (.iaload, 1) := by decide +kernel
theorem dL_law_350 : decode cL_law 350 = .ok (.aload_n 0, 1) := by decide +kernel
theorem dL_law_351 : decode cL_law 351 = .ok (.iload_n 3, 1) := by decide +kernel
theorem dL_law_352 : decode cL_law 352 = .ok (.iconst 2, 1) := by decide +kernel
theorem dL_law_353 : decode cL_law 353 = .ok (.iadd, 1) := by decide +kernel
theorem dL_law_354 : decode cL_law 354 = .ok (.iaload, 1) := by decide +kernel
theorem dL_law_355 : decode cL_law 355 = .ok (.aload_n 0, 1) := by decide +kernel
theorem dL_law_356 : decode cL_law 356 = .ok (.iload_n 3, 1) := by decide +kernel
theorem dL_law_357 : decode cL_law 357 = .ok (.iconst 3, 1) := by decide +kernel
theorem dL_law_358 : decode cL_law 358 = .ok (.iadd, 1) := by decide +kernel
theorem dL_law_359 : decode cL_law 359 = .ok (.iaload, 1) := by decide +kernel
theorem dL_law_360 : decode cL_law 360 = .ok (.invokevirtual 31, 3) := by decide +kernel
theorem dL_law_363 : decode cL_law 363 = .ok (.aload_n 2, 1) := by decide +kernel
theorem dL_law_364 : decode cL_law 364 = .ok (.aload_n 0, 1) := by decide +kernel
theorem dL_law_365 : decode cL_law 365 = .ok (.iload_n 3, 1) := by decide +kernel
theorem dL_law_366 : decode cL_law 366 = .ok (.iconst 1, 1) := by decide +kernel
theorem dL_law_367 : decode cL_law 367 = .ok (.iadd, 1) := by decide +kernel
theorem dL_law_368 : decode cL_law 368 = .ok (.iaload, 1) := by decide +kernel
theorem dL_law_369 : decode cL_law 369 = .ok (.aload_n 0, 1) := by decide +kernel
theorem dL_law_370 : decode cL_law 370 = .ok (.iload_n 3, 1) := by decide +kernel
theorem dL_law_371 : decode cL_law 371 = .ok (.iconst 2, 1) := by decide +kernel
theorem dL_law_372 : decode cL_law 372 = .ok (.iadd, 1) := by decide +kernel
theorem dL_law_373 : decode cL_law 373 = .ok (.iaload, 1) := by decide +kernel
theorem dL_law_374 : decode cL_law 374 = .ok (.aload_n 0, 1) := by decide +kernel
theorem dL_law_375 : decode cL_law 375 = .ok (.iload_n 3, 1) := by decide +kernel
theorem dL_law_376 : decode cL_law 376 = .ok (.iconst 3, 1) := by decide +kernel
theorem dL_law_377 : decode cL_law 377 = .ok (.iadd, 1) := by decide +kernel
theorem dL_law_378 : decode cL_law 378 = .ok (.iaload, 1) := by decide +kernel
theorem dL_law_379 : decode cL_law 379 = .ok (.invokevirtual 34, 3) := by decide +kernel
theorem dL_law_382 : decode cL_law 382 = .ok (.if_icmp .eq 534, 3) := by decide +kernel
theorem dL_law_385 : decode cL_law 385 = .ok (.iconst 0, 1) := by decide +kernel
theorem dL_law_386 : decode cL_law 386 = .ok (.ireturn, 1) := by decide +kernel
theorem dL_law_387 : decode cL_law 387 = .ok (.aload_n 1, 1) := by decide +kernel
theorem dL_law_388 : decode cL_law 388 = .ok (.aload_n 0, 1) := by decide +kernel
theorem dL_law_389 : decode cL_law 389 = .ok (.iload_n 3, 1) := by decide +kernel
theorem dL_law_390 : decode cL_law 390 = .ok (.iconst 1, 1) := by decide +kernel
theorem dL_law_391 : decode cL_law 391 = .ok (.iadd, 1) := by decide +kernel
theorem dL_law_392 : decode cL_law 392 = .ok (.iaload, 1) := by decide +kernel
theorem dL_law_393 : decode cL_law 393 = .ok (.aload_n 0, 1) := by decide +kernel
theorem dL_law_394 : decode cL_law 394 = .ok (.iload_n 3, 1) := by decide +kernel
theorem dL_law_395 : decode cL_law 395 = .ok (.iconst 2, 1) := by decide +kernel
theorem dL_law_396 : decode cL_law 396 = .ok (.iadd, 1) := by decide +kernel
theorem dL_law_397 : decode cL_law 397 = .ok (.iaload, 1) := by decide +kernel
theorem dL_law_398 : decode cL_law 398 = .ok (.invokevirtual 35, 3) := by decide +kernel
theorem dL_law_401 : decode cL_law 401 = .ok (.aload_n 2, 1) := by decide +kernel
theorem dL_law_402 : decode cL_law 402 = .ok (.aload_n 0, 1) := by decide +kernel
theorem dL_law_403 : decode cL_law 403 = .ok (.iload_n 3, 1) := by decide +kernel
theorem dL_law_404 : decode cL_law 404 = .ok (.iconst 1, 1) := by decide +kernel
theorem dL_law_405 : decode cL_law 405 = .ok (.iadd, 1) := by decide +kernel
theorem dL_law_406 : decode cL_law 406 = .ok (.iaload, 1) := by decide +kernel
theorem dL_law_407 : decode cL_law 407 = .ok (.aload_n 0, 1) := by decide +kernel
theorem dL_law_408 : decode cL_law 408 = .ok (.iload_n 3, 1) := by decide +kernel
theorem dL_law_409 : decode cL_law 409 = .ok (.iconst 2, 1) := by decide +kernel
theorem dL_law_410 : decode cL_law 410 = .ok (.iadd, 1) := by decide +kernel
theorem dL_law_411 : decode cL_law 411 = .ok (.iaload, 1) := by decide +kernel
theorem dL_law_412 : decode cL_law 412 = .ok (.invokevirtual 39, 3) := by decide +kernel
theorem dL_law_415 : decode cL_law 415 = .ok (.if_icmp .eq 501, 3) := by decide +kernel
theorem dL_law_418 : decode cL_law 418 = .ok (.iconst 0, 1) := by decide +kernel
theorem dL_law_419 : decode cL_law 419 = .ok (.ireturn, 1) := by decide +kernel
theorem dL_law_420 : decode cL_law 420 = .ok (.aload_n 1, 1) := by decide +kernel
theorem dL_law_421 : decode cL_law 421 = .ok (.aload_n 0, 1) := by decide +kernel
theorem dL_law_422 : decode cL_law 422 = .ok (.iload_n 3, 1) := by decide +kernel
theorem dL_law_423 : decode cL_law 423 = .ok (.iconst 1, 1) := by decide +kernel
theorem dL_law_424 : decode cL_law 424 = .ok (.iadd, 1) := by decide +kernel
theorem dL_law_425 : decode cL_law 425 = .ok (.iaload, 1) := by decide +kernel
theorem dL_law_426 : decode cL_law 426 = .ok (.aload_n 0, 1) := by decide +kernel
theorem dL_law_427 : decode cL_law 427 = .ok (.iload_n 3, 1) := by decide +kernel
theorem dL_law_428 : decode cL_law 428 = .ok (.iconst 2, 1) := by decide +kernel
theorem dL_law_429 : decode cL_law 429 = .ok (.iadd, 1) := by decide +kernel
theorem dL_law_430 : decode cL_law 430 = .ok (.iaload, 1) := by decide +kernel
theorem dL_law_431 : decode cL_law 431 = .ok (.aload_n 0, 1) := by decide +kernel
theorem dL_law_432 : decode cL_law 432 = .ok (.iload_n 3, 1) := by decide +kernel
theorem dL_law_433 : decode cL_law 433 = .ok (.iconst 3, 1) := by decide +kernel
theorem dL_law_434 : decode cL_law 434 = .ok (.iadd, 1) := by decide +kernel
theorem dL_law_435 : decode cL_law 435 = .ok (.iaload, 1) := by decide +kernel
theorem dL_law_436 : decode cL_law 436 = .ok (.aload_n 0, 1) := by decide +kernel
theorem dL_law_437 : decode cL_law 437 = .ok (.iload_n 3, 1) := by decide +kernel
theorem dL_law_438 : decode cL_law 438 = .ok (.iconst 4, 1) := by decide +kernel
theorem dL_law_439 : decode cL_law 439 = .ok (.iadd, 1) := by decide +kernel
theorem dL_law_440 : decode cL_law 440 = .ok (.iaload, 1) := by decide +kernel
theorem dL_law_441 : decode cL_law 441 = .ok (.invokevirtual 40, 3) := by decide +kernel
theorem dL_law_444 : decode cL_law 444 = .ok (.aload_n 2, 1) := by decide +kernel
theorem dL_law_445 : decode cL_law 445 = .ok (.aload_n 0, 1) := by decide +kernel
theorem dL_law_446 : decode cL_law 446 = .ok (.iload_n 3, 1) := by decide +kernel
theorem dL_law_447 : decode cL_law 447 = .ok (.iconst 1, 1) := by decide +kernel
theorem dL_law_448 : decode cL_law 448 = .ok (.iadd, 1) := by decide +kernel
theorem dL_law_449 : decode cL_law 449 = .ok (.iaload, 1) := by decide +kernel
theorem dL_law_450 : decode cL_law 450 = .ok (.aload_n 0, 1) := by decide +kernel
theorem dL_law_451 : decode cL_law 451 = .ok (.iload_n 3, 1) := by decide +kernel
theorem dL_law_452 : decode cL_law 452 = .ok (.iconst 2, 1) := by decide +kernel
theorem dL_law_453 : decode cL_law 453 = .ok (.iadd, 1) := by decide +kernel
theorem dL_law_454 : decode cL_law 454 = .ok (.iaload, 1) := by decide +kernel
theorem dL_law_455 : decode cL_law 455 = .ok (.aload_n 0, 1) := by decide +kernel
theorem dL_law_456 : decode cL_law 456 = .ok (.iload_n 3, 1) := by decide +kernel
theorem dL_law_457 : decode cL_law 457 = .ok (.iconst 3, 1) := by decide +kernel
theorem dL_law_458 : decode cL_law 458 = .ok (.iadd, 1) := by decide +kernel
theorem dL_law_459 : decode cL_law 459 = .ok (.iaload, 1) := by decide +kernel
theorem dL_law_460 : decode cL_law 460 = .ok (.aload_n 0, 1) := by decide +kernel
theorem dL_law_461 : decode cL_law 461 = .ok (.iload_n 3, 1) := by decide +kernel
theorem dL_law_462 : decode cL_law 462 = .ok (.iconst 4, 1) := by decide +kernel
theorem dL_law_463 : decode cL_law 463 = .ok (.iadd, 1) := by decide +kernel
theorem dL_law_464 : decode cL_law 464 = .ok (.iaload, 1) := by decide +kernel
theorem dL_law_465 : decode cL_law 465 = .ok (.invokevirtual 44, 3) := by decide +kernel
theorem dL_law_468 : decode cL_law 468 = .ok (.if_icmp .eq 448, 3) := by decide +kernel
theorem dL_law_471 : decode cL_law 471 = .ok (.iconst 0, 1) := by decide +kernel
theorem dL_law_472 : decode cL_law 472 = .ok (.ireturn, 1) := by decide +kernel
theorem dL_law_473 : decode cL_law 473 = .ok (.aload_n 1, 1) := by decide +kernel
theorem dL_law_474 : decode cL_law 474 = .ok (.aload_n 0, 1) := by decide +kernel
theorem dL_law_475 : decode cL_law 475 = .ok (.iload_n 3, 1) := by decide +kernel
theorem dL_law_476 : decode cL_law 476 = .ok (.iconst 1, 1) := by decide +kernel
theorem dL_law_477 : decode cL_law 477 = .ok (.iadd, 1) := by decide +kernel
theorem dL_law_478 : decode cL_law 478 = .ok (.iaload, 1) := by decide +kernel
theorem dL_law_479 : decode cL_law 479 = .ok (.aload_n 0, 1) := by decide +kernel
theorem dL_law_480 : decode cL_law 480 = .ok (.iload_n 3, 1) := by decide +kernel
theorem dL_law_481 : decode cL_law 481 = .ok (.iconst 2, 1) := by decide +kernel
theorem dL_law_482 : decode cL_law 482 = .ok (.iadd, 1) := by decide +kernel
theorem dL_law_483 : decode cL_law 483 = .ok (.iaload, 1) := by decide +kernel
theorem dL_law_484 : decode cL_law 484 = .ok (.aload_n 0, 1) := by decide +kernel
theorem dL_law_485 : decode cL_law 485 = .ok (.iload_n 3, 1) := by decide +kernel
theorem dL_law_486 : decode cL_law 486 = .ok (.iconst 3, 1) := by decide +kernel
theorem dL_law_487 : decode cL_law 487 = .ok (.iadd, 1) := by decide +kernel
theorem dL_law_488 : decode cL_law 488 = .ok (.iaload, 1) := by decide +kernel
theorem dL_law_489 : decode cL_law 489 = .ok (.invokevirtual 45, 3) := by decide +kernel
theorem dL_law_492 : decode cL_law 492 = .ok (.aload_n 2, 1) := by decide +kernel
theorem dL_law_493 : decode cL_law 493 = .ok (.aload_n 0, 1) := by decide +kernel
theorem dL_law_494 : decode cL_law 494 = .ok (.iload_n 3, 1) := by decide +kernel
theorem dL_law_495 : decode cL_law 495 = .ok (.iconst 1, 1) := by decide +kernel
theorem dL_law_496 : decode cL_law 496 = .ok (.iadd, 1) := by decide +kernel
theorem dL_law_497 : decode cL_law 497 = .ok (.iaload, 1) := by decide +kernel
theorem dL_law_498 : decode cL_law 498 = .ok (.aload_n 0, 1) := by decide +kernel
theorem dL_law_499 : decode cL_law 499 = .ok (.iload_n 3, 1) := by decide +kernel
theorem dL_law_500 : decode cL_law 500 = .ok (.iconst 2, 1) := by decide +kernel
theorem dL_law_501 : decode cL_law 501 = .ok (.iadd, 1) := by decide +kernel
theorem dL_law_502 : decode cL_law 502 = .ok (.iaload, 1) := by decide +kernel
theorem dL_law_503 : decode cL_law 503 = .ok (.aload_n 0, 1) := by decide +kernel
theorem dL_law_504 : decode cL_law 504 = .ok (.iload_n 3, 1) := by decide +kernel
theorem dL_law_505 : decode cL_law 505 = .ok (.iconst 3, 1) := by decide +kernel
theorem dL_law_506 : decode cL_law 506 = .ok (.iadd, 1) := by decide +kernel
theorem dL_law_507 : decode cL_law 507 = .ok (.iaload, 1) := by decide +kernel
theorem dL_law_508 : decode cL_law 508 = .ok (.invokevirtual 48, 3) := by decide +kernel
theorem dL_law_511 : decode cL_law 511 = .ok (.if_icmp .eq 405, 3) := by decide +kernel
theorem dL_law_514 : decode cL_law 514 = .ok (.iconst 0, 1) := by decide +kernel
theorem dL_law_515 : decode cL_law 515 = .ok (.ireturn, 1) := by decide +kernel
theorem dL_law_516 : decode cL_law 516 = .ok (.aload_n 1, 1) := by decide +kernel
theorem dL_law_517 : decode cL_law 517 = .ok (.aload_n 0, 1) := by decide +kernel
theorem dL_law_518 : decode cL_law 518 = .ok (.iload_n 3, 1) := by decide +kernel
theorem dL_law_519 : decode cL_law 519 = .ok (.iconst 1, 1) := by decide +kernel
theorem dL_law_520 : decode cL_law 520 = .ok (.iadd, 1) := by decide +kernel
theorem dL_law_521 : decode cL_law 521 = .ok (.iaload, 1) := by decide +kernel
theorem dL_law_522 : decode cL_law 522 = .ok (.aload_n 0, 1) := by decide +kernel
theorem dL_law_523 : decode cL_law 523 = .ok (.iload_n 3, 1) := by decide +kernel
theorem dL_law_524 : decode cL_law 524 = .ok (.iconst 2, 1) := by decide +kernel
theorem dL_law_525 : decode cL_law 525 = .ok (.iadd, 1) := by decide +kernel
theorem dL_law_526 : decode cL_law 526 = .ok (.iaload, 1) := by decide +kernel
theorem dL_law_527 : decode cL_law 527 = .ok (.invokevirtual 49, 3) := by decide +kernel
theorem dL_law_530 : decode cL_law 530 = .ok (.aload_n 2, 1) := by decide +kernel
theorem dL_law_531 : decode cL_law 531 = .ok (.aload_n 0, 1) := by decide +kernel
theorem dL_law_532 : decode cL_law 532 = .ok (.iload_n 3, 1) := by decide +kernel
theorem dL_law_533 : decode cL_law 533 = .ok (.iconst 1, 1) := by decide +kernel
theorem dL_law_534 : decode cL_law 534 = .ok (.iadd, 1) := by decide +kernel
theorem dL_law_535 : decode cL_law 535 = .ok (.iaload, 1) := by decide +kernel
theorem dL_law_536 : decode cL_law 536 = .ok (.aload_n 0, 1) := by decide +kernel
theorem dL_law_537 : decode cL_law 537 = .ok (.iload_n 3, 1) := by decide +kernel
theorem dL_law_538 : decode cL_law 538 = .ok (.iconst 2, 1) := by decide +kernel
theorem dL_law_539 : decode cL_law 539 = .ok (.iadd, 1) := by decide +kernel
theorem dL_law_540 : decode cL_law 540 = .ok (.iaload, 1) := by decide +kernel
theorem dL_law_541 : decode cL_law 541 = .ok (.invokevirtual 52, 3) := by decide +kernel
theorem dL_law_544 : decode cL_law 544 = .ok (.if_icmp .eq 372, 3) := by decide +kernel
theorem dL_law_547 : decode cL_law 547 = .ok (.iconst 0, 1) := by decide +kernel
theorem dL_law_548 : decode cL_law 548 = .ok (.ireturn, 1) := by decide +kernel
theorem dL_law_549 : decode cL_law 549 = .ok (.aload_n 1, 1) := by decide +kernel
theorem dL_law_550 : decode cL_law 550 = .ok (.aload_n 0, 1) := by decide +kernel
theorem dL_law_551 : decode cL_law 551 = .ok (.iload_n 3, 1) := by decide +kernel
theorem dL_law_552 : decode cL_law 552 = .ok (.iconst 1, 1) := by decide +kernel
theorem dL_law_553 : decode cL_law 553 = .ok (.iadd, 1) := by decide +kernel
theorem dL_law_554 : decode cL_law 554 = .ok (.iaload, 1) := by decide +kernel
theorem dL_law_555 : decode cL_law 555 = .ok (.aload_n 0, 1) := by decide +kernel
theorem dL_law_556 : decode cL_law 556 = .ok (.iload_n 3, 1) := by decide +kernel
theorem dL_law_557 : decode cL_law 557 = .ok (.iconst 2, 1) := by decide +kernel
theorem dL_law_558 : decode cL_law 558 = .ok (.iadd, 1) := by decide +kernel
theorem dL_law_559 : decode cL_law 559 = .ok (.iaload, 1) := by decide +kernel
theorem dL_law_560 : decode cL_law 560 = .ok (.aload_n 0, 1) := by decide +kernel
theorem dL_law_561 : decode cL_law 561 = .ok (.iload_n 3, 1) := by decide +kernel
theorem dL_law_562 : decode cL_law 562 = .ok (.iconst 3, 1) := by decide +kernel
theorem dL_law_563 : decode cL_law 563 = .ok (.iadd, 1) := by decide +kernel
theorem dL_law_564 : decode cL_law 564 = .ok (.iaload, 1) := by decide +kernel
theorem dL_law_565 : decode cL_law 565 = .ok (.invokevirtual 53, 3) := by decide +kernel
theorem dL_law_568 : decode cL_law 568 = .ok (.aload_n 2, 1) := by decide +kernel
theorem dL_law_569 : decode cL_law 569 = .ok (.aload_n 0, 1) := by decide +kernel
theorem dL_law_570 : decode cL_law 570 = .ok (.iload_n 3, 1) := by decide +kernel
theorem dL_law_571 : decode cL_law 571 = .ok (.iconst 1, 1) := by decide +kernel
theorem dL_law_572 : decode cL_law 572 = .ok (.iadd, 1) := by decide +kernel
theorem dL_law_573 : decode cL_law 573 = .ok (.iaload, 1) := by decide +kernel
theorem dL_law_574 : decode cL_law 574 = .ok (.aload_n 0, 1) := by decide +kernel
theorem dL_law_575 : decode cL_law 575 = .ok (.iload_n 3, 1) := by decide +kernel
theorem dL_law_576 : decode cL_law 576 = .ok (.iconst 2, 1) := by decide +kernel
theorem dL_law_577 : decode cL_law 577 = .ok (.iadd, 1) := by decide +kernel
theorem dL_law_578 : decode cL_law 578 = .ok (.iaload, 1) := by decide +kernel
theorem dL_law_579 : decode cL_law 579 = .ok (.aload_n 0, 1) := by decide +kernel
theorem dL_law_580 : decode cL_law 580 = .ok (.iload_n 3, 1) := by decide +kernel
theorem dL_law_581 : decode cL_law 581 = .ok (.iconst 3, 1) := by decide +kernel
theorem dL_law_582 : decode cL_law 582 = .ok (.iadd, 1) := by decide +kernel
theorem dL_law_583 : decode cL_law 583 = .ok (.iaload, 1) := by decide +kernel
theorem dL_law_584 : decode cL_law 584 = .ok (.invokevirtual 56, 3) := by decide +kernel
theorem dL_law_587 : decode cL_law 587 = .ok (.if_icmp .eq 329, 3) := by decide +kernel
theorem dL_law_590 : decode cL_law 590 = .ok (.iconst 0, 1) := by decide +kernel
theorem dL_law_591 : decode cL_law 591 = .ok (.ireturn, 1) := by decide +kernel
theorem dL_law_592 : decode cL_law 592 = .ok (.aload_n 1, 1) := by decide +kernel
theorem dL_law_593 : decode cL_law 593 = .ok (.aload_n 0, 1) := by decide +kernel
theorem dL_law_594 : decode cL_law 594 = .ok (.iload_n 3, 1) := by decide +kernel
theorem dL_law_595 : decode cL_law 595 = .ok (.iconst 1, 1) := by decide +kernel
theorem dL_law_596 : decode cL_law 596 = .ok (.iadd, 1) := by decide +kernel
theorem dL_law_597 : decode cL_law 597 = .ok (.iaload, 1) := by decide +kernel
theorem dL_law_598 : decode cL_law 598 = .ok (.aload_n 0, 1) := by decide +kernel
theorem dL_law_599 : decode cL_law 599 = .ok (.iload_n 3, 1) := by decide +kernel
theorem dL_law_600 : decode cL_law 600 = .ok (.iconst 2, 1) := by decide +kernel
theorem dL_law_601 : decode cL_law 601 = .ok (.iadd, 1) := by decide +kernel
theorem dL_law_602 : decode cL_law 602 = .ok (.iaload, 1) := by decide +kernel
theorem dL_law_603 : decode cL_law 603 = .ok (.invokevirtual 57, 3) := by decide +kernel
theorem dL_law_606 : decode cL_law 606 = .ok (.aload_n 2, 1) := by decide +kernel
theorem dL_law_607 : decode cL_law 607 = .ok (.aload_n 0, 1) := by decide +kernel
theorem dL_law_608 : decode cL_law 608 = .ok (.iload_n 3, 1) := by decide +kernel
theorem dL_law_609 : decode cL_law 609 = .ok (.iconst 1, 1) := by decide +kernel
theorem dL_law_610 : decode cL_law 610 = .ok (.iadd, 1) := by decide +kernel
theorem dL_law_611 : decode cL_law 611 = .ok (.iaload, 1) := by decide +kernel
theorem dL_law_612 : decode cL_law 612 = .ok (.aload_n 0, 1) := by decide +kernel
theorem dL_law_613 : decode cL_law 613 = .ok (.iload_n 3, 1) := by decide +kernel
theorem dL_law_614 : decode cL_law 614 = .ok (.iconst 2, 1) := by decide +kernel
theorem dL_law_615 : decode cL_law 615 = .ok (.iadd, 1) := by decide +kernel
theorem dL_law_616 : decode cL_law 616 = .ok (.iaload, 1) := by decide +kernel
theorem dL_law_617 : decode cL_law 617 = .ok (.invokevirtual 60, 3) := by decide +kernel
theorem dL_law_620 : decode cL_law 620 = .ok (.if_icmp .eq 296, 3) := by decide +kernel
theorem dL_law_623 : decode cL_law 623 = .ok (.iconst 0, 1) := by decide +kernel
theorem dL_law_624 : decode cL_law 624 = .ok (.ireturn, 1) := by decide +kernel
theorem dL_law_625 : decode cL_law 625 = .ok (.aload_n 1, 1) := by decide +kernel
theorem dL_law_626 : decode cL_law 626 = .ok (.aload_n 0, 1) := by decide +kernel
theorem dL_law_627 : decode cL_law 627 = .ok (.iload_n 3, 1) := by decide +kernel
theorem dL_law_628 : decode cL_law 628 = .ok (.iconst 1, 1) := by decide +kernel
theorem dL_law_629 : decode cL_law 629 = .ok (.iadd, 1) := by decide +kernel
theorem dL_law_630 : decode cL_law 630 = .ok (.iaload, 1) := by decide +kernel
theorem dL_law_631 : decode cL_law 631 = .ok (.aload_n 0, 1) := by decide +kernel
theorem dL_law_632 : decode cL_law 632 = .ok (.iload_n 3, 1) := by decide +kernel
theorem dL_law_633 : decode cL_law 633 = .ok (.iconst 2, 1) := by decide +kernel
theorem dL_law_634 : decode cL_law 634 = .ok (.iadd, 1) := by decide +kernel
theorem dL_law_635 : decode cL_law 635 = .ok (.iaload, 1) := by decide +kernel
theorem dL_law_636 : decode cL_law 636 = .ok (.aload_n 0, 1) := by decide +kernel
theorem dL_law_637 : decode cL_law 637 = .ok (.iload_n 3, 1) := by decide +kernel
theorem dL_law_638 : decode cL_law 638 = .ok (.iconst 3, 1) := by decide +kernel
theorem dL_law_639 : decode cL_law 639 = .ok (.iadd, 1) := by decide +kernel
theorem dL_law_640 : decode cL_law 640 = .ok (.iaload, 1) := by decide +kernel
theorem dL_law_641 : decode cL_law 641 = .ok (.invokevirtual 61, 3) := by decide +kernel
theorem dL_law_644 : decode cL_law 644 = .ok (.aload_n 2, 1) := by decide +kernel
theorem dL_law_645 : decode cL_law 645 = .ok (.aload_n 0, 1) := by decide +kernel
theorem dL_law_646 : decode cL_law 646 = .ok (.iload_n 3, 1) := by decide +kernel
theorem dL_law_647 : decode cL_law 647 = .ok (.iconst 1, 1) := by decide +kernel
theorem dL_law_648 : decode cL_law 648 = .ok (.iadd, 1) := by decide +kernel
theorem dL_law_649 : decode cL_law 649 = .ok (.iaload, 1) := by decide +kernel
theorem dL_law_650 : decode cL_law 650 = .ok (.aload_n 0, 1) := by decide +kernel
theorem dL_law_651 : decode cL_law 651 = .ok (.iload_n 3, 1) := by decide +kernel
theorem dL_law_652 : decode cL_law 652 = .ok (.iconst 2, 1) := by decide +kernel
theorem dL_law_653 : decode cL_law 653 = .ok (.iadd, 1) := by decide +kernel
theorem dL_law_654 : decode cL_law 654 = .ok (.iaload, 1) := by decide +kernel
theorem dL_law_655 : decode cL_law 655 = .ok (.aload_n 0, 1) := by decide +kernel
theorem dL_law_656 : decode cL_law 656 = .ok (.iload_n 3, 1) := by decide +kernel
theorem dL_law_657 : decode cL_law 657 = .ok (.iconst 3, 1) := by decide +kernel
theorem dL_law_658 : decode cL_law 658 = .ok (.iadd, 1) := by decide +kernel
theorem dL_law_659 : decode cL_law 659 = .ok (.iaload, 1) := by decide +kernel
theorem dL_law_660 : decode cL_law 660 = .ok (.invokevirtual 64, 3) := by decide +kernel
theorem dL_law_663 : decode cL_law 663 = .ok (.if_icmp .eq 253, 3) := by decide +kernel
theorem dL_law_666 : decode cL_law 666 = .ok (.iconst 0, 1) := by decide +kernel
theorem dL_law_667 : decode cL_law 667 = .ok (.ireturn, 1) := by decide +kernel
theorem dL_law_668 : decode cL_law 668 = .ok (.aload_n 1, 1) := by decide +kernel
theorem dL_law_669 : decode cL_law 669 = .ok (.aload_n 0, 1) := by decide +kernel
theorem dL_law_670 : decode cL_law 670 = .ok (.iload_n 3, 1) := by decide +kernel
theorem dL_law_671 : decode cL_law 671 = .ok (.iconst 1, 1) := by decide +kernel
theorem dL_law_672 : decode cL_law 672 = .ok (.iadd, 1) := by decide +kernel
theorem dL_law_673 : decode cL_law 673 = .ok (.iaload, 1) := by decide +kernel
theorem dL_law_674 : decode cL_law 674 = .ok (.aload_n 0, 1) := by decide +kernel
theorem dL_law_675 : decode cL_law 675 = .ok (.iload_n 3, 1) := by decide +kernel
theorem dL_law_676 : decode cL_law 676 = .ok (.iconst 2, 1) := by decide +kernel
theorem dL_law_677 : decode cL_law 677 = .ok (.iadd, 1) := by decide +kernel
theorem dL_law_678 : decode cL_law 678 = .ok (.iaload, 1) := by decide +kernel
theorem dL_law_679 : decode cL_law 679 = .ok (.invokevirtual 65, 3) := by decide +kernel
theorem dL_law_682 : decode cL_law 682 = .ok (.aload_n 2, 1) := by decide +kernel
theorem dL_law_683 : decode cL_law 683 = .ok (.aload_n 0, 1) := by decide +kernel
theorem dL_law_684 : decode cL_law 684 = .ok (.iload_n 3, 1) := by decide +kernel
theorem dL_law_685 : decode cL_law 685 = .ok (.iconst 1, 1) := by decide +kernel
theorem dL_law_686 : decode cL_law 686 = .ok (.iadd, 1) := by decide +kernel
theorem dL_law_687 : decode cL_law 687 = .ok (.iaload, 1) := by decide +kernel
theorem dL_law_688 : decode cL_law 688 = .ok (.aload_n 0, 1) := by decide +kernel
theorem dL_law_689 : decode cL_law 689 = .ok (.iload_n 3, 1) := by decide +kernel
theorem dL_law_690 : decode cL_law 690 = .ok (.iconst 2, 1) := by decide +kernel
theorem dL_law_691 : decode cL_law 691 = .ok (.iadd, 1) := by decide +kernel
theorem dL_law_692 : decode cL_law 692 = .ok (.iaload, 1) := by decide +kernel
theorem dL_law_693 : decode cL_law 693 = .ok (.invokevirtual 68, 3) := by decide +kernel
theorem dL_law_696 : decode cL_law 696 = .ok (.if_icmp .eq 220, 3) := by decide +kernel
theorem dL_law_699 : decode cL_law 699 = .ok (.iconst 0, 1) := by decide +kernel
theorem dL_law_700 : decode cL_law 700 = .ok (.ireturn, 1) := by decide +kernel
theorem dL_law_701 : decode cL_law 701 = .ok (.aload_n 1, 1) := by decide +kernel
theorem dL_law_702 : decode cL_law 702 = .ok (.aload_n 0, 1) := by decide +kernel
theorem dL_law_703 : decode cL_law 703 = .ok (.iload_n 3, 1) := by decide +kernel
theorem dL_law_704 : decode cL_law 704 = .ok (.iconst 1, 1) := by decide +kernel
theorem dL_law_705 : decode cL_law 705 = .ok (.iadd, 1) := by decide +kernel
theorem dL_law_706 : decode cL_law 706 = .ok (.iaload, 1) := by decide +kernel
theorem dL_law_707 : decode cL_law 707 = .ok (.aload_n 0, 1) := by decide +kernel
theorem dL_law_708 : decode cL_law 708 = .ok (.iload_n 3, 1) := by decide +kernel
theorem dL_law_709 : decode cL_law 709 = .ok (.iconst 2, 1) := by decide +kernel
theorem dL_law_710 : decode cL_law 710 = .ok (.iadd, 1) := by decide +kernel
theorem dL_law_711 : decode cL_law 711 = .ok (.iaload, 1) := by decide +kernel
theorem dL_law_712 : decode cL_law 712 = .ok (.invokevirtual 69, 3) := by decide +kernel
theorem dL_law_715 : decode cL_law 715 = .ok (.aload_n 2, 1) := by decide +kernel
theorem dL_law_716 : decode cL_law 716 = .ok (.aload_n 0, 1) := by decide +kernel
theorem dL_law_717 : decode cL_law 717 = .ok (.iload_n 3, 1) := by decide +kernel
theorem dL_law_718 : decode cL_law 718 = .ok (.iconst 1, 1) := by decide +kernel
theorem dL_law_719 : decode cL_law 719 = .ok (.iadd, 1) := by decide +kernel
theorem dL_law_720 : decode cL_law 720 = .ok (.iaload, 1) := by decide +kernel
theorem dL_law_721 : decode cL_law 721 = .ok (.aload_n 0, 1) := by decide +kernel
theorem dL_law_722 : decode cL_law 722 = .ok (.iload_n 3, 1) := by decide +kernel
theorem dL_law_723 : decode cL_law 723 = .ok (.iconst 2, 1) := by decide +kernel
theorem dL_law_724 : decode cL_law 724 = .ok (.iadd, 1) := by decide +kernel
theorem dL_law_725 : decode cL_law 725 = .ok (.iaload, 1) := by decide +kernel
theorem dL_law_726 : decode cL_law 726 = .ok (.invokevirtual 72, 3) := by decide +kernel
theorem dL_law_729 : decode cL_law 729 = .ok (.if_icmp .eq 187, 3) := by decide +kernel
theorem dL_law_732 : decode cL_law 732 = .ok (.iconst 0, 1) := by decide +kernel
theorem dL_law_733 : decode cL_law 733 = .ok (.ireturn, 1) := by decide +kernel
theorem dL_law_734 : decode cL_law 734 = .ok (.aload_n 1, 1) := by decide +kernel
theorem dL_law_735 : decode cL_law 735 = .ok (.aload_n 0, 1) := by decide +kernel
theorem dL_law_736 : decode cL_law 736 = .ok (.iload_n 3, 1) := by decide +kernel
theorem dL_law_737 : decode cL_law 737 = .ok (.iconst 1, 1) := by decide +kernel
theorem dL_law_738 : decode cL_law 738 = .ok (.iadd, 1) := by decide +kernel
theorem dL_law_739 : decode cL_law 739 = .ok (.iaload, 1) := by decide +kernel
theorem dL_law_740 : decode cL_law 740 = .ok (.aload_n 0, 1) := by decide +kernel
theorem dL_law_741 : decode cL_law 741 = .ok (.iload_n 3, 1) := by decide +kernel
theorem dL_law_742 : decode cL_law 742 = .ok (.iconst 2, 1) := by decide +kernel
theorem dL_law_743 : decode cL_law 743 = .ok (.iadd, 1) := by decide +kernel
theorem dL_law_744 : decode cL_law 744 = .ok (.iaload, 1) := by decide +kernel
theorem dL_law_745 : decode cL_law 745 = .ok (.invokevirtual 73, 3) := by decide +kernel
theorem dL_law_748 : decode cL_law 748 = .ok (.aload_n 2, 1) := by decide +kernel
theorem dL_law_749 : decode cL_law 749 = .ok (.aload_n 0, 1) := by decide +kernel
theorem dL_law_750 : decode cL_law 750 = .ok (.iload_n 3, 1) := by decide +kernel
theorem dL_law_751 : decode cL_law 751 = .ok (.iconst 1, 1) := by decide +kernel
theorem dL_law_752 : decode cL_law 752 = .ok (.iadd, 1) := by decide +kernel
theorem dL_law_753 : decode cL_law 753 = .ok (.iaload, 1) := by decide +kernel
theorem dL_law_754 : decode cL_law 754 = .ok (.aload_n 0, 1) := by decide +kernel
theorem dL_law_755 : decode cL_law 755 = .ok (.iload_n 3, 1) := by decide +kernel
theorem dL_law_756 : decode cL_law 756 = .ok (.iconst 2, 1) := by decide +kernel
theorem dL_law_757 : decode cL_law 757 = .ok (.iadd, 1) := by decide +kernel
theorem dL_law_758 : decode cL_law 758 = .ok (.iaload, 1) := by decide +kernel
theorem dL_law_759 : decode cL_law 759 = .ok (.invokevirtual 76, 3) := by decide +kernel
theorem dL_law_762 : decode cL_law 762 = .ok (.if_icmp .eq 154, 3) := by decide +kernel
theorem dL_law_765 : decode cL_law 765 = .ok (.iconst 0, 1) := by decide +kernel
theorem dL_law_766 : decode cL_law 766 = .ok (.ireturn, 1) := by decide +kernel
theorem dL_law_767 : decode cL_law 767 = .ok (.aload_n 1, 1) := by decide +kernel
theorem dL_law_768 : decode cL_law 768 = .ok (.aload_n 0, 1) := by decide +kernel
theorem dL_law_769 : decode cL_law 769 = .ok (.iload_n 3, 1) := by decide +kernel
theorem dL_law_770 : decode cL_law 770 = .ok (.iconst 1, 1) := by decide +kernel
theorem dL_law_771 : decode cL_law 771 = .ok (.iadd, 1) := by decide +kernel
theorem dL_law_772 : decode cL_law 772 = .ok (.iaload, 1) := by decide +kernel
theorem dL_law_773 : decode cL_law 773 = .ok (.aload_n 0, 1) := by decide +kernel
theorem dL_law_774 : decode cL_law 774 = .ok (.iload_n 3, 1) := by decide +kernel
theorem dL_law_775 : decode cL_law 775 = .ok (.iconst 2, 1) := by decide +kernel
theorem dL_law_776 : decode cL_law 776 = .ok (.iadd, 1) := by decide +kernel
theorem dL_law_777 : decode cL_law 777 = .ok (.iaload, 1) := by decide +kernel
theorem dL_law_778 : decode cL_law 778 = .ok (.invokevirtual 77, 3) := by decide +kernel
theorem dL_law_781 : decode cL_law 781 = .ok (.aload_n 2, 1) := by decide +kernel
theorem dL_law_782 : decode cL_law 782 = .ok (.aload_n 0, 1) := by decide +kernel
theorem dL_law_783 : decode cL_law 783 = .ok (.iload_n 3, 1) := by decide +kernel
theorem dL_law_784 : decode cL_law 784 = .ok (.iconst 1, 1) := by decide +kernel
theorem dL_law_785 : decode cL_law 785 = .ok (.iadd, 1) := by decide +kernel
theorem dL_law_786 : decode cL_law 786 = .ok (.iaload, 1) := by decide +kernel
theorem dL_law_787 : decode cL_law 787 = .ok (.aload_n 0, 1) := by decide +kernel
theorem dL_law_788 : decode cL_law 788 = .ok (.iload_n 3, 1) := by decide +kernel
theorem dL_law_789 : decode cL_law 789 = .ok (.iconst 2, 1) := by decide +kernel
theorem dL_law_790 : decode cL_law 790 = .ok (.iadd, 1) := by decide +kernel
theorem dL_law_791 : decode cL_law 791 = .ok (.iaload, 1) := by decide +kernel
theorem dL_law_792 : decode cL_law 792 = .ok (.invokevirtual 80, 3) := by decide +kernel
theorem dL_law_795 : decode cL_law 795 = .ok (.if_icmp .eq 121, 3) := by decide +kernel
theorem dL_law_798 : decode cL_law 798 = .ok (.iconst 0, 1) := by decide +kernel
theorem dL_law_799 : decode cL_law 799 = .ok (.ireturn, 1) := by decide +kernel
theorem dL_law_800 : decode cL_law 800 = .ok (.aload_n 1, 1) := by decide +kernel
theorem dL_law_801 : decode cL_law 801 = .ok (.aload_n 0, 1) := by decide +kernel
theorem dL_law_802 : decode cL_law 802 = .ok (.iload_n 3, 1) := by decide +kernel
theorem dL_law_803 : decode cL_law 803 = .ok (.iconst 1, 1) := by decide +kernel
theorem dL_law_804 : decode cL_law 804 = .ok (.iadd, 1) := by decide +kernel
theorem dL_law_805 : decode cL_law 805 = .ok (.iaload, 1) := by decide +kernel
theorem dL_law_806 : decode cL_law 806 = .ok (.aload_n 0, 1) := by decide +kernel
theorem dL_law_807 : decode cL_law 807 = .ok (.iload_n 3, 1) := by decide +kernel
theorem dL_law_808 : decode cL_law 808 = .ok (.iconst 2, 1) := by decide +kernel
theorem dL_law_809 : decode cL_law 809 = .ok (.iadd, 1) := by decide +kernel
theorem dL_law_810 : decode cL_law 810 = .ok (.iaload, 1) := by decide +kernel
theorem dL_law_811 : decode cL_law 811 = .ok (.invokevirtual 81, 3) := by decide +kernel
theorem dL_law_814 : decode cL_law 814 = .ok (.aload_n 2, 1) := by decide +kernel
theorem dL_law_815 : decode cL_law 815 = .ok (.aload_n 0, 1) := by decide +kernel
theorem dL_law_816 : decode cL_law 816 = .ok (.iload_n 3, 1) := by decide +kernel
theorem dL_law_817 : decode cL_law 817 = .ok (.iconst 1, 1) := by decide +kernel
theorem dL_law_818 : decode cL_law 818 = .ok (.iadd, 1) := by decide +kernel
theorem dL_law_819 : decode cL_law 819 = .ok (.iaload, 1) := by decide +kernel
theorem dL_law_820 : decode cL_law 820 = .ok (.aload_n 0, 1) := by decide +kernel
theorem dL_law_821 : decode cL_law 821 = .ok (.iload_n 3, 1) := by decide +kernel
theorem dL_law_822 : decode cL_law 822 = .ok (.iconst 2, 1) := by decide +kernel
theorem dL_law_823 : decode cL_law 823 = .ok (.iadd, 1) := by decide +kernel
theorem dL_law_824 : decode cL_law 824 = .ok (.iaload, 1) := by decide +kernel
theorem dL_law_825 : decode cL_law 825 = .ok (.invokevirtual 84, 3) := by decide +kernel
theorem dL_law_828 : decode cL_law 828 = .ok (.if_icmp .eq 88, 3) := by decide +kernel
theorem dL_law_831 : decode cL_law 831 = .ok (.iconst 0, 1) := by decide +kernel
theorem dL_law_832 : decode cL_law 832 = .ok (.ireturn, 1) := by decide +kernel
theorem dL_law_833 : decode cL_law 833 = .ok (.aload_n 1, 1) := by decide +kernel
theorem dL_law_834 : decode cL_law 834 = .ok (.aload_n 0, 1) := by decide +kernel
theorem dL_law_835 : decode cL_law 835 = .ok (.iload_n 3, 1) := by decide +kernel
theorem dL_law_836 : decode cL_law 836 = .ok (.iconst 1, 1) := by decide +kernel
theorem dL_law_837 : decode cL_law 837 = .ok (.iadd, 1) := by decide +kernel
theorem dL_law_838 : decode cL_law 838 = .ok (.iaload, 1) := by decide +kernel
theorem dL_law_839 : decode cL_law 839 = .ok (.invokevirtual 85, 3) := by decide +kernel
theorem dL_law_842 : decode cL_law 842 = .ok (.aload_n 2, 1) := by decide +kernel
theorem dL_law_843 : decode cL_law 843 = .ok (.aload_n 0, 1) := by decide +kernel
theorem dL_law_844 : decode cL_law 844 = .ok (.iload_n 3, 1) := by decide +kernel
theorem dL_law_845 : decode cL_law 845 = .ok (.iconst 1, 1) := by decide +kernel
theorem dL_law_846 : decode cL_law 846 = .ok (.iadd, 1) := by decide +kernel
theorem dL_law_847 : decode cL_law 847 = .ok (.iaload, 1) := by decide +kernel
theorem dL_law_848 : decode cL_law 848 = .ok (.invokevirtual 89, 3) := by decide +kernel
theorem dL_law_851 : decode cL_law 851 = .ok (.if_icmp .eq 65, 3) := by decide +kernel
theorem dL_law_854 : decode cL_law 854 = .ok (.iconst 0, 1) := by decide +kernel
theorem dL_law_855 : decode cL_law 855 = .ok (.ireturn, 1) := by decide +kernel
theorem dL_law_856 : decode cL_law 856 = .ok (.aload_n 1, 1) := by decide +kernel
theorem dL_law_857 : decode cL_law 857 = .ok (.aload_n 0, 1) := by decide +kernel
theorem dL_law_858 : decode cL_law 858 = .ok (.iload_n 3, 1) := by decide +kernel
theorem dL_law_859 : decode cL_law 859 = .ok (.iconst 1, 1) := by decide +kernel
theorem dL_law_860 : decode cL_law 860 = .ok (.iadd, 1) := by decide +kernel
theorem dL_law_861 : decode cL_law 861 = .ok (.iaload, 1) := by decide +kernel
theorem dL_law_862 : decode cL_law 862 = .ok (.invokevirtual 90, 3) := by decide +kernel
theorem dL_law_865 : decode cL_law 865 = .ok (.aload_n 2, 1) := by decide +kernel
theorem dL_law_866 : decode cL_law 866 = .ok (.aload_n 0, 1) := by decide +kernel
theorem dL_law_867 : decode cL_law 867 = .ok (.iload_n 3, 1) := by decide +kernel
theorem dL_law_868 : decode cL_law 868 = .ok (.iconst 1, 1) := by decide +kernel
theorem dL_law_869 : decode cL_law 869 = .ok (.iadd, 1) := by decide +kernel
theorem dL_law_870 : decode cL_law 870 = .ok (.iaload, 1) := by decide +kernel
theorem dL_law_871 : decode cL_law 871 = .ok (.invokevirtual 93, 3) := by decide +kernel
theorem dL_law_874 : decode cL_law 874 = .ok (.if_icmp .eq 42, 3) := by decide +kernel
theorem dL_law_877 : decode cL_law 877 = .ok (.iconst 0, 1) := by decide +kernel
theorem dL_law_878 : decode cL_law 878 = .ok (.ireturn, 1) := by decide +kernel
theorem dL_law_879 : decode cL_law 879 = .ok (.aload_n 1, 1) := by decide +kernel
theorem dL_law_880 : decode cL_law 880 = .ok (.aload_n 0, 1) := by decide +kernel
theorem dL_law_881 : decode cL_law 881 = .ok (.iload_n 3, 1) := by decide +kernel
theorem dL_law_882 : decode cL_law 882 = .ok (.iconst 1, 1) := by decide +kernel
theorem dL_law_883 : decode cL_law 883 = .ok (.iadd, 1) := by decide +kernel
theorem dL_law_884 : decode cL_law 884 = .ok (.iaload, 1) := by decide +kernel
theorem dL_law_885 : decode cL_law 885 = .ok (.invokevirtual 94, 3) := by decide +kernel
theorem dL_law_888 : decode cL_law 888 = .ok (.aload_n 2, 1) := by decide +kernel
theorem dL_law_889 : decode cL_law 889 = .ok (.aload_n 0, 1) := by decide +kernel
theorem dL_law_890 : decode cL_law 890 = .ok (.iload_n 3, 1) := by decide +kernel
theorem dL_law_891 : decode cL_law 891 = .ok (.iconst 1, 1) := by decide +kernel
theorem dL_law_892 : decode cL_law 892 = .ok (.iadd, 1) := by decide +kernel
theorem dL_law_893 : decode cL_law 893 = .ok (.iaload, 1) := by decide +kernel
theorem dL_law_894 : decode cL_law 894 = .ok (.invokevirtual 97, 3) := by decide +kernel
theorem dL_law_897 : decode cL_law 897 = .ok (.if_icmp .eq 19, 3) := by decide +kernel
theorem dL_law_900 : decode cL_law 900 = .ok (.iconst 0, 1) := by decide +kernel
theorem dL_law_901 : decode cL_law 901 = .ok (.ireturn, 1) := by decide +kernel
theorem dL_law_902 : decode cL_law 902 = .ok (.aload_n 1, 1) := by decide +kernel
theorem dL_law_903 : decode cL_law 903 = .ok (.invokevirtual 98, 3) := by decide +kernel
theorem dL_law_906 : decode cL_law 906 = .ok (.aload_n 2, 1) := by decide +kernel
theorem dL_law_907 : decode cL_law 907 = .ok (.invokevirtual 102, 3) := by decide +kernel
theorem dL_law_910 : decode cL_law 910 = .ok (.lcmp, 1) := by decide +kernel
theorem dL_law_911 : decode cL_law 911 = .ok (.ifCond .eq 5, 3) := by decide +kernel
theorem dL_law_914 : decode cL_law 914 = .ok (.iconst 0, 1) := by decide +kernel
theorem dL_law_915 : decode cL_law 915 = .ok (.ireturn, 1) := by decide +kernel
theorem dL_law_916 : decode cL_law 916 = .ok (.iinc 3 6, 3) := by decide +kernel
theorem dL_law_919 : decode cL_law 919 = .ok (.goto (-901), 3) := by decide +kernel
theorem dL_law_922 : decode cL_law 922 = .ok (.iconst 1, 1) := by decide +kernel
theorem dL_law_923 : decode cL_law 923 = .ok (.ireturn, 1) := by decide +kernel
end
section
/-! THE LIGHT JUDGEMENT. G: launch, class numbers, array classes, the address of the first cell that the law makes. The abstract heap hp lists all cells made since: place i lies at address o + i. V pc lv st hp: from there the machine comes to Z. -/
abbrev GG : Type := Launch × va_G × (ClassId × ClassId × ClassId) × Nat
def rmOf (d mc ms : Nat) : Room := { frames := d, cells := mc, slots := ms, locals := 48 * d }
def tbl : List Cond := lw_tbl.filter goodWord
theorem tbl_of {w : Cond} (i : Nat) (h : lw_tbl[i]? = some w) (hg : goodWord w = true) : w ∈ tbl := List.mem_filter.mpr ⟨List.mem_of_getElem? h, hg⟩
theorem tbl_good : ∀ w ∈ tbl, goodWord w = true := fun w h => (List.mem_filter.mp h).2
abbrev tysOf (G : GG) : List (ClassId × FieldType) := [(G.2.2.1.1, .int), (G.2.2.1.2.1, .object RX0), (G.2.2.1.2.2, .object RX1)]
def KK (G : GG) (U : State) : Prop := va_K G.2.1 vwCl (tysOf G) U ∧ va_AO RX0 U ∧ va_AO RX1 U
theorem KK.moved {G : GG} {u U : State} (hvm : u.vm.Alike U.vm) (h : KK G u) : KK G U := ⟨va_K.moved hvm h.1, h.2.1.moved hvm, h.2.2.moved hvm⟩
def wz : Nat → List va_E → va_W
  | _, [] => []
  | o, e :: r => (o, e) :: wz (o + 1) r
theorem wz_get : ∀ (hp : List va_E) (o i : Nat), (wz o hp)[i]? = (hp[i]?).map (fun e => (o + i, e))
  | [], o, i => by simp [wz]
  | e :: r, o, 0 => by simp [wz]
  | e :: r, o, i + 1 => by
    simp only [wz, List.getElem?_cons_succ]
    rw [wz_get r (o + 1) i, show o + 1 + i = o + (i + 1) by omega]
theorem wz_at {hp : List va_E} {o i : Nat} {e : va_E} (h : hp[i]? = some e) : (wz o hp)[i]? = some (o + i, e) := by rw [wz_get, h]; rfl
theorem wz_set : ∀ (hp : List va_E) (o i : Nat) (e : va_E), (wz o hp).set i (o + i, e) = wz o (hp.set i e)
  | [], o, i, e => by simp [wz]
  | a :: r, o, 0, e => by simp [wz]
  | a :: r, o, i + 1, e => by
    simp only [wz, List.set_cons_succ]
    rw [← wz_set r (o + 1) i e, show o + 1 + i = o + (i + 1) by omega]
theorem wz_push : ∀ (hp : List va_E) (o : Nat) (e : va_E), wz o (hp ++ [e]) = wz o hp ++ [(o + hp.length, e)]
  | [], o, e => by simp [wz]
  | a :: r, o, e => by
    simp only [wz, List.cons_append, List.length_cons]
    rw [wz_push r (o + 1) e, show o + 1 + r.length = o + (r.length + 1) by omega]
theorem wz_D (o : Nat) (hp : List va_E) : va_D (fun q => o ≤ q) (wz o hp) := by
  have key : ∀ (k : Nat) (q : Nat × va_E), (wz o hp)[k]? = some q → q.1 = o + k := by
    intro k q h
    rw [wz_get] at h
    cases hh : hp[k]? with
    | none => rw [hh] at h; cases h
    | some e => rw [hh] at h; cases h; rfl
  refine ⟨fun i j p q hi hj e => ?_, fun k q h => ?_⟩
  · have h1 := key i p hi
    have h2 := key j q hj
    omega
  · have h1 := key k q h
    show o ≤ q.1
    omega
def Wd (G : GG) (hp : List va_E) (H : Heap) : Prop := va_P G.2.1 vwCl (wz G.2.2.2 hp) H ∧ H.size = G.2.2.2 + hp.length
def Cx (G : GG) (M : MI) (p : Program) (s : State) (m : MethodId) (args : Array Value) (meth : Method) (c : Code) : Prop :=
  p.tables.exec = Jvm.exec ∧ c.code = M.2.1 ∧ c.maxLocals = M.2.2.1 ∧ meth.sig.returnType = M.2.2.2 ∧ meth.locks = false ∧ s.vm.findClass M.1.cls = some m.cls ∧ meth.name = M.1.name ∧ (∀ w ∈ tbl, w.before args s = true) ∧ KK G s ∧ G.2.2.2 ≤ s.heap.size
def lvh (ls : Array Slot) (n : Nat) (lv : List (Option Value)) : Prop := ls.size = n ∧ lv_wf ls ∧ ∀ (i : Nat) (v : Value), lv[i]? = some (some v) → ls[i]? = some (.val v) ∧ v.category = 1
def lget (lv : List (Option Value)) (i : Nat) : Option Value := (lv[i]?).bind id
theorem lget_at {ls : Array Slot} {n : Nat} {lv : List (Option Value)} (h : lvh ls n lv) {i : Nat} {v : Value} (hv : lget lv i = some v) : ls[i]? = some (.val v) := by
  refine (h.2.2 i v ?_).1
  unfold lget at hv
  cases hh : lv[i]? with
  | none => rw [hh] at hv; cases hv
  | some x => rw [hh] at hv; rw [show x = some v from hv]
/-- the pairs of a list of locals -/
def lprs : Nat → List (Option Value) → List (Nat × Value)
  | _, [] => []
  | i, none :: r => lprs (i + 1) r
  | i, some v :: r => (i, v) :: lprs (i + 1) r
theorem lprs_mem : ∀ (lv : List (Option Value)) (k i : Nat) (v : Value), lv[i]? = some (some v) → (k + i, v) ∈ lprs k lv
  | [], k, i, v, h => by simp at h
  | none :: r, k, 0, v, h => by simp at h
  | some x :: r, k, 0, v, h => by
    simp at h
    subst h
    simp [lprs]
  | none :: r, k, i + 1, v, h => by
    have := lprs_mem r (k + 1) i v (by simpa using h)
    rw [show k + 1 + i = k + (i + 1) by omega] at this
    exact this
  | some x :: r, k, i + 1, v, h => by
    have := lprs_mem r (k + 1) i v (by simpa using h)
    rw [show k + 1 + i = k + (i + 1) by omega] at this
    exact List.mem_cons_of_mem _ this
theorem lprs_of : ∀ (lv : List (Option Value)) (k j : Nat) (v : Value), (j, v) ∈ lprs k lv → k ≤ j ∧ lv[j - k]? = some (some v)
  | [], k, j, v, h => by simp [lprs] at h
  | none :: r, k, j, v, h => by
    obtain ⟨h1, h2⟩ := lprs_of r (k + 1) j v h
    refine ⟨by omega, ?_⟩
    rw [show j - k = (j - (k + 1)) + 1 by omega]
    simpa using h2
  | some x :: r, k, j, v, h => by
    rcases List.mem_cons.mp h with h | h
    · cases h
      simp
    · obtain ⟨h1, h2⟩ := lprs_of r (k + 1) j v h
      refine ⟨by omega, ?_⟩
      rw [show j - k = (j - (k + 1)) + 1 by omega]
      simpa using h2
theorem lvh_has {ls : Array Slot} {n : Nat} {lv : List (Option Value)} (h : lvh ls n lv) : lv_has ls n (lprs 0 lv) :=
  ⟨h.1, h.2.1, fun q hq => by
    obtain ⟨j, v⟩ := q
    have := (lprs_of lv 0 j v hq).2
    exact (h.2.2 j v (by simpa using this)).1⟩
theorem lvh_set {ls ls' : Array Slot} {n i : Nat} {lv : List (Option Value)} {v : Value} (h : lvh ls n lv) (hc : v.category = 1) (h' : lv_has ls' n ((i, v) :: (lprs 0 lv).filter (fun q => !(q.1 == i) && !(q.1 + 1 == i && q.2.category == 2)))) : lvh ls' n (lv.set i (some v)) := by
  refine ⟨h'.1, h'.2.1, fun j w hj => ?_⟩
  by_cases hji : j = i
  · subst hji
    have hl : j < lv.length := by
      have := (List.getElem?_eq_some_iff.mp hj).1
      simpa using this
    rw [List.getElem?_set_self hl] at hj
    cases hj
    exact ⟨h'.2.2 (j, v) List.mem_cons_self, hc⟩
  · rw [List.getElem?_set_ne (Ne.symm hji)] at hj
    obtain ⟨-, hw⟩ := h.2.2 j w hj
    refine ⟨h'.2.2 (j, w) (List.mem_cons_of_mem _ (List.mem_filter.mpr ⟨by simpa using lprs_mem lv 0 j w hj, ?_⟩)), hw⟩
    simp [hji, hw]
abbrev ZZ : Type := List Frame → Array Value → State → State → Prop
abbrev SS : Type := Array Value → State → Prop
def V (G : GG) (M : MI) (R : Room) (Z : ZZ) (S : SS) (pc : Nat) (lv : List (Option Value)) (st : List Value) (hp : List va_E) (kc ks : Nat) : Prop :=
  ∀ (p : Program) (e : Env) (s : State) (m : MethodId) (args : Array Value) (below : List Frame) (meth : Method) (c : Code) (H : Heap) (locs : List Loc) (ls : Array Slot), Cx G M p s m args meth c → S args s → Wd G hp H → va_S (fun q => G.2.2.2 ≤ q) s.heap H locs → lvh ls M.2.2.1 lv → W p G.1 e R s m args below meth c H locs kc ks (Z below args s) (F0 m pc ls st)
abbrev QQ : Type := Option Value → List va_E → Prop
def QcM (G : GG) (Q : QQ) : Array Value → State → Outcome → State → Prop := fun _ st oc t => (∃ (r : Option Value) (hp : List va_E), oc = .returned r ∧ Q r hp ∧ Wd G hp t.heap) ∧ va_F (fun q => G.2.2.2 ≤ q) st t
def Zm (G : GG) (Q : QQ) (mc ms : Nat) : ZZ := fun below args s => MQ below (QcM G Q) args s mc ms (fun q => G.2.2.2 ≤ q)
def S0 : SS := fun _ _ => True
def wsM (M : MI) : List Cond := .code M.1 M.2.1 M.2.2.1 M.2.2.2 :: tbl
def PcM (G : GG) (av : List Value) (hp : List va_E) : Array Value → State → Prop := va_Pc av (fun U => Wd G hp U.heap ∧ KK G U)
/-- a method's contract -/
def Ct (G : GG) (M : MI) (d mc ms : Nat) (av : List Value) (hp : List va_E) (Q : QQ) : Prop := Met G.1 M.1 (wsM M) (rmOf d mc ms) (PcM G av hp) (QcM G Q) mc ms (fun q => G.2.2.2 ≤ q)
/-- a method's walk, from its entry -/
abbrev Vm (G : GG) (M : MI) (d mc ms : Nat) (Q : QQ) (pc : Nat) (lv : List (Option Value)) (st : List Value) (hp : List va_E) (kc ks : Nat) : Prop := V G M (rmOf d mc ms) (Zm G Q mc ms) S0 pc lv st hp kc ks
theorem lg_cat1 : ∀ (av : List Value), (∀ v ∈ av, v.category = 1) → ∀ (k i : Nat) (v : Value), av[i]? = some v → (k + i, v) ∈ lv_args k av
  | [], _, k, i, v, h => by simp at h
  | a :: r, hc, k, 0, v, h => by
    simp at h
    subst h
    simp [lv_args]
  | a :: r, hc, k, i + 1, v, h => by
    have := lg_cat1 r (fun v hv => hc v (List.mem_cons_of_mem _ hv)) (k + 1) i v (by simpa using h)
    have ha : ¬ a.category = 2 := by rw [hc a List.mem_cons_self]; decide
    simp only [lv_args, if_neg ha]
    rw [show k + 1 + i = k + (i + 1) by omega] at this
    exact List.mem_cons_of_mem _ this
theorem Ct.of {G : GG} {M : MI} {d mc ms : Nat} {av : List Value} {hp : List va_E} {Q : QQ} {lv : List (Option Value)} (hy : plainFor M.1 = true) (hc : av.all (fun v => v.category == 1) = true) (hn : (lg_sl av).length ≤ M.2.2.1) (hlv : ∀ (i : Nat) (v : Value), lv[i]? = some (some v) → av[i]? = some v) (h : Vm G M d mc ms Q 0 lv [] hp 0 0) : Ct G M d mc ms av hp Q := by
  refine va_MetF (cc := M.2.1) (maxL := M.2.2.1) (ret := M.2.2.2) hy rfl ?_
  intro p e s m args below meth c s₁ B hml hv
  obtain ⟨rfl, hw, hK⟩ := hv
  have hts := atoms_spec (ws := wsM M) B.pre
  have hown : s.vm.findClass M.1.cls = some m.cls := findClass_of_methodNamed B.named
  have hin : meth.name = M.1.name := (name_of_methodNamed B.named B.method).1
  have hc1 : ∀ v ∈ av, v.category = 1 := fun v hv => by simpa using List.all_eq_true.mp hc v hv
  have hl := lv_entry av (n := M.2.2.1) hn
  rw [lg_entry_eq]
  generalize (lg_sl av ++ List.replicate (M.2.2.1 - (lg_sl av).length) Slot.unset).toArray = ls at hl ⊢
  refine h p e s m av.toArray below meth c s.heap [] ls ⟨B.exec, B.bytes, hml, B.returns, B.notSynchronized, hown, hin, fun w hw => hts w (List.mem_cons_of_mem _ hw), hK, by have := hw.2; omega⟩ trivial hw va_S.rf ⟨hl.1, hl.2.1, fun i v hi => ?_⟩
  have h1 := hlv i v hi
  refine ⟨hl.2.2 (i, v) ?_, hc1 v (List.mem_of_getElem? h1)⟩
  simpa using lg_cat1 av hc1 0 i v h1
section LIGHT
variable {G : GG} {M : MI} {R : Room} {Z : ZZ} {S : SS} {pc pc' tgt : Nat} {lv : List (Option Value)} {st : List Value} {hp : List va_E} {kc ks : Nat}

theorem v_iconst {n : Int} {v : Int32} (hd : decode M.2.1 pc = .ok (.iconst n, 1)) (hv : Int32.ofInt n = v) (hn : pc + 1 = pc') (k : V G M R Z S pc' lv (.int v :: st) hp kc ks) : V G M R Z S pc lv (st) hp kc ks := by
  subst hn
  intro p e s m args below meth c H locs ls C hs hw hS hl
  exact lv_iconst C.1 C.2.1 hd hv (k p e s m args below meth c H locs ls C hs hw hS hl)

theorem v_bipush {n : Int} {v : Int32} (hd : decode M.2.1 pc = .ok (.bipush n, 2)) (hv : (Int8.ofInt n).toInt32 = v) (hn : pc + 2 = pc') (k : V G M R Z S pc' lv (.int v :: st) hp kc ks) : V G M R Z S pc lv (st) hp kc ks := by
  subst hn
  intro p e s m args below meth c H locs ls C hs hw hS hl
  exact lv_bipush C.1 C.2.1 hd hv (k p e s m args below meth c H locs ls C hs hw hS hl)

theorem v_sipush {n : Int} {v : Int32} (hd : decode M.2.1 pc = .ok (.sipush n, 3)) (hv : (Int16.ofInt n).toInt32 = v) (hn : pc + 3 = pc') (k : V G M R Z S pc' lv (.int v :: st) hp kc ks) : V G M R Z S pc lv (st) hp kc ks := by
  subst hn
  intro p e s m args below meth c H locs ls C hs hw hS hl
  exact lv_sipush C.1 C.2.1 hd hv (k p e s m args below meth c H locs ls C hs hw hS hl)

theorem v_lconst {n : Fin 2} {v : Int64} (hd : decode M.2.1 pc = .ok (.lconst n, 1)) (hv : Int64.ofNat (n : Nat) = v) (hn : pc + 1 = pc') (k : V G M R Z S pc' lv (.long v :: st) hp kc ks) : V G M R Z S pc lv (st) hp kc ks := by
  subst hn
  intro p e s m args below meth c H locs ls C hs hw hS hl
  exact lv_lconst C.1 C.2.1 hd hv (k p e s m args below meth c H locs ls C hs hw hS hl)

theorem v_null  (hd : decode M.2.1 pc = .ok (.aconst_null, 1))  (hn : pc + 1 = pc') (k : V G M R Z S pc' lv (.null :: st) hp kc ks) : V G M R Z S pc lv (st) hp kc ks := by
  subst hn
  intro p e s m args below meth c H locs ls C hs hw hS hl
  exact lv_null C.1 C.2.1 hd (k p e s m args below meth c H locs ls C hs hw hS hl)

theorem v_iload_n {n : Fin 4} {x : Int32} (hd : decode M.2.1 pc = .ok (.iload_n n, 1)) (hv : lget lv (n : Nat) = some (.int x)) (hn : pc + 1 = pc') (k : V G M R Z S pc' lv (.int x :: st) hp kc ks) : V G M R Z S pc lv (st) hp kc ks := by
  subst hn
  intro p e s m args below meth c H locs ls C hs hw hS hl
  exact lv_iload_n C.1 C.2.1 hd rfl (lget_at hl hv) (k p e s m args below meth c H locs ls C hs hw hS hl)

theorem v_iload {n : Nat} {x : Int32} (hd : decode M.2.1 pc = .ok (.iload n, 2)) (hv : lget lv n = some (.int x)) (hn : pc + 2 = pc') (k : V G M R Z S pc' lv (.int x :: st) hp kc ks) : V G M R Z S pc lv (st) hp kc ks := by
  subst hn
  intro p e s m args below meth c H locs ls C hs hw hS hl
  exact lv_iload C.1 C.2.1 hd (lget_at hl hv) (k p e s m args below meth c H locs ls C hs hw hS hl)

theorem v_aload_n {n : Fin 4} {x : Nat} (hd : decode M.2.1 pc = .ok (.aload_n n, 1)) (hv : lget lv (n : Nat) = some (.ref x)) (hn : pc + 1 = pc') (k : V G M R Z S pc' lv (.ref x :: st) hp kc ks) : V G M R Z S pc lv (st) hp kc ks := by
  subst hn
  intro p e s m args below meth c H locs ls C hs hw hS hl
  exact lv_aload_n C.1 C.2.1 hd rfl (lget_at hl hv) (k p e s m args below meth c H locs ls C hs hw hS hl)

theorem v_aload {n : Nat} {x : Nat} (hd : decode M.2.1 pc = .ok (.aload n, 2)) (hv : lget lv n = some (.ref x)) (hn : pc + 2 = pc') (k : V G M R Z S pc' lv (.ref x :: st) hp kc ks) : V G M R Z S pc lv (st) hp kc ks := by
  subst hn
  intro p e s m args below meth c H locs ls C hs hw hS hl
  exact lv_aload C.1 C.2.1 hd (lget_at hl hv) (k p e s m args below meth c H locs ls C hs hw hS hl)

theorem v_aload_nN {n : Fin 4} (hd : decode M.2.1 pc = .ok (.aload_n n, 1)) (hv : lget lv (n : Nat) = some .null) (hn : pc + 1 = pc') (k : V G M R Z S pc' lv (.null :: st) hp kc ks) : V G M R Z S pc lv (st) hp kc ks := by
  subst hn
  intro p e s m args below meth c H locs ls C hs hw hS hl
  exact lv_aload_nN C.1 C.2.1 hd rfl (lget_at hl hv) (k p e s m args below meth c H locs ls C hs hw hS hl)

theorem v_aloadN {n : Nat} (hd : decode M.2.1 pc = .ok (.aload n, 2)) (hv : lget lv n = some .null) (hn : pc + 2 = pc') (k : V G M R Z S pc' lv (.null :: st) hp kc ks) : V G M R Z S pc lv (st) hp kc ks := by
  subst hn
  intro p e s m args below meth c H locs ls C hs hw hS hl
  exact lv_aloadN C.1 C.2.1 hd (lget_at hl hv) (k p e s m args below meth c H locs ls C hs hw hS hl)

theorem v_iadd {x y : Int32} (hd : decode M.2.1 pc = .ok (.iadd, 1))  (hn : pc + 1 = pc') (k : V G M R Z S pc' lv (.int (x + y) :: st) hp kc ks) : V G M R Z S pc lv (.int y :: .int x :: st) hp kc ks := by
  subst hn
  intro p e s m args below meth c H locs ls C hs hw hS hl
  exact lv_iadd C.1 C.2.1 hd (k p e s m args below meth c H locs ls C hs hw hS hl)

theorem v_isub {x y : Int32} (hd : decode M.2.1 pc = .ok (.isub, 1))  (hn : pc + 1 = pc') (k : V G M R Z S pc' lv (.int (x - y) :: st) hp kc ks) : V G M R Z S pc lv (.int y :: .int x :: st) hp kc ks := by
  subst hn
  intro p e s m args below meth c H locs ls C hs hw hS hl
  exact lv_isub C.1 C.2.1 hd (k p e s m args below meth c H locs ls C hs hw hS hl)

theorem v_imul {x y : Int32} (hd : decode M.2.1 pc = .ok (.imul, 1))  (hn : pc + 1 = pc') (k : V G M R Z S pc' lv (.int (x * y) :: st) hp kc ks) : V G M R Z S pc lv (.int y :: .int x :: st) hp kc ks := by
  subst hn
  intro p e s m args below meth c H locs ls C hs hw hS hl
  exact lv_imul C.1 C.2.1 hd (k p e s m args below meth c H locs ls C hs hw hS hl)

theorem v_iand {x y : Int32} (hd : decode M.2.1 pc = .ok (.iand, 1))  (hn : pc + 1 = pc') (k : V G M R Z S pc' lv (.int (x &&& y) :: st) hp kc ks) : V G M R Z S pc lv (.int y :: .int x :: st) hp kc ks := by
  subst hn
  intro p e s m args below meth c H locs ls C hs hw hS hl
  exact lv_iand C.1 C.2.1 hd (k p e s m args below meth c H locs ls C hs hw hS hl)

theorem v_ior {x y : Int32} (hd : decode M.2.1 pc = .ok (.ior, 1))  (hn : pc + 1 = pc') (k : V G M R Z S pc' lv (.int (x ||| y) :: st) hp kc ks) : V G M R Z S pc lv (.int y :: .int x :: st) hp kc ks := by
  subst hn
  intro p e s m args below meth c H locs ls C hs hw hS hl
  exact lv_ior C.1 C.2.1 hd (k p e s m args below meth c H locs ls C hs hw hS hl)

theorem v_ixor {x y : Int32} (hd : decode M.2.1 pc = .ok (.ixor, 1))  (hn : pc + 1 = pc') (k : V G M R Z S pc' lv (.int (x ^^^ y) :: st) hp kc ks) : V G M R Z S pc lv (.int y :: .int x :: st) hp kc ks := by
  subst hn
  intro p e s m args below meth c H locs ls C hs hw hS hl
  exact lv_ixor C.1 C.2.1 hd (k p e s m args below meth c H locs ls C hs hw hS hl)

theorem v_ishl {x y : Int32} (hd : decode M.2.1 pc = .ok (.ishl, 1))  (hn : pc + 1 = pc') (k : V G M R Z S pc' lv (.int (x <<< (y &&& 31)) :: st) hp kc ks) : V G M R Z S pc lv (.int y :: .int x :: st) hp kc ks := by
  subst hn
  intro p e s m args below meth c H locs ls C hs hw hS hl
  exact lv_ishl C.1 C.2.1 hd (k p e s m args below meth c H locs ls C hs hw hS hl)

theorem v_idiv {x y : Int32} (hd : decode M.2.1 pc = .ok (.idiv, 1)) (hne : ¬ y = 0) (hn : pc + 1 = pc') (k : V G M R Z S pc' lv (.int (x / y) :: st) hp kc ks) : V G M R Z S pc lv (.int y :: .int x :: st) hp kc ks := by
  subst hn
  intro p e s m args below meth c H locs ls C hs hw hS hl
  exact lv_idiv C.1 C.2.1 hd hne (k p e s m args below meth c H locs ls C hs hw hS hl)

theorem v_irem {x y : Int32} (hd : decode M.2.1 pc = .ok (.irem, 1)) (hne : ¬ y = 0) (hn : pc + 1 = pc') (k : V G M R Z S pc' lv (.int (x - x / y * y) :: st) hp kc ks) : V G M R Z S pc lv (.int y :: .int x :: st) hp kc ks := by
  subst hn
  intro p e s m args below meth c H locs ls C hs hw hS hl
  exact lv_irem C.1 C.2.1 hd hne (k p e s m args below meth c H locs ls C hs hw hS hl)

theorem v_ineg {x : Int32} (hd : decode M.2.1 pc = .ok (.ineg, 1))  (hn : pc + 1 = pc') (k : V G M R Z S pc' lv (.int (-x) :: st) hp kc ks) : V G M R Z S pc lv (.int x :: st) hp kc ks := by
  subst hn
  intro p e s m args below meth c H locs ls C hs hw hS hl
  exact lv_ineg C.1 C.2.1 hd (k p e s m args below meth c H locs ls C hs hw hS hl)

theorem v_ladd {x y : Int64} (hd : decode M.2.1 pc = .ok (.ladd, 1))  (hn : pc + 1 = pc') (k : V G M R Z S pc' lv (.long (x + y) :: st) hp kc ks) : V G M R Z S pc lv (.long y :: .long x :: st) hp kc ks := by
  subst hn
  intro p e s m args below meth c H locs ls C hs hw hS hl
  exact lv_ladd C.1 C.2.1 hd (k p e s m args below meth c H locs ls C hs hw hS hl)

theorem v_lcmp {x y : Int64} (hd : decode M.2.1 pc = .ok (.lcmp, 1))  (hn : pc + 1 = pc') (k : V G M R Z S pc' lv (.int (lg_cmp x y) :: st) hp kc ks) : V G M R Z S pc lv (.long y :: .long x :: st) hp kc ks := by
  subst hn
  intro p e s m args below meth c H locs ls C hs hw hS hl
  exact W.lcmp C.1 C.2.1 hd (k p e s m args below meth c H locs ls C hs hw hS hl)

theorem v_i2l {x : Int32} (hd : decode M.2.1 pc = .ok (.i2l, 1))  (hn : pc + 1 = pc') (k : V G M R Z S pc' lv (.long x.toInt64 :: st) hp kc ks) : V G M R Z S pc lv (.int x :: st) hp kc ks := by
  subst hn
  intro p e s m args below meth c H locs ls C hs hw hS hl
  exact lv_i2l C.1 C.2.1 hd rfl (k p e s m args below meth c H locs ls C hs hw hS hl)

theorem v_dup {v : Value} (hd : decode M.2.1 pc = .ok (.dup, 1)) (hv : v.category = 1) (hn : pc + 1 = pc') (k : V G M R Z S pc' lv (v :: v :: st) hp kc ks) : V G M R Z S pc lv (v :: st) hp kc ks := by
  subst hn
  intro p e s m args below meth c H locs ls C hs hw hS hl
  exact lv_dup C.1 C.2.1 hd hv (k p e s m args below meth c H locs ls C hs hw hS hl)

theorem v_pop {v : Value} (hd : decode M.2.1 pc = .ok (.pop, 1)) (hv : v.category = 1) (hn : pc + 1 = pc') (k : V G M R Z S pc' lv (st) hp kc ks) : V G M R Z S pc lv (v :: st) hp kc ks := by
  subst hn
  intro p e s m args below meth c H locs ls C hs hw hS hl
  exact lv_pop C.1 C.2.1 hd hv (k p e s m args below meth c H locs ls C hs hw hS hl)

theorem v_ldc2 {n : Nat} {v : Int64} (hd : decode M.2.1 pc = .ok (.ldc2_w n, 3)) (hc : Cond.constantLong M.1.cls n v ∈ tbl) (hn : pc + 3 = pc') (k : V G M R Z S pc' lv (.long v :: st) hp kc ks) : V G M R Z S pc lv (st) hp kc ks := by
  subst hn
  intro p e s m args below meth c H locs ls C hs hw hS hl
  exact lv_ldc2 C.1 C.2.1 C.2.2.2.2.2.1 (C.2.2.2.2.2.2.2.1 _ hc) hd (k p e s m args below meth c H locs ls C hs hw hS hl)

theorem v_istore_n {n : Fin 4} {x : Int32} (hd : decode M.2.1 pc = .ok (.istore_n n, 1)) (hi : (n : Nat) < M.2.2.1) (hn : pc + 1 = pc') (k : V G M R Z S pc' (lv.set (n : Nat) (some (.int x))) st hp kc ks) : V G M R Z S pc lv (.int x :: st) hp kc ks := by
  subst hn
  intro p e s m args below meth c H locs ls C hs hw hS hl
  exact lv_istore_n C.1 C.2.1 hd rfl (lvh_has hl) hi rfl (fun ls' hl' => k p e s m args below meth c H locs ls' C hs hw hS (lvh_set hl rfl hl'))

theorem v_istore {n : Nat} {x : Int32} (hd : decode M.2.1 pc = .ok (.istore n, 2)) (hi : n < M.2.2.1) (hn : pc + 2 = pc') (k : V G M R Z S pc' (lv.set n (some (.int x))) st hp kc ks) : V G M R Z S pc lv (.int x :: st) hp kc ks := by
  subst hn
  intro p e s m args below meth c H locs ls C hs hw hS hl
  exact lv_istore C.1 C.2.1 hd (lvh_has hl) hi rfl (fun ls' hl' => k p e s m args below meth c H locs ls' C hs hw hS (lvh_set hl rfl hl'))

theorem v_astore_n {n : Fin 4} {x : Nat} (hd : decode M.2.1 pc = .ok (.astore_n n, 1)) (hi : (n : Nat) < M.2.2.1) (hn : pc + 1 = pc') (k : V G M R Z S pc' (lv.set (n : Nat) (some (.ref x))) st hp kc ks) : V G M R Z S pc lv (.ref x :: st) hp kc ks := by
  subst hn
  intro p e s m args below meth c H locs ls C hs hw hS hl
  exact lv_astore_n C.1 C.2.1 hd rfl (lvh_has hl) hi rfl (fun ls' hl' => k p e s m args below meth c H locs ls' C hs hw hS (lvh_set hl rfl hl'))

theorem v_astore {n : Nat} {x : Nat} (hd : decode M.2.1 pc = .ok (.astore n, 2)) (hi : n < M.2.2.1) (hn : pc + 2 = pc') (k : V G M R Z S pc' (lv.set n (some (.ref x))) st hp kc ks) : V G M R Z S pc lv (.ref x :: st) hp kc ks := by
  subst hn
  intro p e s m args below meth c H locs ls C hs hw hS hl
  exact lv_astore C.1 C.2.1 hd (lvh_has hl) hi rfl (fun ls' hl' => k p e s m args below meth c H locs ls' C hs hw hS (lvh_set hl rfl hl'))

theorem v_astore_nN {n : Fin 4} (hd : decode M.2.1 pc = .ok (.astore_n n, 1)) (hi : (n : Nat) < M.2.2.1) (hn : pc + 1 = pc') (k : V G M R Z S pc' (lv.set (n : Nat) (some (.null))) st hp kc ks) : V G M R Z S pc lv (.null :: st) hp kc ks := by
  subst hn
  intro p e s m args below meth c H locs ls C hs hw hS hl
  exact lv_astore_nN C.1 C.2.1 hd rfl (lvh_has hl) hi rfl (fun ls' hl' => k p e s m args below meth c H locs ls' C hs hw hS (lvh_set hl rfl hl'))

theorem v_astoreN {n : Nat} (hd : decode M.2.1 pc = .ok (.astore n, 2)) (hi : n < M.2.2.1) (hn : pc + 2 = pc') (k : V G M R Z S pc' (lv.set n (some (.null))) st hp kc ks) : V G M R Z S pc lv (.null :: st) hp kc ks := by
  subst hn
  intro p e s m args below meth c H locs ls C hs hw hS hl
  exact lv_astoreN C.1 C.2.1 hd (lvh_has hl) hi rfl (fun ls' hl' => k p e s m args below meth c H locs ls' C hs hw hS (lvh_set hl rfl hl'))

theorem v_iinc {i : Nat} {n : Int} {x v : Int32} (hd : decode M.2.1 pc = .ok (.iinc i n, 3)) (hx : lget lv i = some (.int x)) (hv : x + Int32.ofInt n = v) (hi : i < M.2.2.1) (hn : pc + 3 = pc') (k : V G M R Z S pc' (lv.set i (some (.int v))) st hp kc ks) : V G M R Z S pc lv st hp kc ks := by
  subst hn
  intro p e s m args below meth c H locs ls C hs hw hS hl
  have hm : (i, Value.int x) ∈ lprs 0 lv := by
    have h1 : lv[i]? = some (some (.int x)) := by
      unfold lget at hx
      cases hh : lv[i]? with
      | none => rw [hh] at hx; cases hx
      | some z => rw [hh] at hx; rw [show z = some _ from hx]
    simpa using lprs_mem lv 0 i _ h1
  obtain ⟨q, hq⟩ := List.getElem?_of_mem hm
  exact lv_iinc C.1 C.2.1 hd (lvh_has hl) hq hv hi rfl (fun ls' hl' => k p e s m args below meth c H locs ls' C hs hw hS (lvh_set hl rfl hl'))

theorem v_if_eq {x : Int32} {off : Int} (hd : decode M.2.1 pc = .ok (.ifCond .eq off, 3)) (ht : (pc : Int) + off = (tgt : Int)) (hn : pc + 3 = pc') (kt : x = 0 → V G M R Z S tgt lv st hp kc ks) (kf : ¬ x = 0 → V G M R Z S pc' lv st hp kc ks) : V G M R Z S pc lv (.int x :: st) hp kc ks := by
  subst hn
  intro p e s m args below meth c H locs ls C hs hw hS hl
  exact lv_if_eq C.1 C.2.1 hd ht (fun q => kt q p e s m args below meth c H locs ls C hs hw hS hl) (fun q => kf q p e s m args below meth c H locs ls C hs hw hS hl)

theorem v_icmp_eq {x y : Int32} {off : Int} (hd : decode M.2.1 pc = .ok (.if_icmp .eq off, 3)) (ht : (pc : Int) + off = (tgt : Int)) (hn : pc + 3 = pc') (kt : x = y → V G M R Z S tgt lv st hp kc ks) (kf : ¬ x = y → V G M R Z S pc' lv st hp kc ks) : V G M R Z S pc lv (.int y :: .int x :: st) hp kc ks := by
  subst hn
  intro p e s m args below meth c H locs ls C hs hw hS hl
  exact lv_icmp_eq C.1 C.2.1 hd ht (fun q => kt q p e s m args below meth c H locs ls C hs hw hS hl) (fun q => kf q p e s m args below meth c H locs ls C hs hw hS hl)

theorem v_if_ne {x : Int32} {off : Int} (hd : decode M.2.1 pc = .ok (.ifCond .ne off, 3)) (ht : (pc : Int) + off = (tgt : Int)) (hn : pc + 3 = pc') (kt : ¬ x = 0 → V G M R Z S tgt lv st hp kc ks) (kf : x = 0 → V G M R Z S pc' lv st hp kc ks) : V G M R Z S pc lv (.int x :: st) hp kc ks := by
  subst hn
  intro p e s m args below meth c H locs ls C hs hw hS hl
  exact lv_if_ne C.1 C.2.1 hd ht (fun q => kt q p e s m args below meth c H locs ls C hs hw hS hl) (fun q => kf q p e s m args below meth c H locs ls C hs hw hS hl)

theorem v_icmp_ne {x y : Int32} {off : Int} (hd : decode M.2.1 pc = .ok (.if_icmp .ne off, 3)) (ht : (pc : Int) + off = (tgt : Int)) (hn : pc + 3 = pc') (kt : ¬ x = y → V G M R Z S tgt lv st hp kc ks) (kf : x = y → V G M R Z S pc' lv st hp kc ks) : V G M R Z S pc lv (.int y :: .int x :: st) hp kc ks := by
  subst hn
  intro p e s m args below meth c H locs ls C hs hw hS hl
  exact lv_icmp_ne C.1 C.2.1 hd ht (fun q => kt q p e s m args below meth c H locs ls C hs hw hS hl) (fun q => kf q p e s m args below meth c H locs ls C hs hw hS hl)

theorem v_if_lt {x : Int32} {off : Int} (hd : decode M.2.1 pc = .ok (.ifCond .lt off, 3)) (ht : (pc : Int) + off = (tgt : Int)) (hn : pc + 3 = pc') (kt : x < 0 → V G M R Z S tgt lv st hp kc ks) (kf : ¬ x < 0 → V G M R Z S pc' lv st hp kc ks) : V G M R Z S pc lv (.int x :: st) hp kc ks := by
  subst hn
  intro p e s m args below meth c H locs ls C hs hw hS hl
  exact lv_if_lt C.1 C.2.1 hd ht (fun q => kt q p e s m args below meth c H locs ls C hs hw hS hl) (fun q => kf q p e s m args below meth c H locs ls C hs hw hS hl)

theorem v_icmp_lt {x y : Int32} {off : Int} (hd : decode M.2.1 pc = .ok (.if_icmp .lt off, 3)) (ht : (pc : Int) + off = (tgt : Int)) (hn : pc + 3 = pc') (kt : x < y → V G M R Z S tgt lv st hp kc ks) (kf : ¬ x < y → V G M R Z S pc' lv st hp kc ks) : V G M R Z S pc lv (.int y :: .int x :: st) hp kc ks := by
  subst hn
  intro p e s m args below meth c H locs ls C hs hw hS hl
  exact lv_icmp_lt C.1 C.2.1 hd ht (fun q => kt q p e s m args below meth c H locs ls C hs hw hS hl) (fun q => kf q p e s m args below meth c H locs ls C hs hw hS hl)

theorem v_if_ge {x : Int32} {off : Int} (hd : decode M.2.1 pc = .ok (.ifCond .ge off, 3)) (ht : (pc : Int) + off = (tgt : Int)) (hn : pc + 3 = pc') (kt : 0 ≤ x → V G M R Z S tgt lv st hp kc ks) (kf : ¬ 0 ≤ x → V G M R Z S pc' lv st hp kc ks) : V G M R Z S pc lv (.int x :: st) hp kc ks := by
  subst hn
  intro p e s m args below meth c H locs ls C hs hw hS hl
  exact lv_if_ge C.1 C.2.1 hd ht (fun q => kt q p e s m args below meth c H locs ls C hs hw hS hl) (fun q => kf q p e s m args below meth c H locs ls C hs hw hS hl)

theorem v_icmp_ge {x y : Int32} {off : Int} (hd : decode M.2.1 pc = .ok (.if_icmp .ge off, 3)) (ht : (pc : Int) + off = (tgt : Int)) (hn : pc + 3 = pc') (kt : y ≤ x → V G M R Z S tgt lv st hp kc ks) (kf : ¬ y ≤ x → V G M R Z S pc' lv st hp kc ks) : V G M R Z S pc lv (.int y :: .int x :: st) hp kc ks := by
  subst hn
  intro p e s m args below meth c H locs ls C hs hw hS hl
  exact lv_icmp_ge C.1 C.2.1 hd ht (fun q => kt q p e s m args below meth c H locs ls C hs hw hS hl) (fun q => kf q p e s m args below meth c H locs ls C hs hw hS hl)

theorem v_if_gt {x : Int32} {off : Int} (hd : decode M.2.1 pc = .ok (.ifCond .gt off, 3)) (ht : (pc : Int) + off = (tgt : Int)) (hn : pc + 3 = pc') (kt : 0 < x → V G M R Z S tgt lv st hp kc ks) (kf : ¬ 0 < x → V G M R Z S pc' lv st hp kc ks) : V G M R Z S pc lv (.int x :: st) hp kc ks := by
  subst hn
  intro p e s m args below meth c H locs ls C hs hw hS hl
  exact lv_if_gt C.1 C.2.1 hd ht (fun q => kt q p e s m args below meth c H locs ls C hs hw hS hl) (fun q => kf q p e s m args below meth c H locs ls C hs hw hS hl)

theorem v_icmp_gt {x y : Int32} {off : Int} (hd : decode M.2.1 pc = .ok (.if_icmp .gt off, 3)) (ht : (pc : Int) + off = (tgt : Int)) (hn : pc + 3 = pc') (kt : y < x → V G M R Z S tgt lv st hp kc ks) (kf : ¬ y < x → V G M R Z S pc' lv st hp kc ks) : V G M R Z S pc lv (.int y :: .int x :: st) hp kc ks := by
  subst hn
  intro p e s m args below meth c H locs ls C hs hw hS hl
  exact lv_icmp_gt C.1 C.2.1 hd ht (fun q => kt q p e s m args below meth c H locs ls C hs hw hS hl) (fun q => kf q p e s m args below meth c H locs ls C hs hw hS hl)

theorem v_if_le {x : Int32} {off : Int} (hd : decode M.2.1 pc = .ok (.ifCond .le off, 3)) (ht : (pc : Int) + off = (tgt : Int)) (hn : pc + 3 = pc') (kt : x ≤ 0 → V G M R Z S tgt lv st hp kc ks) (kf : ¬ x ≤ 0 → V G M R Z S pc' lv st hp kc ks) : V G M R Z S pc lv (.int x :: st) hp kc ks := by
  subst hn
  intro p e s m args below meth c H locs ls C hs hw hS hl
  exact lv_if_le C.1 C.2.1 hd ht (fun q => kt q p e s m args below meth c H locs ls C hs hw hS hl) (fun q => kf q p e s m args below meth c H locs ls C hs hw hS hl)

theorem v_icmp_le {x y : Int32} {off : Int} (hd : decode M.2.1 pc = .ok (.if_icmp .le off, 3)) (ht : (pc : Int) + off = (tgt : Int)) (hn : pc + 3 = pc') (kt : x ≤ y → V G M R Z S tgt lv st hp kc ks) (kf : ¬ x ≤ y → V G M R Z S pc' lv st hp kc ks) : V G M R Z S pc lv (.int y :: .int x :: st) hp kc ks := by
  subst hn
  intro p e s m args below meth c H locs ls C hs hw hS hl
  exact lv_icmp_le C.1 C.2.1 hd ht (fun q => kt q p e s m args below meth c H locs ls C hs hw hS hl) (fun q => kf q p e s m args below meth c H locs ls C hs hw hS hl)

theorem v_goto {off : Int} (hd : decode M.2.1 pc = .ok (.goto off, 3)) (ht : (pc : Int) + off = (tgt : Int)) (k : V G M R Z S tgt lv st hp kc ks) : V G M R Z S pc lv st hp kc ks := by
  intro p e s m args below meth c H locs ls C hs hw hS hl
  exact lv_goto C.1 C.2.1 hd ht (k p e s m args below meth c H locs ls C hs hw hS hl)

theorem v_ifnullN {off : Int} (hd : decode M.2.1 pc = .ok (.ifnull off, 3)) (ht : (pc : Int) + off = (tgt : Int)) (k : V G M R Z S tgt lv st hp kc ks) : V G M R Z S pc lv (.null :: st) hp kc ks := by
  intro p e s m args below meth c H locs ls C hs hw hS hl
  exact lv_ifnullN C.1 C.2.1 hd ht (k p e s m args below meth c H locs ls C hs hw hS hl)

theorem v_ifnonnull {off : Int} {x : Nat} (hd : decode M.2.1 pc = .ok (.ifnonnull off, 3)) (ht : (pc : Int) + off = (tgt : Int)) (k : V G M R Z S tgt lv st hp kc ks) : V G M R Z S pc lv (.ref x :: st) hp kc ks := by
  intro p e s m args below meth c H locs ls C hs hw hS hl
  exact lv_ifnonnull C.1 C.2.1 hd ht (k p e s m args below meth c H locs ls C hs hw hS hl)

theorem v_ifnull {off : Int} {x : Nat} (hd : decode M.2.1 pc = .ok (.ifnull off, 3))  (hn : pc + 3 = pc') (k : V G M R Z S pc' lv (st) hp kc ks) : V G M R Z S pc lv (.ref x :: st) hp kc ks := by
  subst hn
  intro p e s m args below meth c H locs ls C hs hw hS hl
  exact lv_ifnull C.1 C.2.1 hd (k p e s m args below meth c H locs ls C hs hw hS hl)

theorem v_ifnonnullN {off : Int} (hd : decode M.2.1 pc = .ok (.ifnonnull off, 3))  (hn : pc + 3 = pc') (k : V G M R Z S pc' lv (st) hp kc ks) : V G M R Z S pc lv (.null :: st) hp kc ks := by
  subst hn
  intro p e s m args below meth c H locs ls C hs hw hS hl
  exact lv_ifnonnullN C.1 C.2.1 hd (k p e s m args below meth c H locs ls C hs hw hS hl)

theorem v_tableIn {dflt lo hi off : Int} {offs : Array Int} {len : Nat} {x : Int32} (hd : decode M.2.1 pc = .ok (.tableswitch dflt lo hi offs, len)) (h1 : ¬ x.toInt < lo) (h2 : ¬ hi < x.toInt) (ho : offs[(x.toInt - lo).toNat]? = some off) (ht : (pc : Int) + off = (tgt : Int)) (k : V G M R Z S tgt lv st hp kc ks) : V G M R Z S pc lv (.int x :: st) hp kc ks := by
  intro p e s m args below meth c H locs ls C hs hw hS hl
  exact lv_tableIn C.1 C.2.1 hd h1 h2 ho ht (k p e s m args below meth c H locs ls C hs hw hS hl)

theorem v_tableOut {dflt lo hi : Int} {offs : Array Int} {len : Nat} {x : Int32} (hd : decode M.2.1 pc = .ok (.tableswitch dflt lo hi offs, len)) (h : x.toInt < lo ∨ hi < x.toInt) (ht : (pc : Int) + dflt = (tgt : Int)) (k : V G M R Z S tgt lv st hp kc ks) : V G M R Z S pc lv (.int x :: st) hp kc ks := by
  intro p e s m args below meth c H locs ls C hs hw hS hl
  exact lv_tableOut C.1 C.2.1 hd h ht (k p e s m args below meth c H locs ls C hs hw hS hl)

end LIGHT
/-- what a class's rows of the tables say -/
def CI (ci : Nat) (C : String) (T : u_T) (N : Nat) (ty : Nat → FieldType) : Prop := vwCl[ci]? = some (C, T, N) ∧ (∀ w ∈ u_ws C T N, w ∈ tbl) ∧ (∀ k, k < N → parseFieldDescriptor (T k).2.2.1 = some (ty k)) ∧ (∀ a, a < N → ∀ b, b < N → a ≠ b → (T a).2.1 ≠ (T b).2.1)
/-- a field that a class names: its class's number and place, its type, whether it is final -/
def FL (own : String) (index ci k : Nat) (ty : FieldType) (fin : Bool) : Prop := ∃ (C : String) (T : u_T) (N : Nat) (tf : Nat → FieldType), CI ci C T N tf ∧ k < N ∧ tf k = ty ∧ (T k).2.2.2 = fin ∧ (T k).1 = C ∧ Cond.fieldLink own index C (T k).2.1 (T k).2.2.1 ∈ tbl
abbrev aI (G : GG) (n : Nat) (f : Nat → Int32) : va_E := .inl (G.2.2.1.1, n, .inl f)
abbrev aL (G : GG) (n : Nat) (f : Nat → Option Nat) : va_E := .inl (G.2.2.1.2.1, n, .inr (.inr (.inr (.inr f))))
abbrev aW (G : GG) (n : Nat) (f : Nat → Option Nat) : va_E := .inl (G.2.2.1.2.2, n, .inr (.inr (.inr (.inr f))))
abbrev ob (ci : Nat) (fs : List Value) : va_E := .inr (ci, fs)
section LIGHT2
variable {G : GG} {M : MI} {R : Room} {Z : ZZ} {S : SS} {pc pc' tgt : Nat} {lv : List (Option Value)} {st : List Value} {hp : List va_E} {kc ks : Nat}
theorem v_getf {i ci k index : Nat} {fs : List Value} {v : Value} {ty : FieldType} {fin : Bool} (hd : decode M.2.1 pc = .ok (.getfield index, 3)) (hf : FL M.1.cls index ci k ty fin) (he : hp[i]? = some (ob ci fs)) (hv : fs[k]? = some v) (hn : pc + 3 = pc') (kk : V G M R Z S pc' lv (v :: st) hp kc ks) : V G M R Z S pc lv (.ref (G.2.2.2 + i) :: st) hp kc ks := by
  subst hn
  intro p e s m args below meth c H locs ls X hs hw hS hl
  obtain ⟨C, T, N, tf, hC, hk, -, -, ho, hlk⟩ := hf
  refine va_get X.1 X.2.1 X.2.2.2.2.2.2.2.1 hC.2.1 X.2.2.2.2.2.1 X.2.2.2.2.2.2.2.2.1.1 hw.1 i (wz_at he) hC.1 k hk (X.2.2.2.2.2.2.2.1 _ hlk) (fun x h => by rw [← ho]; exact h) hv hd (kk p e s m args below meth c H locs ls X hs hw hS hl)
theorem Wd.set {G : GG} {hp : List va_E} {i : Nat} {e : va_E} {H H1 : Heap} (hw : Wd G hp H) (hsz : H1.size = H.size) (h : va_P G.2.1 vwCl ((wz G.2.2.2 hp).set i (G.2.2.2 + i, e)) H1) : Wd G (hp.set i e) H1 := by
  rw [wz_set] at h
  exact ⟨h, by rw [hsz, hw.2, List.length_set]⟩
theorem v_putf {i ci k index : Nat} {fs : List Value} {v : Value} {ty : FieldType} (hd : decode M.2.1 pc = .ok (.putfield index, 3)) (hf : FL M.1.cls index ci k ty false) (he : hp[i]? = some (ob ci fs)) (hnr : narrow ty v = v) (hft : fits ty v = true) (hl0 : k < fs.length) (hn : pc + 3 = pc') (kk : V G M R Z S pc' lv st (hp.set i (ob ci (fs.set k v))) kc ks) : V G M R Z S pc lv (v :: .ref (G.2.2.2 + i) :: st) hp kc ks := by
  subst hn
  intro p e s m args below meth c H locs ls X hs hw hS hl
  obtain ⟨C, T, N, tf, hC, hk, hty, hfin, ho, hlk⟩ := hf
  subst hty
  have hts := X.2.2.2.2.2.2.2.1
  have hK := X.2.2.2.2.2.2.2.2.1.1
  have hD0 := wz_D G.2.2.2 hp
  have hap := va_apart (own := C) hts hC.2.1 tf hC.2.2.1 hC.2.2.2 hK hC.1
  obtain ⟨r, h1, cell, q1, q2, q3, q4⟩ := hw.1 i _ (wz_at he)
  cases Option.some.inj (h1.symm.trans hC.1)
  obtain ⟨hSl, hfc, kC, hkC, hkind⟩ := hK.1 ci _ hC.1
  obtain ⟨cf, kf, fi, f, hi, hsl⟩ := hSl k hk
  have hlay := hts _ (hC.2.1 _ (u_in_lay hk))
  rw [u_lay, if_neg (by rw [hfin]; decide)] at hlay
  have hst := (u_facts hfc hkC (u_lays hts hC.2.1 hk) hi).1
  have h6 := u_store hfc hkC hkind hlay hi (hC.2.2.1 k hk) hnr hft
  refine W.putK X.1 X.2.1 (f := f) ⟨X.2.2.2.2.2.1, hts _ hlk, ⟨cf, kf, fi, by rw [← ho]; exact hi⟩, hst⟩ (by rw [q2]; exact h6) q1 q3 (by rw [hsl]; exact k2_hasslot (q4 k hk)) rfl rfl hd fun H' e1 e2 e3 => ?_
  rw [hsl] at e1 ⊢
  exact kk p e s m args below meth c H' _ ls X hs (hw.set e2 (hw.1.set hD0 (wz_at he) ⟨_, hC.1, t_OB.to (V := updV (vp_V fs) k v) ⟨_, e1, q2, q3, t_set q4 hap hk v⟩ (fun j _ => vp_updV_set hl0 v j)⟩ e3)) (hS.put e2 e3 (Nat.le_add_right _ _)) hl
theorem v_putF {i ci k index : Nat} {fs : List Value} {v : Value} {ty : FieldType} (hd : decode M.2.1 pc = .ok (.putfield index, 3)) (hf : FL M.1.cls index ci k ty true) (hcls : (vwCl[ci]?).map (fun q => q.1) = some M.1.cls) (hinit : M.1.name = "<init>") (he : hp[i]? = some (ob ci fs)) (hnr : narrow ty v = v) (hft : fits ty v = true) (hl0 : k < fs.length) (hn : pc + 3 = pc') (kk : V G M R Z S pc' lv st (hp.set i (ob ci (fs.set k v))) kc ks) : V G M R Z S pc lv (v :: .ref (G.2.2.2 + i) :: st) hp kc ks := by
  subst hn
  intro p e s m args below meth c H locs ls X hs hw hS hl
  obtain ⟨C, T, N, tf, hC, hk, hty, hfin, ho, hlk⟩ := hf
  subst hty
  have hts := X.2.2.2.2.2.2.2.1
  have hK := X.2.2.2.2.2.2.2.2.1.1
  have hown := X.2.2.2.2.2.1
  have hD0 := wz_D G.2.2.2 hp
  have hap := va_apart (own := C) hts hC.2.1 tf hC.2.2.1 hC.2.2.2 hK hC.1
  have hcc : C = M.1.cls := by rw [hC.1] at hcls; exact Option.some.inj hcls
  obtain ⟨r, h1, cell, q1, q2, q3, q4⟩ := hw.1 i _ (wz_at he)
  cases Option.some.inj (h1.symm.trans hC.1)
  obtain ⟨hSl, hfc, kC, hkC, hkind⟩ := hK.1 ci _ hC.1
  obtain ⟨cf, kf, fi, f, hi, hsl⟩ := hSl k hk
  have hlay := hts _ (hC.2.1 _ (u_in_lay hk))
  rw [u_lay, if_pos hfin] at hlay
  have hst := (u_facts hfc hkC (u_lays hts hC.2.1 hk) hi).1
  have hcf : m.cls = cf := by
    obtain ⟨_, _, c', _, _, _, -, -, hf', -, -, -, hown2, -⟩ := Cond.laysFinal_spec hlay
    have e1 : c' = cf := by have := hi.symm.trans hf'; simp at this; exact this.1.symm
    rw [ho, hcc] at hown2
    rw [← e1]; exact Option.some.inj (hown.symm.trans hown2)
  have h6 := u_fits hfc hkC hkind (Or.inr hlay) hi (hC.2.2.1 k hk) hnr hft
  refine W.putFinK X.1 X.2.1 hown (hts _ hlk) (by rw [← ho]; exact hi) hst hcf (X.2.2.2.2.2.2.1.trans hinit) (by rw [q2]; exact h6) q1 q3 (by rw [hsl]; exact k2_hasslot (q4 k hk)) rfl rfl hd fun H' e1 e2 e3 => ?_
  rw [hsl] at e1 ⊢
  exact kk p e s m args below meth c H' _ ls X hs (hw.set e2 (hw.1.set hD0 (wz_at he) ⟨_, hC.1, t_OB.to (V := updV (vp_V fs) k v) ⟨_, e1, q2, q3, t_set q4 hap hk v⟩ (fun j _ => vp_updV_set hl0 v j)⟩ e3)) (hS.put e2 e3 (Nat.le_add_right _ _)) hl
theorem v_iald {i n : Nat} {f : Nat → Int32} {x : Int32} (j : Nat) (hd : decode M.2.1 pc = .ok (.iaload, 1)) (he : hp[i]? = some (aI G n f)) (hx : x = nI j) (hj : j < n) (hb : n < 2 ^ 31) (hn : pc + 1 = pc') (kk : V G M R Z S pc' lv (.int (f j) :: st) hp kc ks) : V G M R Z S pc lv (.int x :: .ref (G.2.2.2 + i) :: st) hp kc ks := by
  subst hn; subst hx
  intro p e s m args below meth c H locs ls X hs hw hS hl
  refine va_iald X.1 X.2.1 X.2.2.2.2.2.2.2.2.1.1 hw.1 i 0 (wz_at he) rfl (vp_in_nI hj hb) hd ?_
  rw [nI_clamp (by omega)]
  exact kk p e s m args below meth c H locs ls X hs hw hS hl
theorem v_iast {i n : Nat} {f : Nat → Int32} {x y : Int32} (j : Nat) (hd : decode M.2.1 pc = .ok (.iastore, 1)) (he : hp[i]? = some (aI G n f)) (hx : x = nI j) (hj : j < n) (hb : n < 2 ^ 31) (hn : pc + 1 = pc') (kk : V G M R Z S pc' lv st (hp.set i (aI G n (upd f j y))) kc ks) : V G M R Z S pc lv (.int y :: .int x :: .ref (G.2.2.2 + i) :: st) hp kc ks := by
  subst hn; subst hx
  intro p e s m args below meth c H locs ls X hs hw hS hl
  have hD0 := wz_D G.2.2.2 hp
  have hin := vp_in_nI hj hb
  refine W.iast X.1 X.2.1 (hw.1 i _ (wz_at he)) ((X.2.2.2.2.2.2.2.2.1.1.2 0 _ rfl).1 n (fun j => .int (f j))) (fun q => by cases q) (by show ¬ (nI j < 0 ∨ (arrV _ _ _).slots.size ≤ _); rw [arrV_size]; exact hin) rfl rfl hd fun H1 e1 z oq => ?_
  refine kk p e s m args below meth c H1 _ ls X hs (hw.set z (hw.1.set hD0 (wz_at he) ?_ oq)) (hS.put z oq (Nat.le_add_right _ _)) hl
  show H1[_]? = some (vp_cell _ _)
  rw [e1, nI_clamp (by omega)]
  rw [vp_cell_i, vp_cell_i, arrV_store]
  congr 2
  funext q
  by_cases hq : q = j
  · subst hq
    simp [updV, upd]
  · simp [updV, upd, hq]
theorem v_alen {i n : Nat} {f : Nat → Int32} (hd : decode M.2.1 pc = .ok (.arraylength, 1)) (he : hp[i]? = some (aI G n f)) (hn : pc + 1 = pc') (kk : V G M R Z S pc' lv (.int (nI n) :: st) hp kc ks) : V G M R Z S pc lv (.ref (G.2.2.2 + i) :: st) hp kc ks := by
  subst hn
  intro p e s m args below meth c H locs ls X hs hw hS hl
  exact va_alen X.1 X.2.1 X.2.2.2.2.2.2.2.2.1.1 hw.1 i 0 (wz_at he) rfl rfl hd (kk p e s m args below meth c H locs ls X hs hw hS hl)
theorem v_aaldL {i n : Nat} {f : Nat → Option Nat} {x : Int32} (j : Nat) {v : Value} (hd : decode M.2.1 pc = .ok (.aaload, 1)) (he : hp[i]? = some (aL G n f)) (hx : x = nI j) (hj : j < n) (hb : n < 2 ^ 31) (hv : va_rf (f j) = v) (hn : pc + 1 = pc') (kk : V G M R Z S pc' lv (v :: st) hp kc ks) : V G M R Z S pc lv (.int x :: .ref (G.2.2.2 + i) :: st) hp kc ks := by
  subst hn; subst hx; subst hv
  intro p e s m args below meth c H locs ls X hs hw hS hl
  refine va_aldq X.1 X.2.1 X.2.2.2.2.2.2.2.2.1.1 hw.1 i 1 (wz_at he) rfl (vp_in_nI hj hb) hd ?_
  rw [nI_clamp (by omega)]
  exact kk p e s m args below meth c H locs ls X hs hw hS hl
theorem v_aaldW {i n : Nat} {f : Nat → Option Nat} {x : Int32} (j : Nat) {v : Value} (hd : decode M.2.1 pc = .ok (.aaload, 1)) (he : hp[i]? = some (aW G n f)) (hx : x = nI j) (hj : j < n) (hb : n < 2 ^ 31) (hv : va_rf (f j) = v) (hn : pc + 1 = pc') (kk : V G M R Z S pc' lv (v :: st) hp kc ks) : V G M R Z S pc lv (.int x :: .ref (G.2.2.2 + i) :: st) hp kc ks := by
  subst hn; subst hx; subst hv
  intro p e s m args below meth c H locs ls X hs hw hS hl
  refine va_aldq X.1 X.2.1 X.2.2.2.2.2.2.2.2.1.1 hw.1 i 2 (wz_at he) rfl (vp_in_nI hj hb) hd ?_
  rw [nI_clamp (by omega)]
  exact kk p e s m args below meth c H locs ls X hs hw hS hl
theorem v_aastL {i n iv : Nat} {vs : List Value} {f : Nat → Option Nat} {x : Int32} (j : Nat) (hd : decode M.2.1 pc = .ok (.aastore, 1)) (he : hp[i]? = some (aL G n f)) (hev : hp[iv]? = some (ob 0 vs)) (hx : x = nI j) (hj : j < n) (hb : n < 2 ^ 31) (hn : pc + 1 = pc') (kk : V G M R Z S pc' lv st (hp.set i (aL G n (va_up f j (some (G.2.2.2 + iv))))) kc ks) : V G M R Z S pc lv (.ref (G.2.2.2 + iv) :: .int x :: .ref (G.2.2.2 + i) :: st) hp kc ks := by
  subst hn; subst hx
  intro p e s m args below meth c H locs ls X hs hw hS hl
  have hD0 := wz_D G.2.2.2 hp
  have hin := vp_in_nI hj hb
  have hK := X.2.2.2.2.2.2.2.2.1.1
  obtain ⟨r', hr', cellV, g1, g2, g3, -⟩ := hw.1 iv _ (wz_at hev)
  have hcls := (hK.1 0 _ rfl).2
  obtain ⟨kA, comp, k1, k2, k3, -⟩ := (hK.2 1 _ rfl).2
  have hcomp : comp = G.2.1.1 0 := Option.some.inj (k3.symm.trans hcls.1)
  subst hcomp
  obtain ⟨kC, hkC, -⟩ := hcls.2
  refine W.aast X.1 X.2.1 (hw.1 i _ (wz_at he)) (fun q h => by cases h) (fun h => by cases h) k1 k2 rfl hkC ⟨fun q => hin (Or.inl q), by show _ < (arrV _ _ _).slots.size; rw [arrV_size, nI_clamp (by omega)]; exact hj⟩ g1 (fun q h => by rw [g3] at h; cases h) (by rw [g2]; exact hkC) (by rw [g2]; exact va_assign hcls) rfl rfl hd fun H1 e1 z oq => ?_
  refine kk p e s m args below meth c H1 _ ls X hs (hw.set z (hw.1.set hD0 (wz_at he) ?_ oq)) (hS.put z oq (Nat.le_add_right _ _)) hl
  show H1[_]? = some (vp_cell _ _)
  rw [e1, nI_clamp (by omega)]
  rw [vp_cell_q, vp_cell_q, arrV_store]
  congr 2
  funext q
  by_cases hq : q = j
  · subst hq
    simp [updV, va_up, va_rf]
  · simp [updV, va_up, hq]
theorem v_aastW {i n iv : Nat} {vs : List Value} {f : Nat → Option Nat} {x : Int32} (j : Nat) (hd : decode M.2.1 pc = .ok (.aastore, 1)) (he : hp[i]? = some (aW G n f)) (hev : hp[iv]? = some (ob 1 vs)) (hx : x = nI j) (hj : j < n) (hb : n < 2 ^ 31) (hn : pc + 1 = pc') (kk : V G M R Z S pc' lv st (hp.set i (aW G n (va_up f j (some (G.2.2.2 + iv))))) kc ks) : V G M R Z S pc lv (.ref (G.2.2.2 + iv) :: .int x :: .ref (G.2.2.2 + i) :: st) hp kc ks := by
  subst hn; subst hx
  intro p e s m args below meth c H locs ls X hs hw hS hl
  have hD0 := wz_D G.2.2.2 hp
  have hin := vp_in_nI hj hb
  have hK := X.2.2.2.2.2.2.2.2.1.1
  obtain ⟨r', hr', cellV, g1, g2, g3, -⟩ := hw.1 iv _ (wz_at hev)
  have hcls := (hK.1 1 _ rfl).2
  obtain ⟨kA, comp, k1, k2, k3, -⟩ := (hK.2 2 _ rfl).2
  have hcomp : comp = G.2.1.1 1 := Option.some.inj (k3.symm.trans hcls.1)
  subst hcomp
  obtain ⟨kC, hkC, -⟩ := hcls.2
  refine W.aast X.1 X.2.1 (hw.1 i _ (wz_at he)) (fun q h => by cases h) (fun h => by cases h) k1 k2 rfl hkC ⟨fun q => hin (Or.inl q), by show _ < (arrV _ _ _).slots.size; rw [arrV_size, nI_clamp (by omega)]; exact hj⟩ g1 (fun q h => by rw [g3] at h; cases h) (by rw [g2]; exact hkC) (by rw [g2]; exact va_assign hcls) rfl rfl hd fun H1 e1 z oq => ?_
  refine kk p e s m args below meth c H1 _ ls X hs (hw.set z (hw.1.set hD0 (wz_at he) ?_ oq)) (hS.put z oq (Nat.le_add_right _ _)) hl
  show H1[_]? = some (vp_cell _ _)
  rw [e1, nI_clamp (by omega)]
  rw [vp_cell_q, vp_cell_q, arrV_store]
  congr 2
  funext q
  by_cases hq : q = j
  · subst hq
    simp [updV, va_up, va_rf]
  · simp [updV, va_up, hq]
theorem Wd.push {G : GG} {hp : List va_E} {e : va_E} {H H1 : Heap} (hw : Wd G hp H) (hsz : H1.size = H.size + 1) (ho : ∀ q, q < H.size → H1[q]? = H[q]?) (h : va_at G.2.1 vwCl (G.2.2.2 + hp.length, e) H1) : Wd G (hp ++ [e]) H1 := by
  refine ⟨?_, by rw [hsz, hw.2, List.length_append]; rfl⟩
  rw [wz_push]
  refine (hw.1.kept (fun k x hx => ho x.1 ((hw.1 k x hx).lt))).app (fun k x hx => ?_)
  have hz : k < 1 := (List.getElem?_eq_some_iff.mp hx).1
  rw [show k = 0 by omega] at hx
  cases hx
  exact h
theorem va_S.grow {A : Nat → Prop} {H0 H H1 : Heap} {locs : List Loc} (hS : va_S A H0 H locs) (hsz : H1.size = H.size + 1) (ho : ∀ q, q < H.size → H1[q]? = H[q]?) : va_S A H0 H1 locs :=
  ⟨by have := hS.1; omega, fun x h1 h2 => (ho x (Nat.lt_of_lt_of_le h1 hS.1)).trans (hS.2.1 x h1 h2), hS.2.2⟩
theorem v_new {ci index : Nat} {C : String} {T : u_T} {N : Nat} {tf : Nat → FieldType} {fs : List Value} (hd : decode M.2.1 pc = .ok (.new index, 3)) (hC : CI ci C T N tf) (hcl : Cond.classLink M.1.cls index C ∈ tbl) (hinst : Cond.instantiable C N ∈ tbl) (hini : Cond.initialized C ∈ tbl) (hfs : ∀ j, j < N → defaultValue (tf j) = vp_V fs j) (hcells : kc + 1 ≤ R.cells) (hslots : ks + N ≤ R.slots) (hn : pc + 3 = pc') (kk : V G M R Z S pc' lv (.ref (G.2.2.2 + hp.length) :: st) (hp ++ [ob ci fs]) (kc + 1) (ks + N)) : V G M R Z S pc lv st hp kc ks := by
  subst hn
  intro p e s m args below meth c H locs ls X hs hw hS hl
  have hts := X.2.2.2.2.2.2.2.1
  have hKn := X.2.2.2.2.2.2.2.2.1.1.1 ci _ hC.1
  refine W.newcK X.1 X.2.1 X.2.2.2.2.2.1 (hts _ hcl) (hts _ hinst) (hts _ hini) rfl hd hcells hslots hKn.2.1 hw.2 fun H1 kC hkC e1 z1 o1 => ?_
  rw [← hw.2] at z1 o1
  exact kk p e s m args below meth c H1 locs ls X hs (hw.push z1 o1 ⟨_, hC.1, (u_born tf hts hC.2.1 hKn hkC e1 hC.2.2.1).to hfs⟩) (hS.grow z1 o1) hl
theorem v_newa {n : Int32} {N : Nat} (hd : decode M.2.1 pc = .ok (.newarray .int, 2)) (harr : Cond.arrayClass .int ∈ tbl) (hN : n = nI N) (hN2 : N ≤ 1000) (hcells : kc + 1 ≤ R.cells) (hslots : ks + N ≤ R.slots) (hn : pc + 2 = pc') (kk : V G M R Z S pc' lv (.ref (G.2.2.2 + hp.length) :: st) (hp ++ [aI G N (fun _ => 0)]) (kc + 1) (ks + N)) : V G M R Z S pc lv (.int n :: st) hp kc ks := by
  subst hn; subst hN
  intro p e s m args below meth c H locs ls X hs hw hS hl
  have hts := X.2.2.2.2.2.2.2.1
  have hK := X.2.2.2.2.2.2.2.2.1.1
  refine va_newaK X.1 X.2.1 (atype := .int) (hts _ harr) rfl hd rfl (nI_pos (by omega)) (nI_clamp (by omega)) (by show N * 4 ≤ _; omega) hcells hslots hw.2 fun H1 cA e1 z1 o1 hAr hNm => ?_
  rw [← hw.2] at z1 o1
  have hcA : G.2.2.1.1 = cA := Option.some.inj ((hK.2 0 _ rfl).2.symm.trans hNm)
  subst hcA
  refine kk p e s m args below meth c H1 locs ls X hs (hw.push z1 o1 ?_) (hS.grow z1 o1) hl
  exact e1
theorem v_anewL {index : Nat} {n : Int32} {N : Nat} (hd : decode M.2.1 pc = .ok (.anewarray index, 3)) (hcl : Cond.classLink M.1.cls index RX0 ∈ tbl) (hN : n = nI N) (hN2 : N ≤ 1000) (hcells : kc + 1 ≤ R.cells) (hslots : ks + N ≤ R.slots) (hn : pc + 3 = pc') (kk : V G M R Z S pc' lv (.ref (G.2.2.2 + hp.length) :: st) (hp ++ [aL G N (fun _ => none)]) (kc + 1) (ks + N)) : V G M R Z S pc lv (.int n :: st) hp kc ks := by
  subst hn; subst hN
  intro p e s m args below meth c H locs ls X hs hw hS hl
  have hts := X.2.2.2.2.2.2.2.1
  have hK := X.2.2.2.2.2.2.2.2.1.1
  have hcl2 : (nI N).toNatClampNeg = N := nI_clamp (by omega)
  refine W.anew X.1 X.2.1 X.2.2.2.2.2.1 (hts _ hcl) (va_AO.use X.2.2.2.2.2.2.2.2.1.2.1) rfl hd rfl (nI_pos (by omega)) (by rw [hcl2]; omega) hcells (by rw [hcl2]; exact hslots) fun cA kA comp f1 f2 f3 f4 => ?_
  obtain ⟨-, -, -, -, -, hNm⟩ := (hK.2 1 _ rfl).2
  have hcA : G.2.2.1.2.1 = cA := Option.some.inj (hNm.symm.trans f1)
  subst hcA
  rw [hcl2]
  generalize hH1 : H.push ({ cls := G.2.2.1.2.1, slots := Array.replicate N .null, vm := .none } : Cell) = H1
  have z1 : H1.size = H.size + 1 := by rw [← hH1, Array.size_push]
  have e1 : H1[H.size]? = some (arrV G.2.2.1.2.1 N (fun _ => .null)) := by rw [← hH1, Array.getElem?_push_size, ← arrV_new]
  have o1 : ∀ q : Nat, q < H.size → H1[q]? = H[q]? := fun q hq => by rw [← hH1, Array.getElem?_push, if_neg (Nat.ne_of_lt hq)]
  have hsz := hw.2
  rw [hsz] at e1 ⊢
  refine kk p e s m args below meth c H1 locs ls X hs (hw.push z1 o1 ?_) (hS.grow z1 o1) hl
  exact e1
theorem v_anewW {index : Nat} {n : Int32} {N : Nat} (hd : decode M.2.1 pc = .ok (.anewarray index, 3)) (hcl : Cond.classLink M.1.cls index RX1 ∈ tbl) (hN : n = nI N) (hN2 : N ≤ 1000) (hcells : kc + 1 ≤ R.cells) (hslots : ks + N ≤ R.slots) (hn : pc + 3 = pc') (kk : V G M R Z S pc' lv (.ref (G.2.2.2 + hp.length) :: st) (hp ++ [aW G N (fun _ => none)]) (kc + 1) (ks + N)) : V G M R Z S pc lv (.int n :: st) hp kc ks := by
  subst hn; subst hN
  intro p e s m args below meth c H locs ls X hs hw hS hl
  have hts := X.2.2.2.2.2.2.2.1
  have hK := X.2.2.2.2.2.2.2.2.1.1
  have hcl2 : (nI N).toNatClampNeg = N := nI_clamp (by omega)
  refine W.anew X.1 X.2.1 X.2.2.2.2.2.1 (hts _ hcl) (va_AO.use X.2.2.2.2.2.2.2.2.1.2.2) rfl hd rfl (nI_pos (by omega)) (by rw [hcl2]; omega) hcells (by rw [hcl2]; exact hslots) fun cA kA comp f1 f2 f3 f4 => ?_
  obtain ⟨-, -, -, -, -, hNm⟩ := (hK.2 2 _ rfl).2
  have hcA : G.2.2.1.2.2 = cA := Option.some.inj (hNm.symm.trans f1)
  subst hcA
  rw [hcl2]
  generalize hH1 : H.push ({ cls := G.2.2.1.2.2, slots := Array.replicate N .null, vm := .none } : Cell) = H1
  have z1 : H1.size = H.size + 1 := by rw [← hH1, Array.size_push]
  have e1 : H1[H.size]? = some (arrV G.2.2.1.2.2 N (fun _ => .null)) := by rw [← hH1, Array.getElem?_push_size, ← arrV_new]
  have o1 : ∀ q : Nat, q < H.size → H1[q]? = H[q]? := fun q hq => by rw [← hH1, Array.getElem?_push, if_neg (Nat.ne_of_lt hq)]
  have hsz := hw.2
  rw [hsz] at e1 ⊢
  refine kk p e s m args below meth c H1 locs ls X hs (hw.push z1 o1 ?_) (hS.grow z1 o1) hl
  exact e1
theorem v_objInit {idx i : Nat} (hd : decode M.2.1 pc = .ok (.invokespecial idx, 3)) (hlink : Cond.methodLink M.1.cls idx Lib.objectInit ∈ tbl) (hinst : Cond.instanceMethod Lib.objectInit ∈ tbl) (hcode : Cond.code Lib.objectInit ⟨#[0xb1]⟩ 1 none ∈ tbl) (hframes : 1 ≤ R.frames) (hlocals : (st.map fun v => v.category).sum + 12 ≤ R.locals) (hn : pc + 3 = pc') (kk : V G M R Z S pc' lv st hp kc ks) : V G M R Z S pc lv (.ref i :: st) hp kc ks := by
  subst hn
  intro p e s m args below meth c H locs ls X hs hw hS hl
  have hts := X.2.2.2.2.2.2.2.1
  refine W.objInit X.1 X.2.1 X.2.2.2.2.2.1 (hts _ hlink) (hts _ hinst) (hts _ hcode) rfl (by rw [X.2.2.1]; exact hl.1) rfl hd hframes (by show 2 * 0 + _ + 12 ≤ _; omega) ?_
  exact kk p e s m args below meth c H locs ls X hs hw hS hl
/-- behind a call -/
theorem v_cont {p : Program} {e : Env} {s : State} {m : MethodId} {args a : Array Value} {below : List Frame} {meth : Method} {c : Code} {H : Heap} {locs : List Loc} {ls : Array Slot} {Q : QQ} {Z' : State → Prop} {mc ms : Nat} {st0 rest : List Value} (hr : va_Run p G.1 e R s m args below meth c H locs kc ks mc ms (F0 m pc ls st0) rest (QcM G Q a) (fun q => G.2.2.2 ≤ q)) (hS : va_S (fun q => G.2.2.2 ≤ q) s.heap H locs)
    (kk : ∀ (r : Option Value) (hp' : List va_E) (H1 : Heap) (locs1 : List Loc), Q r hp' → Wd G hp' H1 → va_S (fun q => G.2.2.2 ≤ q) s.heap H1 locs1 → W p G.1 e R s m args below meth c H1 locs1 (kc + mc) (ks + ms) Z' (F0 m (pc + 3) ls (r.toList ++ rest))) : W p G.1 e R s m args below meth c H locs kc ks Z' (F0 m pc ls st0) := by
  intro T hT X
  obtain ⟨v, st₀, t, T', L, h0, X', hL, e1, e2, ⟨⟨r, hp', hv, hp, hb⟩, hz, hk⟩, go⟩ := hr T hT X
  cases hv
  rw [h0] at hz hk
  obtain ⟨t2, a1, b1⟩ := kk v hp' T'.heap (locs ++ L) hp (by rw [e1]; exact hb)
    ⟨Nat.le_trans hS.1 (by rw [e1]; exact hz), fun q h1 h2 => by rw [e1, hk q (Nat.lt_of_lt_of_le h1 hS.1) h2]; exact hS.2.1 q h1 h2, fun q hq => by
      rcases List.mem_append.mp hq with h | h
      · exact hS.2.2 q h
      · exact hL q h⟩ T' rfl X'
  exact ⟨t2, go t2 a1, b1⟩
theorem pcm_blind {av : List Value} : FrameBlind (PcM G av hp) := fun a U g mk q => ⟨q.1, q.2.1, KK.moved (u := U) (U := U.calling g mk a) (Vm.Alike.refl U.vm) q.2.2⟩
/-- the words of a callee, by the tables -/
def CW (own : String) (index : Nat) (N : MI) (n : Nat) : Prop := Cond.code N.1 N.2.1 N.2.2.1 N.2.2.2 ∈ tbl ∧ Cond.methodLink own index N.1 ∈ tbl ∧ Cond.initialized N.1.cls ∈ tbl ∧ (N.1.cls ≠ "java/lang/invoke/MethodHandle" ∧ N.1.cls ≠ "java/lang/invoke/VarHandle" ∧ (parseMethodDescriptor N.1.desc).map (fun d => d.parameters.length) = some n) ∧ N.2.2.1 ≤ 29
theorem good_code (y : MethodName) (b : ByteArray) (n : Nat) (r : Option FieldType) : goodWord (.code y b n r) = true := rfl
theorem wsM_good {N : MI} (h : Cond.code N.1 N.2.1 N.2.2.1 N.2.2.2 ∈ tbl) : GoodIn tbl (wsM N) := fun w hw => by
  rcases List.mem_cons.mp hw with h1 | h1
  · subst h1
    exact ⟨h, good_of_word (tbl_good _ h)⟩
  · exact ⟨h1, good_of_word (tbl_good _ h1)⟩
theorem CW.callB {own : String} {index n d mc ms : Nat} {N : MI} {s : State} {args : Array Value} (h : CW own index N n) (hts : ∀ w ∈ tbl, w.before args s = true) (hf : d + 1 ≤ R.frames) (hlo : 48 * d + 48 ≤ R.locals) : CallB R s args own index N.1 N.2.1 N.2.2.1 N.2.2.2 (wsM N) (rmOf d mc ms) mc ms n :=
  callB_of n hts (wsM_good h.1) rfl rfl rfl (hts _ h.2.2.1) (hts _ h.2.1) h.2.2.2.1 ⟨hf, by have := h.2.2.2.2; show 8 + (N.2.2.1 + 11) + 48 * d ≤ _; omega⟩
theorem v_cs {index n d mc ms : Nat} {N : MI} {As rest : List Value} {Q : QQ} (hd : decode M.2.1 pc = .ok (.invokestatic index, 3)) (hcw : CW M.1.cls index N n) (hst : Cond.static N.1 ∈ tbl) (hM : Ct G N d mc ms As hp Q) (hlen : As.length = n) (hstk : st = As.reverse ++ rest) (hW : (rest.map fun v => v.category).sum ≤ 8) (hf : d + 1 ≤ R.frames) (hlo : 48 * d + 48 ≤ R.locals) (hc1 : kc + mc ≤ R.cells) (hc2 : ks + ms ≤ R.slots) (hn : pc + 3 = pc') (kk : ∀ r hp', Q r hp' → V G M R Z S pc' lv (r.toList ++ rest) hp' (kc + mc) (ks + ms)) : V G M R Z S pc lv st hp kc ks := by
  subst hn
  intro p e s m args below meth c H locs ls X hs hw hS hl
  have hts := X.2.2.2.2.2.2.2.1
  refine v_cont (va_runS (n := n) ⟨X.1, X.2.1, X.2.2.1, X.2.2.2.2.2.1, hts⟩ hM ⟨hcw.callB hts hf hlo, hts _ hst⟩ ⟨pcm_blind, fun U hU hWm => ⟨rfl, by rw [hU]; exact hw, KK.moved hWm.alike X.2.2.2.2.2.2.2.2.1⟩⟩ rfl hlen hl.1 hstk (lv_room hW) hd ⟨hc1, hc2⟩) hS ?_
  intro r hp' H1 locs1 hq hw1 hS1
  exact kk r hp' hq p e s m args below meth c H1 locs1 ls X hs hw1 hS1 hl
theorem v_cv {index n d mc ms i ci : Nat} {fs : List Value} {N : MI} {As rest : List Value} {Q : QQ} (hd : decode M.2.1 pc = .ok (.invokevirtual index, 3)) (hcw : CW M.1.cls index N n) (hst : Cond.instanceMethod N.1 ∈ tbl ∧ Cond.selects N.1.cls N.1 N.1 ∈ tbl) (hrc : (vwCl[ci]?).map (fun q => q.1) = some N.1.cls) (he : hp[i]? = some (ob ci fs)) (hM : Ct G N d mc ms (.ref (G.2.2.2 + i) :: As) hp Q) (hlen : As.length = n) (hstk : st = As.reverse ++ .ref (G.2.2.2 + i) :: rest) (hW : (rest.map fun v => v.category).sum ≤ 8) (hf : d + 1 ≤ R.frames) (hlo : 48 * d + 48 ≤ R.locals) (hc1 : kc + mc ≤ R.cells) (hc2 : ks + ms ≤ R.slots) (hn : pc + 3 = pc') (kk : ∀ r hp', Q r hp' → V G M R Z S pc' lv (r.toList ++ rest) hp' (kc + mc) (ks + ms)) : V G M R Z S pc lv st hp kc ks := by
  subst hn
  intro p e s m args below meth c H locs ls X hs hw hS hl
  have hts := X.2.2.2.2.2.2.2.1
  have hK := X.2.2.2.2.2.2.2.2.1.1
  obtain ⟨q, hq, hq2⟩ : ∃ q, vwCl[ci]? = some q ∧ q.1 = N.1.cls := by
    cases hh : vwCl[ci]? with
    | none => rw [hh] at hrc; cases hrc
    | some q => rw [hh] at hrc; exact ⟨q, rfl, Option.some.inj hrc⟩
  have hrv := va_recv hK hw.1 hq (wz_at he)
  rw [hq2] at hrv
  refine v_cont (va_runV (n := n) ⟨X.1, X.2.1, X.2.2.1, X.2.2.2.2.2.1, hts⟩ hM ⟨hcw.callB hts hf hlo, hts _ hst.1, hts _ hst.2⟩ ⟨pcm_blind, hrv, fun U hU hWm => ⟨rfl, by rw [hU]; exact hw, KK.moved hWm.alike X.2.2.2.2.2.2.2.2.1⟩⟩ rfl hlen hl.1 hstk (lv_room hW) hd ⟨hc1, hc2⟩) hS ?_
  intro r hp' H1 locs1 hq hw1 hS1
  exact kk r hp' hq p e s m args below meth c H1 locs1 ls X hs hw1 hS1 hl
theorem v_ci {index n d mc ms i : Nat} {N : MI} {As rest : List Value} {Q : QQ} (hd : decode M.2.1 pc = .ok (.invokespecial index, 3)) (hcw : CW M.1.cls index N n) (hst : N.1.name = "<init>" ∧ Cond.instanceMethod N.1 ∈ tbl) (hret : N.2.2.2 = none) (hM : Ct G N d mc ms (.ref i :: As) hp Q) (hlen : As.length = n) (hstk : st = As.reverse ++ .ref i :: rest) (hW : (rest.map fun v => v.category).sum ≤ 8) (hf : d + 1 ≤ R.frames) (hlo : 48 * d + 48 ≤ R.locals) (hc1 : kc + mc ≤ R.cells) (hc2 : ks + ms ≤ R.slots) (hn : pc + 3 = pc') (kk : ∀ r hp', Q r hp' → V G M R Z S pc' lv (r.toList ++ rest) hp' (kc + mc) (ks + ms)) : V G M R Z S pc lv st hp kc ks := by
  subst hn
  intro p e s m args below meth c H locs ls X hs hw hS hl
  have hts := X.2.2.2.2.2.2.2.1
  have hB := hcw.callB (R := R) (d := d) (mc := mc) (ms := ms) hts hf hlo
  rw [hret] at hB
  refine v_cont (va_runI (n := n) ⟨X.1, X.2.1, X.2.2.1, X.2.2.2.2.2.1, hts⟩ hM ⟨hB, hst.1, hts _ hst.2⟩ ⟨pcm_blind, fun U hU hWm => ⟨rfl, by rw [hU]; exact hw, KK.moved hWm.alike X.2.2.2.2.2.2.2.2.1⟩⟩ rfl hlen hl.1 hstk (lv_room hW) hd ⟨hc1, hc2⟩) hS ?_
  intro r hp' H1 locs1 hq hw1 hS1
  exact kk r hp' hq p e s m args below meth c H1 locs1 ls X hs hw1 hS1 hl
end LIGHT2
section LIGHT3
variable {G : GG} {M : MI} {d mc ms : Nat} {Q : QQ} {pc : Nat} {lv : List (Option Value)} {hp : List va_E} {kc ks : Nat}
theorem qcm_end {r : Option Value} {H : Heap} {locs : List Loc} {s t : State} {args : Array Value} (hq : Q r hp) (hw : Wd G hp H) (hS : va_S (fun q => G.2.2.2 ≤ q) s.heap H locs) (ht : t.heap = H) : QcM G Q args s (.returned r) t := ⟨⟨r, hp, rfl, hq, by rw [ht]; exact hw⟩, hS.F ht⟩
theorem v_iret {v : Int32} (hd : decode M.2.1 pc = .ok (.ireturn, 1)) (hr : M.2.2.2 = some .int) (hc : kc ≤ mc ∧ ks ≤ ms) (hq : Q (some (.int v)) hp) : Vm G M d mc ms Q pc lv [.int v] hp kc ks := by
  intro p e s m args below meth c H locs ls X hs hw hS hl
  have hlocks := X.2.2.2.2.1
  exact W.widen hc.1 hc.2 (W.iret X.1 X.2.1 (X.2.2.2.1.trans hr) (fun t ht _ => qcm_end hq hw hS ht) hS.2.2 hd)
theorem v_zret {v : Int32} (hd : decode M.2.1 pc = .ok (.ireturn, 1)) (hr : M.2.2.2 = some .boolean) (hnr : narrow .boolean (.int v) = .int v) (hc : kc ≤ mc ∧ ks ≤ ms) (hq : Q (some (.int v)) hp) : Vm G M d mc ms Q pc lv [.int v] hp kc ks := by
  intro p e s m args below meth c H locs ls X hs hw hS hl
  have hlocks := X.2.2.2.2.1
  exact W.widen hc.1 hc.2 (W.zret X.1 X.2.1 (X.2.2.2.1.trans hr) hnr (fun t ht _ => qcm_end hq hw hS ht) hS.2.2 hd)
theorem v_lret {v : Int64} (hd : decode M.2.1 pc = .ok (.lreturn, 1)) (hr : M.2.2.2 = some .long) (hc : kc ≤ mc ∧ ks ≤ ms) (hq : Q (some (.long v)) hp) : Vm G M d mc ms Q pc lv [.long v] hp kc ks := by
  intro p e s m args below meth c H locs ls X hs hw hS hl
  have hlocks := X.2.2.2.2.1
  exact W.widen hc.1 hc.2 (W.lret X.1 X.2.1 (X.2.2.2.1.trans hr) (fun t ht _ => qcm_end hq hw hS ht) hS.2.2 hd)
theorem v_vret (hd : decode M.2.1 pc = .ok (.return_, 1)) (hr : M.2.2.2 = none) (hc : kc ≤ mc ∧ ks ≤ ms) (hq : Q none hp) : Vm G M d mc ms Q pc lv [] hp kc ks := by
  intro p e s m args below meth c H locs ls X hs hw hS hl
  have hlocks := X.2.2.2.2.1
  exact W.widen hc.1 hc.2 (W.vret X.1 X.2.1 (X.2.2.2.1.trans hr) (fun t ht _ => qcm_end hq hw hS ht) hS.2.2 hd)
theorem v_aret {v : Value} {C : String} (hd : decode M.2.1 pc = .ok (.areturn, 1)) (hr : M.2.2.2 = some (.object C)) (hv : v = .null ∨ ∃ a, v = .ref a) (hc : kc ≤ mc ∧ ks ≤ ms) (hq : Q (some v) hp) : Vm G M d mc ms Q pc lv [v] hp kc ks := by
  intro p e s m args below meth c H locs ls X hs hw hS hl
  have hlocks := X.2.2.2.2.1
  exact W.widen hc.1 hc.2 (W.aret X.1 X.2.1 (X.2.2.2.1.trans hr) (Or.inl ⟨C, rfl⟩) hv (fun t ht _ => qcm_end hq hw hS ht) hS.2.2 hd)
theorem Ct.weaken {Q' : QQ} {av : List Value} (h : Ct G M d mc ms av hp Q) (hq : ∀ r h, Q r h → Q' r h) : Ct G M d mc ms av hp Q' := by
  intro p e ha hc hk s m args below hf happ hP hT
  obtain ⟨k, o, h1, h2, h3, ⟨⟨⟨r, hp', e1, e2, e3⟩, e4⟩, e5⟩⟩ := h p e ha hc hk s m args below hf happ hP hT
  exact ⟨k, o, h1, h2, h3, ⟨⟨r, hp', e1, hq _ _ e2, e3⟩, e4⟩, e5⟩
end LIGHT3
end
section
theorem ci0 : CI 0 RX0 TX0 5 tyX0 := ⟨rfl, by decide +kernel, tyX0_ok, nmX0⟩
theorem ci1 : CI 1 RX1 TX1 3 tyX1 := ⟨rfl, by decide +kernel, tyX1_ok, nmX1⟩
theorem ci2 : CI 2 RX2 TX2 8 tyX2 := ⟨rfl, by decide +kernel, tyX2_ok, nmX2⟩
theorem ci3 : CI 3 RX3 TX3 15 tyX3 := ⟨rfl, by decide +kernel, tyX3_ok, nmX3⟩
theorem ti_L : Cond.initialized RL ∈ tbl := tbl_of 40 (by decide +kernel) rfl
theorem ti_X2 : Cond.initialized RX2 ∈ tbl := tbl_of 41 (by decide +kernel) rfl
theorem ti_X0 : Cond.initialized RX0 ∈ tbl := tbl_of 42 (by decide +kernel) rfl
theorem ti_X3 : Cond.initialized RX3 ∈ tbl := tbl_of 43 (by decide +kernel) rfl
theorem ti_J9 : Cond.initialized RJ9 ∈ tbl := tbl_of 44 (by decide +kernel) rfl
theorem ti_X1 : Cond.initialized RX1 ∈ tbl := tbl_of 45 (by decide +kernel) rfl
theorem ti_J6 : Cond.initialized RJ6 ∈ tbl := tbl_of 46 (by decide +kernel) rfl
theorem tk_L_7 : Cond.classLink RL 7 RX2 ∈ tbl := tbl_of 47 (by decide +kernel) rfl
theorem tt_X2 : Cond.instantiable RX2 8 ∈ tbl := tbl_of 48 (by decide +kernel) rfl
theorem tn_X2_init : Cond.instanceMethod mX2_init.1 ∈ tbl := tbl_of 50 (by decide +kernel) rfl
theorem tc_X2_init : Cond.code mX2_init.1 mX2_init.2.1 mX2_init.2.2.1 mX2_init.2.2.2 ∈ tbl := tbl_of 51 (by decide +kernel) rfl
theorem tn_obj : Cond.instanceMethod Lib.objectInit ∈ tbl := tbl_of 53 (by decide +kernel) rfl
theorem tc_obj : Cond.code Lib.objectInit ⟨#[0xb1]⟩ 1 none ∈ tbl := tbl_of 54 (by decide +kernel) rfl
theorem tk_X2_9 : Cond.classLink RX2 9 RX0 ∈ tbl := tbl_of 55 (by decide +kernel) rfl
theorem tk_X2_15 : Cond.classLink RX2 15 RX1 ∈ tbl := tbl_of 57 (by decide +kernel) rfl
theorem tt_X0 : Cond.instantiable RX0 5 ∈ tbl := tbl_of 59 (by decide +kernel) rfl
theorem tn_X0_init : Cond.instanceMethod mX0_init.1 ∈ tbl := tbl_of 61 (by decide +kernel) rfl
theorem tc_X0_init : Cond.code mX0_init.1 mX0_init.2.1 mX0_init.2.2.1 mX0_init.2.2.2 ∈ tbl := tbl_of 62 (by decide +kernel) rfl
theorem t_arrI : Cond.arrayClass .int ∈ tbl := tbl_of 85 (by decide +kernel) rfl
theorem tn_X2_line : Cond.instanceMethod mX2_line.1 ∈ tbl := tbl_of 112 (by decide +kernel) rfl
theorem tl_X2_line : Cond.selects mX2_line.1.cls mX2_line.1 mX2_line.1 ∈ tbl := tbl_of 113 (by decide +kernel) rfl
theorem tc_X2_line : Cond.code mX2_line.1 mX2_line.2.1 mX2_line.2.2.1 mX2_line.2.2.2 ∈ tbl := tbl_of 114 (by decide +kernel) rfl
theorem tn_X2_lineAt : Cond.instanceMethod mX2_lineAt.1 ∈ tbl := tbl_of 117 (by decide +kernel) rfl
theorem tc_X2_lineAt : Cond.code mX2_lineAt.1 mX2_lineAt.2.1 mX2_lineAt.2.2.1 mX2_lineAt.2.2.2 ∈ tbl := tbl_of 118 (by decide +kernel) rfl
theorem ts_X2_isBelow : Cond.static mX2_isBelow.1 ∈ tbl := tbl_of 120 (by decide +kernel) rfl
theorem tc_X2_isBelow : Cond.code mX2_isBelow.1 mX2_isBelow.2.1 mX2_isBelow.2.2.1 mX2_isBelow.2.2.2 ∈ tbl := tbl_of 121 (by decide +kernel) rfl
theorem ts_X2_isUpTo : Cond.static mX2_isUpTo.1 ∈ tbl := tbl_of 123 (by decide +kernel) rfl
theorem tc_X2_isUpTo : Cond.code mX2_isUpTo.1 mX2_isUpTo.2.1 mX2_isUpTo.2.2.1 mX2_isUpTo.2.2.2 ∈ tbl := tbl_of 124 (by decide +kernel) rfl
theorem tn_X2_span : Cond.instanceMethod mX2_span.1 ∈ tbl := tbl_of 126 (by decide +kernel) rfl
theorem tl_X2_span : Cond.selects mX2_span.1.cls mX2_span.1 mX2_span.1 ∈ tbl := tbl_of 127 (by decide +kernel) rfl
theorem tc_X2_span : Cond.code mX2_span.1 mX2_span.2.1 mX2_span.2.2.1 mX2_span.2.2.2 ∈ tbl := tbl_of 128 (by decide +kernel) rfl
theorem tn_X2_about : Cond.instanceMethod mX2_about.1 ∈ tbl := tbl_of 130 (by decide +kernel) rfl
theorem tl_X2_about : Cond.selects mX2_about.1.cls mX2_about.1 mX2_about.1 ∈ tbl := tbl_of 131 (by decide +kernel) rfl
theorem tc_X2_about : Cond.code mX2_about.1 mX2_about.2.1 mX2_about.2.2.1 mX2_about.2.2.2 ∈ tbl := tbl_of 132 (by decide +kernel) rfl
theorem tn_X2_level : Cond.instanceMethod mX2_level.1 ∈ tbl := tbl_of 134 (by decide +kernel) rfl
theorem tl_X2_level : Cond.selects mX2_level.1.cls mX2_level.1 mX2_level.1 ∈ tbl := tbl_of 135 (by decide +kernel) rfl
theorem tc_X2_level : Cond.code mX2_level.1 mX2_level.2.1 mX2_level.2.2.1 mX2_level.2.2.2 ∈ tbl := tbl_of 136 (by decide +kernel) rfl
theorem tn_X0_traceOfAsking : Cond.instanceMethod mX0_traceOfAsking.1 ∈ tbl := tbl_of 138 (by decide +kernel) rfl
theorem tl_X0_traceOfAsking : Cond.selects mX0_traceOfAsking.1.cls mX0_traceOfAsking.1 mX0_traceOfAsking.1 ∈ tbl := tbl_of 139 (by decide +kernel) rfl
theorem tc_X0_traceOfAsking : Cond.code mX0_traceOfAsking.1 mX0_traceOfAsking.2.1 mX0_traceOfAsking.2.2.1 mX0_traceOfAsking.2.2.2 ∈ tbl := tbl_of 140 (by decide +kernel) rfl
theorem tn_X0_levelFor : Cond.instanceMethod mX0_levelFor.1 ∈ tbl := tbl_of 142 (by decide +kernel) rfl
theorem tl_X0_levelFor : Cond.selects mX0_levelFor.1.cls mX0_levelFor.1 mX0_levelFor.1 ∈ tbl := tbl_of 143 (by decide +kernel) rfl
theorem tc_X0_levelFor : Cond.code mX0_levelFor.1 mX0_levelFor.2.1 mX0_levelFor.2.2.1 mX0_levelFor.2.2.2 ∈ tbl := tbl_of 144 (by decide +kernel) rfl
theorem tn_X0_strictLevel : Cond.instanceMethod mX0_strictLevel.1 ∈ tbl := tbl_of 147 (by decide +kernel) rfl
theorem tc_X0_strictLevel : Cond.code mX0_strictLevel.1 mX0_strictLevel.2.1 mX0_strictLevel.2.2.1 mX0_strictLevel.2.2.2 ∈ tbl := tbl_of 148 (by decide +kernel) rfl
theorem tn_X0_spanHas : Cond.instanceMethod mX0_spanHas.1 ∈ tbl := tbl_of 151 (by decide +kernel) rfl
theorem tc_X0_spanHas : Cond.code mX0_spanHas.1 mX0_spanHas.2.1 mX0_spanHas.2.2.1 mX0_spanHas.2.2.2 ∈ tbl := tbl_of 152 (by decide +kernel) rfl
theorem tn_X0_filledLevel : Cond.instanceMethod mX0_filledLevel.1 ∈ tbl := tbl_of 155 (by decide +kernel) rfl
theorem tc_X0_filledLevel : Cond.code mX0_filledLevel.1 mX0_filledLevel.2.1 mX0_filledLevel.2.2.1 mX0_filledLevel.2.2.2 ∈ tbl := tbl_of 156 (by decide +kernel) rfl
theorem tn_X0_greatestBelow : Cond.instanceMethod mX0_greatestBelow.1 ∈ tbl := tbl_of 159 (by decide +kernel) rfl
theorem tc_X0_greatestBelow : Cond.code mX0_greatestBelow.1 mX0_greatestBelow.2.1 mX0_greatestBelow.2.2.1 mX0_greatestBelow.2.2.2 ∈ tbl := tbl_of 160 (by decide +kernel) rfl
theorem tn_X0_kindLevel : Cond.instanceMethod mX0_kindLevel.1 ∈ tbl := tbl_of 163 (by decide +kernel) rfl
theorem tc_X0_kindLevel : Cond.code mX0_kindLevel.1 mX0_kindLevel.2.1 mX0_kindLevel.2.2.1 mX0_kindLevel.2.2.2 ∈ tbl := tbl_of 164 (by decide +kernel) rfl
theorem ts_J9_min_7cf53 : Cond.static mJ9_min_7cf53.1 ∈ tbl := tbl_of 166 (by decide +kernel) rfl
theorem tc_J9_min_7cf53 : Cond.code mJ9_min_7cf53.1 mJ9_min_7cf53.2.1 mJ9_min_7cf53.2.2.1 mJ9_min_7cf53.2.2.2 ∈ tbl := tbl_of 167 (by decide +kernel) rfl
theorem tn_X2_sense : Cond.instanceMethod mX2_sense.1 ∈ tbl := tbl_of 169 (by decide +kernel) rfl
theorem tl_X2_sense : Cond.selects mX2_sense.1.cls mX2_sense.1 mX2_sense.1 ∈ tbl := tbl_of 170 (by decide +kernel) rfl
theorem tc_X2_sense : Cond.code mX2_sense.1 mX2_sense.2.1 mX2_sense.2.2.1 mX2_sense.2.2.2 ∈ tbl := tbl_of 171 (by decide +kernel) rfl
theorem tn_X0_gaps : Cond.instanceMethod mX0_gaps.1 ∈ tbl := tbl_of 173 (by decide +kernel) rfl
theorem tl_X0_gaps : Cond.selects mX0_gaps.1.cls mX0_gaps.1 mX0_gaps.1 ∈ tbl := tbl_of 174 (by decide +kernel) rfl
theorem tc_X0_gaps : Cond.code mX0_gaps.1 mX0_gaps.2.1 mX0_gaps.2.2.1 mX0_gaps.2.2.2 ∈ tbl := tbl_of 175 (by decide +kernel) rfl
theorem tn_X0_countSpansWith : Cond.instanceMethod mX0_countSpansWith.1 ∈ tbl := tbl_of 178 (by decide +kernel) rfl
theorem tc_X0_countSpansWith : Cond.code mX0_countSpansWith.1 mX0_countSpansWith.2.1 mX0_countSpansWith.2.2.1 mX0_countSpansWith.2.2.2 ∈ tbl := tbl_of 179 (by decide +kernel) rfl
theorem tn_X0_overlaps : Cond.instanceMethod mX0_overlaps.1 ∈ tbl := tbl_of 181 (by decide +kernel) rfl
theorem tl_X0_overlaps : Cond.selects mX0_overlaps.1.cls mX0_overlaps.1 mX0_overlaps.1 ∈ tbl := tbl_of 182 (by decide +kernel) rfl
theorem tc_X0_overlaps : Cond.code mX0_overlaps.1 mX0_overlaps.2.1 mX0_overlaps.2.2.1 mX0_overlaps.2.2.2 ∈ tbl := tbl_of 183 (by decide +kernel) rfl
theorem tn_X2_sensible : Cond.instanceMethod mX2_sensible.1 ∈ tbl := tbl_of 185 (by decide +kernel) rfl
theorem tl_X2_sensible : Cond.selects mX2_sensible.1.cls mX2_sensible.1 mX2_sensible.1 ∈ tbl := tbl_of 186 (by decide +kernel) rfl
theorem tc_X2_sensible : Cond.code mX2_sensible.1 mX2_sensible.2.1 mX2_sensible.2.2.1 mX2_sensible.2.2.2 ∈ tbl := tbl_of 187 (by decide +kernel) rfl
theorem tn_X0_isSensible : Cond.instanceMethod mX0_isSensible.1 ∈ tbl := tbl_of 189 (by decide +kernel) rfl
theorem tl_X0_isSensible : Cond.selects mX0_isSensible.1.cls mX0_isSensible.1 mX0_isSensible.1 ∈ tbl := tbl_of 190 (by decide +kernel) rfl
theorem tc_X0_isSensible : Cond.code mX0_isSensible.1 mX0_isSensible.2.1 mX0_isSensible.2.2.1 mX0_isSensible.2.2.2 ∈ tbl := tbl_of 191 (by decide +kernel) rfl
theorem tn_X0_neverFalls : Cond.instanceMethod mX0_neverFalls.1 ∈ tbl := tbl_of 196 (by decide +kernel) rfl
theorem tc_X0_neverFalls : Cond.code mX0_neverFalls.1 mX0_neverFalls.2.1 mX0_neverFalls.2.2.1 mX0_neverFalls.2.2.2 ∈ tbl := tbl_of 197 (by decide +kernel) rfl
theorem tn_X2_work : Cond.instanceMethod mX2_work.1 ∈ tbl := tbl_of 200 (by decide +kernel) rfl
theorem tl_X2_work : Cond.selects mX2_work.1.cls mX2_work.1 mX2_work.1 ∈ tbl := tbl_of 201 (by decide +kernel) rfl
theorem tc_X2_work : Cond.code mX2_work.1 mX2_work.2.1 mX2_work.2.2.1 mX2_work.2.2.2 ∈ tbl := tbl_of 202 (by decide +kernel) rfl
theorem tt_X1 : Cond.instantiable RX1 3 ∈ tbl := tbl_of 203 (by decide +kernel) rfl
theorem tn_X1_init : Cond.instanceMethod mX1_init.1 ∈ tbl := tbl_of 205 (by decide +kernel) rfl
theorem tc_X1_init : Cond.code mX1_init.1 mX1_init.2.1 mX1_init.2.2.1 mX1_init.2.2.2 ∈ tbl := tbl_of 206 (by decide +kernel) rfl
theorem tn_X2_fact : Cond.instanceMethod mX2_fact.1 ∈ tbl := tbl_of 222 (by decide +kernel) rfl
theorem tl_X2_fact : Cond.selects mX2_fact.1.cls mX2_fact.1 mX2_fact.1 ∈ tbl := tbl_of 223 (by decide +kernel) rfl
theorem tc_X2_fact : Cond.code mX2_fact.1 mX2_fact.2.1 mX2_fact.2.2.1 mX2_fact.2.2.2 ∈ tbl := tbl_of 224 (by decide +kernel) rfl
theorem tn_X2_workAt : Cond.instanceMethod mX2_workAt.1 ∈ tbl := tbl_of 227 (by decide +kernel) rfl
theorem tc_X2_workAt : Cond.code mX2_workAt.1 mX2_workAt.2.1 mX2_workAt.2.2.1 mX2_workAt.2.2.2 ∈ tbl := tbl_of 228 (by decide +kernel) rfl
theorem tn_X2_points : Cond.instanceMethod mX2_points.1 ∈ tbl := tbl_of 230 (by decide +kernel) rfl
theorem tl_X2_points : Cond.selects mX2_points.1.cls mX2_points.1 mX2_points.1 ∈ tbl := tbl_of 231 (by decide +kernel) rfl
theorem tc_X2_points : Cond.code mX2_points.1 mX2_points.2.1 mX2_points.2.2.1 mX2_points.2.2.2 ∈ tbl := tbl_of 232 (by decide +kernel) rfl
theorem tn_X2_pointsBy : Cond.instanceMethod mX2_pointsBy.1 ∈ tbl := tbl_of 235 (by decide +kernel) rfl
theorem tc_X2_pointsBy : Cond.code mX2_pointsBy.1 mX2_pointsBy.2.1 mX2_pointsBy.2.2.1 mX2_pointsBy.2.2.2 ∈ tbl := tbl_of 236 (by decide +kernel) rfl
theorem tn_X2_mark : Cond.instanceMethod mX2_mark.1 ∈ tbl := tbl_of 238 (by decide +kernel) rfl
theorem tl_X2_mark : Cond.selects mX2_mark.1.cls mX2_mark.1 mX2_mark.1 ∈ tbl := tbl_of 239 (by decide +kernel) rfl
theorem tc_X2_mark : Cond.code mX2_mark.1 mX2_mark.2.1 mX2_mark.2.2.1 mX2_mark.2.2.2 ∈ tbl := tbl_of 240 (by decide +kernel) rfl
theorem ts_X2_isMarkOrNone : Cond.static mX2_isMarkOrNone.1 ∈ tbl := tbl_of 242 (by decide +kernel) rfl
theorem tc_X2_isMarkOrNone : Cond.code mX2_isMarkOrNone.1 mX2_isMarkOrNone.2.1 mX2_isMarkOrNone.2.2.1 mX2_isMarkOrNone.2.2.2 ∈ tbl := tbl_of 243 (by decide +kernel) rfl
theorem tn_X2_given : Cond.instanceMethod mX2_given.1 ∈ tbl := tbl_of 245 (by decide +kernel) rfl
theorem tl_X2_given : Cond.selects mX2_given.1.cls mX2_given.1 mX2_given.1 ∈ tbl := tbl_of 246 (by decide +kernel) rfl
theorem tc_X2_given : Cond.code mX2_given.1 mX2_given.2.1 mX2_given.2.2.1 mX2_given.2.2.2 ∈ tbl := tbl_of 247 (by decide +kernel) rfl
theorem tn_X2_like : Cond.instanceMethod mX2_like.1 ∈ tbl := tbl_of 249 (by decide +kernel) rfl
theorem tl_X2_like : Cond.selects mX2_like.1.cls mX2_like.1 mX2_like.1 ∈ tbl := tbl_of 250 (by decide +kernel) rfl
theorem tc_X2_like : Cond.code mX2_like.1 mX2_like.2.1 mX2_like.2.2.1 mX2_like.2.2.2 ∈ tbl := tbl_of 251 (by decide +kernel) rfl
theorem ts_X2_areTwoMarkers : Cond.static mX2_areTwoMarkers.1 ∈ tbl := tbl_of 253 (by decide +kernel) rfl
theorem tc_X2_areTwoMarkers : Cond.code mX2_areTwoMarkers.1 mX2_areTwoMarkers.2.1 mX2_areTwoMarkers.2.2.1 mX2_areTwoMarkers.2.2.2 ∈ tbl := tbl_of 254 (by decide +kernel) rfl
theorem tn_X2_countBothMarked : Cond.instanceMethod mX2_countBothMarked.1 ∈ tbl := tbl_of 257 (by decide +kernel) rfl
theorem tc_X2_countBothMarked : Cond.code mX2_countBothMarked.1 mX2_countBothMarked.2.1 mX2_countBothMarked.2.2.1 mX2_countBothMarked.2.2.2 ∈ tbl := tbl_of 258 (by decide +kernel) rfl
theorem tn_X1_isMarkedByBoth : Cond.instanceMethod mX1_isMarkedByBoth.1 ∈ tbl := tbl_of 260 (by decide +kernel) rfl
theorem tl_X1_isMarkedByBoth : Cond.selects mX1_isMarkedByBoth.1.cls mX1_isMarkedByBoth.1 mX1_isMarkedByBoth.1 ∈ tbl := tbl_of 261 (by decide +kernel) rfl
theorem tc_X1_isMarkedByBoth : Cond.code mX1_isMarkedByBoth.1 mX1_isMarkedByBoth.2.1 mX1_isMarkedByBoth.2.2.1 mX1_isMarkedByBoth.2.2.2 ∈ tbl := tbl_of 262 (by decide +kernel) rfl
theorem tn_X1_isMarkedBy : Cond.instanceMethod mX1_isMarkedBy.1 ∈ tbl := tbl_of 264 (by decide +kernel) rfl
theorem tl_X1_isMarkedBy : Cond.selects mX1_isMarkedBy.1.cls mX1_isMarkedBy.1 mX1_isMarkedBy.1 ∈ tbl := tbl_of 265 (by decide +kernel) rfl
theorem tc_X1_isMarkedBy : Cond.code mX1_isMarkedBy.1 mX1_isMarkedBy.2.1 mX1_isMarkedBy.2.2.1 mX1_isMarkedBy.2.2.2 ∈ tbl := tbl_of 266 (by decide +kernel) rfl
theorem tn_X2_chanceOfAlike : Cond.instanceMethod mX2_chanceOfAlike.1 ∈ tbl := tbl_of 269 (by decide +kernel) rfl
theorem tc_X2_chanceOfAlike : Cond.code mX2_chanceOfAlike.1 mX2_chanceOfAlike.2.1 mX2_chanceOfAlike.2.2.1 mX2_chanceOfAlike.2.2.2 ∈ tbl := tbl_of 270 (by decide +kernel) rfl
theorem tn_X2_countGave : Cond.instanceMethod mX2_countGave.1 ∈ tbl := tbl_of 273 (by decide +kernel) rfl
theorem tc_X2_countGave : Cond.code mX2_countGave.1 mX2_countGave.2.1 mX2_countGave.2.2.1 mX2_countGave.2.2.2 ∈ tbl := tbl_of 274 (by decide +kernel) rfl
theorem tn_X2_countAlike : Cond.instanceMethod mX2_countAlike.1 ∈ tbl := tbl_of 277 (by decide +kernel) rfl
theorem tc_X2_countAlike : Cond.code mX2_countAlike.1 mX2_countAlike.2.1 mX2_countAlike.2.2.1 mX2_countAlike.2.2.2 ∈ tbl := tbl_of 278 (by decide +kernel) rfl
theorem ts_X2_partOfRatio : Cond.static mX2_partOfRatio.1 ∈ tbl := tbl_of 280 (by decide +kernel) rfl
theorem tc_X2_partOfRatio : Cond.code mX2_partOfRatio.1 mX2_partOfRatio.2.1 mX2_partOfRatio.2.2.1 mX2_partOfRatio.2.2.2 ∈ tbl := tbl_of 281 (by decide +kernel) rfl
theorem tn_X2_parts : Cond.instanceMethod mX2_parts.1 ∈ tbl := tbl_of 283 (by decide +kernel) rfl
theorem tl_X2_parts : Cond.selects mX2_parts.1.cls mX2_parts.1 mX2_parts.1 ∈ tbl := tbl_of 284 (by decide +kernel) rfl
theorem tc_X2_parts : Cond.code mX2_parts.1 mX2_parts.2.1 mX2_parts.2.2.1 mX2_parts.2.2.2 ∈ tbl := tbl_of 285 (by decide +kernel) rfl
theorem ts_J9_abs_0f7a4 : Cond.static mJ9_abs_0f7a4.1 ∈ tbl := tbl_of 287 (by decide +kernel) rfl
theorem tc_J9_abs_0f7a4 : Cond.code mJ9_abs_0f7a4.1 mJ9_abs_0f7a4.2.1 mJ9_abs_0f7a4.2.2.1 mJ9_abs_0f7a4.2.2.2 ∈ tbl := tbl_of 288 (by decide +kernel) rfl
theorem tn_X2_anchor : Cond.instanceMethod mX2_anchor.1 ∈ tbl := tbl_of 290 (by decide +kernel) rfl
theorem tl_X2_anchor : Cond.selects mX2_anchor.1.cls mX2_anchor.1 mX2_anchor.1 ∈ tbl := tbl_of 291 (by decide +kernel) rfl
theorem tc_X2_anchor : Cond.code mX2_anchor.1 mX2_anchor.2.1 mX2_anchor.2.2.1 mX2_anchor.2.2.2 ∈ tbl := tbl_of 292 (by decide +kernel) rfl
theorem tn_X2_off : Cond.instanceMethod mX2_off.1 ∈ tbl := tbl_of 294 (by decide +kernel) rfl
theorem tl_X2_off : Cond.selects mX2_off.1.cls mX2_off.1 mX2_off.1 ∈ tbl := tbl_of 295 (by decide +kernel) rfl
theorem tc_X2_off : Cond.code mX2_off.1 mX2_off.2.1 mX2_off.2.2.1 mX2_off.2.2.2 ∈ tbl := tbl_of 296 (by decide +kernel) rfl
theorem tn_X2_countMarkedAnchors : Cond.instanceMethod mX2_countMarkedAnchors.1 ∈ tbl := tbl_of 299 (by decide +kernel) rfl
theorem tc_X2_countMarkedAnchors : Cond.code mX2_countMarkedAnchors.1 mX2_countMarkedAnchors.2.1 mX2_countMarkedAnchors.2.2.1 mX2_countMarkedAnchors.2.2.2 ∈ tbl := tbl_of 300 (by decide +kernel) rfl
theorem tn_X1_isAnchor : Cond.instanceMethod mX1_isAnchor.1 ∈ tbl := tbl_of 302 (by decide +kernel) rfl
theorem tl_X1_isAnchor : Cond.selects mX1_isAnchor.1.cls mX1_isAnchor.1 mX1_isAnchor.1 ∈ tbl := tbl_of 303 (by decide +kernel) rfl
theorem tc_X1_isAnchor : Cond.code mX1_isAnchor.1 mX1_isAnchor.2.1 mX1_isAnchor.2.2.1 mX1_isAnchor.2.2.2 ∈ tbl := tbl_of 304 (by decide +kernel) rfl
theorem tn_X2_sumOffAnchors : Cond.instanceMethod mX2_sumOffAnchors.1 ∈ tbl := tbl_of 308 (by decide +kernel) rfl
theorem tc_X2_sumOffAnchors : Cond.code mX2_sumOffAnchors.1 mX2_sumOffAnchors.2.1 mX2_sumOffAnchors.2.2.1 mX2_sumOffAnchors.2.2.2 ∈ tbl := tbl_of 309 (by decide +kernel) rfl
theorem tn_X2_fair : Cond.instanceMethod mX2_fair.1 ∈ tbl := tbl_of 311 (by decide +kernel) rfl
theorem tl_X2_fair : Cond.selects mX2_fair.1.cls mX2_fair.1 mX2_fair.1 ∈ tbl := tbl_of 312 (by decide +kernel) rfl
theorem tc_X2_fair : Cond.code mX2_fair.1 mX2_fair.2.1 mX2_fair.2.2.1 mX2_fair.2.2.2 ∈ tbl := tbl_of 313 (by decide +kernel) rfl
theorem ts_J9_floorDiv_7cf53 : Cond.static mJ9_floorDiv_7cf53.1 ∈ tbl := tbl_of 315 (by decide +kernel) rfl
theorem tc_J9_floorDiv_7cf53 : Cond.code mJ9_floorDiv_7cf53.1 mJ9_floorDiv_7cf53.2.1 mJ9_floorDiv_7cf53.2.2.1 mJ9_floorDiv_7cf53.2.2.2 ∈ tbl := tbl_of 316 (by decide +kernel) rfl
theorem ts_J9_max_7cf53 : Cond.static mJ9_max_7cf53.1 ∈ tbl := tbl_of 319 (by decide +kernel) rfl
theorem tc_J9_max_7cf53 : Cond.code mJ9_max_7cf53.1 mJ9_max_7cf53.2.1 mJ9_max_7cf53.2.2.1 mJ9_max_7cf53.2.2.2 ∈ tbl := tbl_of 320 (by decide +kernel) rfl
theorem tn_X2_drift : Cond.instanceMethod mX2_drift.1 ∈ tbl := tbl_of 322 (by decide +kernel) rfl
theorem tl_X2_drift : Cond.selects mX2_drift.1.cls mX2_drift.1 mX2_drift.1 ∈ tbl := tbl_of 323 (by decide +kernel) rfl
theorem tc_X2_drift : Cond.code mX2_drift.1 mX2_drift.2.1 mX2_drift.2.2.1 mX2_drift.2.2.2 ∈ tbl := tbl_of 324 (by decide +kernel) rfl
theorem tn_X2_gatherPile : Cond.instanceMethod mX2_gatherPile.1 ∈ tbl := tbl_of 327 (by decide +kernel) rfl
theorem tc_X2_gatherPile : Cond.code mX2_gatherPile.1 mX2_gatherPile.2.1 mX2_gatherPile.2.2.1 mX2_gatherPile.2.2.2 ∈ tbl := tbl_of 328 (by decide +kernel) rfl
theorem tn_X2_driftOfPile : Cond.instanceMethod mX2_driftOfPile.1 ∈ tbl := tbl_of 331 (by decide +kernel) rfl
theorem tc_X2_driftOfPile : Cond.code mX2_driftOfPile.1 mX2_driftOfPile.2.1 mX2_driftOfPile.2.2.1 mX2_driftOfPile.2.2.2 ∈ tbl := tbl_of 332 (by decide +kernel) rfl
theorem ts_J6_compare_7cf53 : Cond.static mJ6_compare_7cf53.1 ∈ tbl := tbl_of 334 (by decide +kernel) rfl
theorem tc_J6_compare_7cf53 : Cond.code mJ6_compare_7cf53.1 mJ6_compare_7cf53.2.1 mJ6_compare_7cf53.2.2.1 mJ6_compare_7cf53.2.2.2 ∈ tbl := tbl_of 335 (by decide +kernel) rfl
theorem tn_X2_oddsOfPile : Cond.instanceMethod mX2_oddsOfPile.1 ∈ tbl := tbl_of 338 (by decide +kernel) rfl
theorem tc_X2_oddsOfPile : Cond.code mX2_oddsOfPile.1 mX2_oddsOfPile.2.1 mX2_oddsOfPile.2.2.1 mX2_oddsOfPile.2.2.2 ∈ tbl := tbl_of 339 (by decide +kernel) rfl
theorem tn_X2_countInPile : Cond.instanceMethod mX2_countInPile.1 ∈ tbl := tbl_of 342 (by decide +kernel) rfl
theorem tc_X2_countInPile : Cond.code mX2_countInPile.1 mX2_countInPile.2.1 mX2_countInPile.2.2.1 mX2_countInPile.2.2.2 ∈ tbl := tbl_of 343 (by decide +kernel) rfl
theorem ts_X2_countOrders : Cond.static mX2_countOrders.1 ∈ tbl := tbl_of 345 (by decide +kernel) rfl
theorem tc_X2_countOrders : Cond.code mX2_countOrders.1 mX2_countOrders.2.1 mX2_countOrders.2.2.1 mX2_countOrders.2.2.2 ∈ tbl := tbl_of 346 (by decide +kernel) rfl
theorem ts_X2_driftBehind : Cond.static mX2_driftBehind.1 ∈ tbl := tbl_of 348 (by decide +kernel) rfl
theorem tc_X2_driftBehind : Cond.code mX2_driftBehind.1 mX2_driftBehind.2.1 mX2_driftBehind.2.2.1 mX2_driftBehind.2.2.2 ∈ tbl := tbl_of 349 (by decide +kernel) rfl
theorem tn_X2_moves : Cond.instanceMethod mX2_moves.1 ∈ tbl := tbl_of 351 (by decide +kernel) rfl
theorem tl_X2_moves : Cond.selects mX2_moves.1.cls mX2_moves.1 mX2_moves.1 ∈ tbl := tbl_of 352 (by decide +kernel) rfl
theorem tc_X2_moves : Cond.code mX2_moves.1 mX2_moves.2.1 mX2_moves.2.2.1 mX2_moves.2.2.2 ∈ tbl := tbl_of 353 (by decide +kernel) rfl
theorem tn_X2_countMoved : Cond.instanceMethod mX2_countMoved.1 ∈ tbl := tbl_of 356 (by decide +kernel) rfl
theorem tc_X2_countMoved : Cond.code mX2_countMoved.1 mX2_countMoved.2.1 mX2_countMoved.2.2.1 mX2_countMoved.2.2.2 ∈ tbl := tbl_of 357 (by decide +kernel) rfl
theorem tn_X2_countTurned : Cond.instanceMethod mX2_countTurned.1 ∈ tbl := tbl_of 360 (by decide +kernel) rfl
theorem tc_X2_countTurned : Cond.code mX2_countTurned.1 mX2_countTurned.2.1 mX2_countTurned.2.2.1 mX2_countTurned.2.2.2 ∈ tbl := tbl_of 361 (by decide +kernel) rfl
theorem tn_X2_copy : Cond.instanceMethod mX2_copy.1 ∈ tbl := tbl_of 363 (by decide +kernel) rfl
theorem tl_X2_copy : Cond.selects mX2_copy.1.cls mX2_copy.1 mX2_copy.1 ∈ tbl := tbl_of 364 (by decide +kernel) rfl
theorem tc_X2_copy : Cond.code mX2_copy.1 mX2_copy.2.1 mX2_copy.2.2.1 mX2_copy.2.2.2 ∈ tbl := tbl_of 365 (by decide +kernel) rfl
theorem tn_X0_becomeAs : Cond.instanceMethod mX0_becomeAs.1 ∈ tbl := tbl_of 367 (by decide +kernel) rfl
theorem tl_X0_becomeAs : Cond.selects mX0_becomeAs.1.cls mX0_becomeAs.1 mX0_becomeAs.1 ∈ tbl := tbl_of 368 (by decide +kernel) rfl
theorem tc_X0_becomeAs : Cond.code mX0_becomeAs.1 mX0_becomeAs.2.1 mX0_becomeAs.2.2.1 mX0_becomeAs.2.2.2 ∈ tbl := tbl_of 369 (by decide +kernel) rfl
theorem tn_X2_count : Cond.instanceMethod mX2_count.1 ∈ tbl := tbl_of 371 (by decide +kernel) rfl
theorem tl_X2_count : Cond.selects mX2_count.1.cls mX2_count.1 mX2_count.1 ∈ tbl := tbl_of 372 (by decide +kernel) rfl
theorem tc_X2_count : Cond.code mX2_count.1 mX2_count.2.1 mX2_count.2.2.1 mX2_count.2.2.2 ∈ tbl := tbl_of 373 (by decide +kernel) rfl
theorem tn_X2_countAnchors : Cond.instanceMethod mX2_countAnchors.1 ∈ tbl := tbl_of 376 (by decide +kernel) rfl
theorem tc_X2_countAnchors : Cond.code mX2_countAnchors.1 mX2_countAnchors.2.1 mX2_countAnchors.2.2.1 mX2_countAnchors.2.2.2 ∈ tbl := tbl_of 377 (by decide +kernel) rfl
theorem tn_X2_countMarks : Cond.instanceMethod mX2_countMarks.1 ∈ tbl := tbl_of 380 (by decide +kernel) rfl
theorem tc_X2_countMarks : Cond.code mX2_countMarks.1 mX2_countMarks.2.1 mX2_countMarks.2.2.1 mX2_countMarks.2.2.2 ∈ tbl := tbl_of 381 (by decide +kernel) rfl
theorem tn_X2_countSensible : Cond.instanceMethod mX2_countSensible.1 ∈ tbl := tbl_of 384 (by decide +kernel) rfl
theorem tc_X2_countSensible : Cond.code mX2_countSensible.1 mX2_countSensible.2.1 mX2_countSensible.2.2.1 mX2_countSensible.2.2.2 ∈ tbl := tbl_of 385 (by decide +kernel) rfl
theorem tn_X2_trace : Cond.instanceMethod mX2_trace.1 ∈ tbl := tbl_of 387 (by decide +kernel) rfl
theorem tl_X2_trace : Cond.selects mX2_trace.1.cls mX2_trace.1 mX2_trace.1 ∈ tbl := tbl_of 388 (by decide +kernel) rfl
theorem tc_X2_trace : Cond.code mX2_trace.1 mX2_trace.2.1 mX2_trace.2.2.1 mX2_trace.2.2.2 ∈ tbl := tbl_of 389 (by decide +kernel) rfl
theorem tk_L_10 : Cond.classLink RL 10 RX3 ∈ tbl := tbl_of 390 (by decide +kernel) rfl
theorem tt_X3 : Cond.instantiable RX3 15 ∈ tbl := tbl_of 391 (by decide +kernel) rfl
theorem tn_X3_init : Cond.instanceMethod mX3_init.1 ∈ tbl := tbl_of 393 (by decide +kernel) rfl
theorem tc_X3_init : Cond.code mX3_init.1 mX3_init.2.1 mX3_init.2.2.1 mX3_init.2.2.2 ∈ tbl := tbl_of 394 (by decide +kernel) rfl
theorem tn_X3_line : Cond.instanceMethod mX3_line.1 ∈ tbl := tbl_of 443 (by decide +kernel) rfl
theorem tl_X3_line : Cond.selects mX3_line.1.cls mX3_line.1 mX3_line.1 ∈ tbl := tbl_of 444 (by decide +kernel) rfl
theorem tc_X3_line : Cond.code mX3_line.1 mX3_line.2.1 mX3_line.2.2.1 mX3_line.2.2.2 ∈ tbl := tbl_of 445 (by decide +kernel) rfl
theorem ts_X3_isLine : Cond.static mX3_isLine.1 ∈ tbl := tbl_of 447 (by decide +kernel) rfl
theorem tc_X3_isLine : Cond.code mX3_isLine.1 mX3_isLine.2.1 mX3_isLine.2.2.1 mX3_isLine.2.2.2 ∈ tbl := tbl_of 448 (by decide +kernel) rfl
theorem ts_X3_in : Cond.static mX3_in.1 ∈ tbl := tbl_of 450 (by decide +kernel) rfl
theorem tc_X3_in : Cond.code mX3_in.1 mX3_in.2.1 mX3_in.2.2.1 mX3_in.2.2.2 ∈ tbl := tbl_of 451 (by decide +kernel) rfl
theorem tn_X3_span : Cond.instanceMethod mX3_span.1 ∈ tbl := tbl_of 453 (by decide +kernel) rfl
theorem tl_X3_span : Cond.selects mX3_span.1.cls mX3_span.1 mX3_span.1 ∈ tbl := tbl_of 454 (by decide +kernel) rfl
theorem tc_X3_span : Cond.code mX3_span.1 mX3_span.2.1 mX3_span.2.2.1 mX3_span.2.2.2 ∈ tbl := tbl_of 455 (by decide +kernel) rfl
theorem tn_X3_about : Cond.instanceMethod mX3_about.1 ∈ tbl := tbl_of 457 (by decide +kernel) rfl
theorem tl_X3_about : Cond.selects mX3_about.1.cls mX3_about.1 mX3_about.1 ∈ tbl := tbl_of 458 (by decide +kernel) rfl
theorem tc_X3_about : Cond.code mX3_about.1 mX3_about.2.1 mX3_about.2.2.1 mX3_about.2.2.2 ∈ tbl := tbl_of 459 (by decide +kernel) rfl
theorem tn_X3_level : Cond.instanceMethod mX3_level.1 ∈ tbl := tbl_of 461 (by decide +kernel) rfl
theorem tl_X3_level : Cond.selects mX3_level.1.cls mX3_level.1 mX3_level.1 ∈ tbl := tbl_of 462 (by decide +kernel) rfl
theorem tc_X3_level : Cond.code mX3_level.1 mX3_level.2.1 mX3_level.2.2.1 mX3_level.2.2.2 ∈ tbl := tbl_of 463 (by decide +kernel) rfl
theorem tg_X3_62 : Cond.constantLong RX3 62 11 ∈ tbl := tbl_of 464 (by decide +kernel) rfl
theorem tg_X3_64 : Cond.constantLong RX3 64 111 ∈ tbl := tbl_of 465 (by decide +kernel) rfl
theorem tn_X3_levelOf : Cond.instanceMethod mX3_levelOf.1 ∈ tbl := tbl_of 468 (by decide +kernel) rfl
theorem tc_X3_levelOf : Cond.code mX3_levelOf.1 mX3_levelOf.2.1 mX3_levelOf.2.2.1 mX3_levelOf.2.2.2 ∈ tbl := tbl_of 469 (by decide +kernel) rfl
theorem tn_X3_strict : Cond.instanceMethod mX3_strict.1 ∈ tbl := tbl_of 472 (by decide +kernel) rfl
theorem tc_X3_strict : Cond.code mX3_strict.1 mX3_strict.2.1 mX3_strict.2.2.1 mX3_strict.2.2.2 ∈ tbl := tbl_of 473 (by decide +kernel) rfl
theorem tn_X3_has : Cond.instanceMethod mX3_has.1 ∈ tbl := tbl_of 476 (by decide +kernel) rfl
theorem tc_X3_has : Cond.code mX3_has.1 mX3_has.2.1 mX3_has.2.2.1 mX3_has.2.2.2 ∈ tbl := tbl_of 477 (by decide +kernel) rfl
theorem tn_X3_filled : Cond.instanceMethod mX3_filled.1 ∈ tbl := tbl_of 480 (by decide +kernel) rfl
theorem tc_X3_filled : Cond.code mX3_filled.1 mX3_filled.2.1 mX3_filled.2.2.1 mX3_filled.2.2.2 ∈ tbl := tbl_of 481 (by decide +kernel) rfl
theorem tn_X3_sense : Cond.instanceMethod mX3_sense.1 ∈ tbl := tbl_of 483 (by decide +kernel) rfl
theorem tl_X3_sense : Cond.selects mX3_sense.1.cls mX3_sense.1 mX3_sense.1 ∈ tbl := tbl_of 484 (by decide +kernel) rfl
theorem tc_X3_sense : Cond.code mX3_sense.1 mX3_sense.2.1 mX3_sense.2.2.1 mX3_sense.2.2.2 ∈ tbl := tbl_of 485 (by decide +kernel) rfl
theorem tn_X3_senseOf : Cond.instanceMethod mX3_senseOf.1 ∈ tbl := tbl_of 488 (by decide +kernel) rfl
theorem tc_X3_senseOf : Cond.code mX3_senseOf.1 mX3_senseOf.2.1 mX3_senseOf.2.2.1 mX3_senseOf.2.2.2 ∈ tbl := tbl_of 489 (by decide +kernel) rfl
theorem tn_X3_sensible : Cond.instanceMethod mX3_sensible.1 ∈ tbl := tbl_of 491 (by decide +kernel) rfl
theorem tl_X3_sensible : Cond.selects mX3_sensible.1.cls mX3_sensible.1 mX3_sensible.1 ∈ tbl := tbl_of 492 (by decide +kernel) rfl
theorem tc_X3_sensible : Cond.code mX3_sensible.1 mX3_sensible.2.1 mX3_sensible.2.2.1 mX3_sensible.2.2.2 ∈ tbl := tbl_of 493 (by decide +kernel) rfl
theorem tn_X3_isSensible : Cond.instanceMethod mX3_isSensible.1 ∈ tbl := tbl_of 496 (by decide +kernel) rfl
theorem tc_X3_isSensible : Cond.code mX3_isSensible.1 mX3_isSensible.2.1 mX3_isSensible.2.2.1 mX3_isSensible.2.2.2 ∈ tbl := tbl_of 497 (by decide +kernel) rfl
theorem tn_X3_work : Cond.instanceMethod mX3_work.1 ∈ tbl := tbl_of 499 (by decide +kernel) rfl
theorem tl_X3_work : Cond.selects mX3_work.1.cls mX3_work.1 mX3_work.1 ∈ tbl := tbl_of 500 (by decide +kernel) rfl
theorem tc_X3_work : Cond.code mX3_work.1 mX3_work.2.1 mX3_work.2.2.1 mX3_work.2.2.2 ∈ tbl := tbl_of 501 (by decide +kernel) rfl
theorem tn_X3_fact : Cond.instanceMethod mX3_fact.1 ∈ tbl := tbl_of 503 (by decide +kernel) rfl
theorem tl_X3_fact : Cond.selects mX3_fact.1.cls mX3_fact.1 mX3_fact.1 ∈ tbl := tbl_of 504 (by decide +kernel) rfl
theorem tc_X3_fact : Cond.code mX3_fact.1 mX3_fact.2.1 mX3_fact.2.2.1 mX3_fact.2.2.2 ∈ tbl := tbl_of 505 (by decide +kernel) rfl
theorem tn_X3_isWork : Cond.instanceMethod mX3_isWork.1 ∈ tbl := tbl_of 508 (by decide +kernel) rfl
theorem tc_X3_isWork : Cond.code mX3_isWork.1 mX3_isWork.2.1 mX3_isWork.2.2.1 mX3_isWork.2.2.2 ∈ tbl := tbl_of 509 (by decide +kernel) rfl
theorem tn_X3_points : Cond.instanceMethod mX3_points.1 ∈ tbl := tbl_of 511 (by decide +kernel) rfl
theorem tl_X3_points : Cond.selects mX3_points.1.cls mX3_points.1 mX3_points.1 ∈ tbl := tbl_of 512 (by decide +kernel) rfl
theorem tc_X3_points : Cond.code mX3_points.1 mX3_points.2.1 mX3_points.2.2.1 mX3_points.2.2.2 ∈ tbl := tbl_of 513 (by decide +kernel) rfl
theorem tn_X3_pointsOf : Cond.instanceMethod mX3_pointsOf.1 ∈ tbl := tbl_of 516 (by decide +kernel) rfl
theorem tc_X3_pointsOf : Cond.code mX3_pointsOf.1 mX3_pointsOf.2.1 mX3_pointsOf.2.2.1 mX3_pointsOf.2.2.2 ∈ tbl := tbl_of 517 (by decide +kernel) rfl
theorem tn_X3_mark : Cond.instanceMethod mX3_mark.1 ∈ tbl := tbl_of 519 (by decide +kernel) rfl
theorem tl_X3_mark : Cond.selects mX3_mark.1.cls mX3_mark.1 mX3_mark.1 ∈ tbl := tbl_of 520 (by decide +kernel) rfl
theorem tc_X3_mark : Cond.code mX3_mark.1 mX3_mark.2.1 mX3_mark.2.2.1 mX3_mark.2.2.2 ∈ tbl := tbl_of 521 (by decide +kernel) rfl
theorem ts_X3_isMarker : Cond.static mX3_isMarker.1 ∈ tbl := tbl_of 523 (by decide +kernel) rfl
theorem tc_X3_isMarker : Cond.code mX3_isMarker.1 mX3_isMarker.2.1 mX3_isMarker.2.2.1 mX3_isMarker.2.2.2 ∈ tbl := tbl_of 524 (by decide +kernel) rfl
theorem ts_X3_isMark : Cond.static mX3_isMark.1 ∈ tbl := tbl_of 526 (by decide +kernel) rfl
theorem tc_X3_isMark : Cond.code mX3_isMark.1 mX3_isMark.2.1 mX3_isMark.2.2.1 mX3_isMark.2.2.2 ∈ tbl := tbl_of 527 (by decide +kernel) rfl
theorem tn_X3_given : Cond.instanceMethod mX3_given.1 ∈ tbl := tbl_of 529 (by decide +kernel) rfl
theorem tl_X3_given : Cond.selects mX3_given.1.cls mX3_given.1 mX3_given.1 ∈ tbl := tbl_of 530 (by decide +kernel) rfl
theorem tc_X3_given : Cond.code mX3_given.1 mX3_given.2.1 mX3_given.2.2.1 mX3_given.2.2.2 ∈ tbl := tbl_of 531 (by decide +kernel) rfl
theorem tn_X3_like : Cond.instanceMethod mX3_like.1 ∈ tbl := tbl_of 533 (by decide +kernel) rfl
theorem tl_X3_like : Cond.selects mX3_like.1.cls mX3_like.1 mX3_like.1 ∈ tbl := tbl_of 534 (by decide +kernel) rfl
theorem tc_X3_like : Cond.code mX3_like.1 mX3_like.2.1 mX3_like.2.2.1 mX3_like.2.2.2 ∈ tbl := tbl_of 535 (by decide +kernel) rfl
theorem tn_X3_both : Cond.instanceMethod mX3_both.1 ∈ tbl := tbl_of 538 (by decide +kernel) rfl
theorem tc_X3_both : Cond.code mX3_both.1 mX3_both.2.1 mX3_both.2.2.1 mX3_both.2.2.2 ∈ tbl := tbl_of 539 (by decide +kernel) rfl
theorem tn_X3_times : Cond.instanceMethod mX3_times.1 ∈ tbl := tbl_of 542 (by decide +kernel) rfl
theorem tc_X3_times : Cond.code mX3_times.1 mX3_times.2.1 mX3_times.2.2.1 mX3_times.2.2.2 ∈ tbl := tbl_of 543 (by decide +kernel) rfl
theorem ts_X3_common : Cond.static mX3_common.1 ∈ tbl := tbl_of 545 (by decide +kernel) rfl
theorem tc_X3_common : Cond.code mX3_common.1 mX3_common.2.1 mX3_common.2.2.1 mX3_common.2.2.2 ∈ tbl := tbl_of 546 (by decide +kernel) rfl
theorem ts_X3_size : Cond.static mX3_size.1 ∈ tbl := tbl_of 548 (by decide +kernel) rfl
theorem tc_X3_size : Cond.code mX3_size.1 mX3_size.2.1 mX3_size.2.2.1 mX3_size.2.2.2 ∈ tbl := tbl_of 549 (by decide +kernel) rfl
theorem tn_X3_parts : Cond.instanceMethod mX3_parts.1 ∈ tbl := tbl_of 551 (by decide +kernel) rfl
theorem tl_X3_parts : Cond.selects mX3_parts.1.cls mX3_parts.1 mX3_parts.1 ∈ tbl := tbl_of 552 (by decide +kernel) rfl
theorem tc_X3_parts : Cond.code mX3_parts.1 mX3_parts.2.1 mX3_parts.2.2.1 mX3_parts.2.2.2 ∈ tbl := tbl_of 553 (by decide +kernel) rfl
theorem tn_X3_anchor : Cond.instanceMethod mX3_anchor.1 ∈ tbl := tbl_of 555 (by decide +kernel) rfl
theorem tl_X3_anchor : Cond.selects mX3_anchor.1.cls mX3_anchor.1 mX3_anchor.1 ∈ tbl := tbl_of 556 (by decide +kernel) rfl
theorem tc_X3_anchor : Cond.code mX3_anchor.1 mX3_anchor.2.1 mX3_anchor.2.2.1 mX3_anchor.2.2.2 ∈ tbl := tbl_of 557 (by decide +kernel) rfl
theorem tn_X3_off : Cond.instanceMethod mX3_off.1 ∈ tbl := tbl_of 559 (by decide +kernel) rfl
theorem tl_X3_off : Cond.selects mX3_off.1.cls mX3_off.1 mX3_off.1 ∈ tbl := tbl_of 560 (by decide +kernel) rfl
theorem tc_X3_off : Cond.code mX3_off.1 mX3_off.2.1 mX3_off.2.2.1 mX3_off.2.2.2 ∈ tbl := tbl_of 561 (by decide +kernel) rfl
theorem tn_X3_findOff : Cond.instanceMethod mX3_findOff.1 ∈ tbl := tbl_of 564 (by decide +kernel) rfl
theorem tc_X3_findOff : Cond.code mX3_findOff.1 mX3_findOff.2.1 mX3_findOff.2.2.1 mX3_findOff.2.2.2 ∈ tbl := tbl_of 565 (by decide +kernel) rfl
theorem tn_X3_fair : Cond.instanceMethod mX3_fair.1 ∈ tbl := tbl_of 567 (by decide +kernel) rfl
theorem tl_X3_fair : Cond.selects mX3_fair.1.cls mX3_fair.1 mX3_fair.1 ∈ tbl := tbl_of 568 (by decide +kernel) rfl
theorem tc_X3_fair : Cond.code mX3_fair.1 mX3_fair.2.1 mX3_fair.2.2.1 mX3_fair.2.2.2 ∈ tbl := tbl_of 569 (by decide +kernel) rfl
theorem tn_X3_drift : Cond.instanceMethod mX3_drift.1 ∈ tbl := tbl_of 571 (by decide +kernel) rfl
theorem tl_X3_drift : Cond.selects mX3_drift.1.cls mX3_drift.1 mX3_drift.1 ∈ tbl := tbl_of 572 (by decide +kernel) rfl
theorem tc_X3_drift : Cond.code mX3_drift.1 mX3_drift.2.1 mX3_drift.2.2.1 mX3_drift.2.2.2 ∈ tbl := tbl_of 573 (by decide +kernel) rfl
theorem tn_X3_collect : Cond.instanceMethod mX3_collect.1 ∈ tbl := tbl_of 576 (by decide +kernel) rfl
theorem tc_X3_collect : Cond.code mX3_collect.1 mX3_collect.2.1 mX3_collect.2.2.1 mX3_collect.2.2.2 ∈ tbl := tbl_of 577 (by decide +kernel) rfl
theorem tn_X3_drifts : Cond.instanceMethod mX3_drifts.1 ∈ tbl := tbl_of 580 (by decide +kernel) rfl
theorem tc_X3_drifts : Cond.code mX3_drifts.1 mX3_drifts.2.1 mX3_drifts.2.2.1 mX3_drifts.2.2.2 ∈ tbl := tbl_of 581 (by decide +kernel) rfl
theorem tn_X3_take : Cond.instanceMethod mX3_take.1 ∈ tbl := tbl_of 584 (by decide +kernel) rfl
theorem tc_X3_take : Cond.code mX3_take.1 mX3_take.2.1 mX3_take.2.2.1 mX3_take.2.2.2 ∈ tbl := tbl_of 585 (by decide +kernel) rfl
theorem tn_X3_moves : Cond.instanceMethod mX3_moves.1 ∈ tbl := tbl_of 587 (by decide +kernel) rfl
theorem tl_X3_moves : Cond.selects mX3_moves.1.cls mX3_moves.1 mX3_moves.1 ∈ tbl := tbl_of 588 (by decide +kernel) rfl
theorem tc_X3_moves : Cond.code mX3_moves.1 mX3_moves.2.1 mX3_moves.2.2.1 mX3_moves.2.2.2 ∈ tbl := tbl_of 589 (by decide +kernel) rfl
theorem tn_X3_copy : Cond.instanceMethod mX3_copy.1 ∈ tbl := tbl_of 591 (by decide +kernel) rfl
theorem tl_X3_copy : Cond.selects mX3_copy.1.cls mX3_copy.1 mX3_copy.1 ∈ tbl := tbl_of 592 (by decide +kernel) rfl
theorem tc_X3_copy : Cond.code mX3_copy.1 mX3_copy.2.1 mX3_copy.2.2.1 mX3_copy.2.2.2 ∈ tbl := tbl_of 593 (by decide +kernel) rfl
theorem tn_X3_become : Cond.instanceMethod mX3_become.1 ∈ tbl := tbl_of 596 (by decide +kernel) rfl
theorem tc_X3_become : Cond.code mX3_become.1 mX3_become.2.1 mX3_become.2.2.1 mX3_become.2.2.2 ∈ tbl := tbl_of 597 (by decide +kernel) rfl
theorem tn_X3_count : Cond.instanceMethod mX3_count.1 ∈ tbl := tbl_of 599 (by decide +kernel) rfl
theorem tl_X3_count : Cond.selects mX3_count.1.cls mX3_count.1 mX3_count.1 ∈ tbl := tbl_of 600 (by decide +kernel) rfl
theorem tc_X3_count : Cond.code mX3_count.1 mX3_count.2.1 mX3_count.2.2.1 mX3_count.2.2.2 ∈ tbl := tbl_of 601 (by decide +kernel) rfl
theorem tn_X3_trace : Cond.instanceMethod mX3_trace.1 ∈ tbl := tbl_of 603 (by decide +kernel) rfl
theorem tl_X3_trace : Cond.selects mX3_trace.1.cls mX3_trace.1 mX3_trace.1 ∈ tbl := tbl_of 604 (by decide +kernel) rfl
theorem tc_X3_trace : Cond.code mX3_trace.1 mX3_trace.2.1 mX3_trace.2.2.1 mX3_trace.2.2.2 ∈ tbl := tbl_of 605 (by decide +kernel) rfl
theorem tl_X2_lineAt : Cond.selects mX2_lineAt.1.cls mX2_lineAt.1 mX2_lineAt.1 ∈ tbl := tbl_of 0 (by decide +kernel) rfl
theorem tl_X0_strictLevel : Cond.selects mX0_strictLevel.1.cls mX0_strictLevel.1 mX0_strictLevel.1 ∈ tbl := tbl_of 1 (by decide +kernel) rfl
theorem tl_X0_spanHas : Cond.selects mX0_spanHas.1.cls mX0_spanHas.1 mX0_spanHas.1 ∈ tbl := tbl_of 2 (by decide +kernel) rfl
theorem tl_X0_filledLevel : Cond.selects mX0_filledLevel.1.cls mX0_filledLevel.1 mX0_filledLevel.1 ∈ tbl := tbl_of 3 (by decide +kernel) rfl
theorem tl_X0_greatestBelow : Cond.selects mX0_greatestBelow.1.cls mX0_greatestBelow.1 mX0_greatestBelow.1 ∈ tbl := tbl_of 4 (by decide +kernel) rfl
theorem tl_X0_kindLevel : Cond.selects mX0_kindLevel.1.cls mX0_kindLevel.1 mX0_kindLevel.1 ∈ tbl := tbl_of 5 (by decide +kernel) rfl
theorem tl_X0_countSpansWith : Cond.selects mX0_countSpansWith.1.cls mX0_countSpansWith.1 mX0_countSpansWith.1 ∈ tbl := tbl_of 6 (by decide +kernel) rfl
theorem tl_X0_neverFalls : Cond.selects mX0_neverFalls.1.cls mX0_neverFalls.1 mX0_neverFalls.1 ∈ tbl := tbl_of 7 (by decide +kernel) rfl
theorem tl_X2_workAt : Cond.selects mX2_workAt.1.cls mX2_workAt.1 mX2_workAt.1 ∈ tbl := tbl_of 8 (by decide +kernel) rfl
theorem tl_X2_pointsBy : Cond.selects mX2_pointsBy.1.cls mX2_pointsBy.1 mX2_pointsBy.1 ∈ tbl := tbl_of 9 (by decide +kernel) rfl
theorem tl_X2_countBothMarked : Cond.selects mX2_countBothMarked.1.cls mX2_countBothMarked.1 mX2_countBothMarked.1 ∈ tbl := tbl_of 10 (by decide +kernel) rfl
theorem tl_X2_chanceOfAlike : Cond.selects mX2_chanceOfAlike.1.cls mX2_chanceOfAlike.1 mX2_chanceOfAlike.1 ∈ tbl := tbl_of 11 (by decide +kernel) rfl
theorem tl_X2_countGave : Cond.selects mX2_countGave.1.cls mX2_countGave.1 mX2_countGave.1 ∈ tbl := tbl_of 12 (by decide +kernel) rfl
theorem tl_X2_countAlike : Cond.selects mX2_countAlike.1.cls mX2_countAlike.1 mX2_countAlike.1 ∈ tbl := tbl_of 13 (by decide +kernel) rfl
theorem tl_X2_countMarkedAnchors : Cond.selects mX2_countMarkedAnchors.1.cls mX2_countMarkedAnchors.1 mX2_countMarkedAnchors.1 ∈ tbl := tbl_of 14 (by decide +kernel) rfl
theorem tl_X2_sumOffAnchors : Cond.selects mX2_sumOffAnchors.1.cls mX2_sumOffAnchors.1 mX2_sumOffAnchors.1 ∈ tbl := tbl_of 15 (by decide +kernel) rfl
theorem tl_X2_gatherPile : Cond.selects mX2_gatherPile.1.cls mX2_gatherPile.1 mX2_gatherPile.1 ∈ tbl := tbl_of 16 (by decide +kernel) rfl
theorem tl_X2_driftOfPile : Cond.selects mX2_driftOfPile.1.cls mX2_driftOfPile.1 mX2_driftOfPile.1 ∈ tbl := tbl_of 17 (by decide +kernel) rfl
theorem tl_X2_oddsOfPile : Cond.selects mX2_oddsOfPile.1.cls mX2_oddsOfPile.1 mX2_oddsOfPile.1 ∈ tbl := tbl_of 18 (by decide +kernel) rfl
theorem tl_X2_countInPile : Cond.selects mX2_countInPile.1.cls mX2_countInPile.1 mX2_countInPile.1 ∈ tbl := tbl_of 19 (by decide +kernel) rfl
theorem tl_X2_countMoved : Cond.selects mX2_countMoved.1.cls mX2_countMoved.1 mX2_countMoved.1 ∈ tbl := tbl_of 20 (by decide +kernel) rfl
theorem tl_X2_countTurned : Cond.selects mX2_countTurned.1.cls mX2_countTurned.1 mX2_countTurned.1 ∈ tbl := tbl_of 21 (by decide +kernel) rfl
theorem tl_X2_countAnchors : Cond.selects mX2_countAnchors.1.cls mX2_countAnchors.1 mX2_countAnchors.1 ∈ tbl := tbl_of 22 (by decide +kernel) rfl
theorem tl_X2_countMarks : Cond.selects mX2_countMarks.1.cls mX2_countMarks.1 mX2_countMarks.1 ∈ tbl := tbl_of 23 (by decide +kernel) rfl
theorem tl_X2_countSensible : Cond.selects mX2_countSensible.1.cls mX2_countSensible.1 mX2_countSensible.1 ∈ tbl := tbl_of 24 (by decide +kernel) rfl
theorem tl_X3_levelOf : Cond.selects mX3_levelOf.1.cls mX3_levelOf.1 mX3_levelOf.1 ∈ tbl := tbl_of 25 (by decide +kernel) rfl
theorem tl_X3_strict : Cond.selects mX3_strict.1.cls mX3_strict.1 mX3_strict.1 ∈ tbl := tbl_of 26 (by decide +kernel) rfl
theorem tl_X3_has : Cond.selects mX3_has.1.cls mX3_has.1 mX3_has.1 ∈ tbl := tbl_of 27 (by decide +kernel) rfl
theorem tl_X3_filled : Cond.selects mX3_filled.1.cls mX3_filled.1 mX3_filled.1 ∈ tbl := tbl_of 28 (by decide +kernel) rfl
theorem tl_X3_senseOf : Cond.selects mX3_senseOf.1.cls mX3_senseOf.1 mX3_senseOf.1 ∈ tbl := tbl_of 29 (by decide +kernel) rfl
theorem tl_X3_isSensible : Cond.selects mX3_isSensible.1.cls mX3_isSensible.1 mX3_isSensible.1 ∈ tbl := tbl_of 30 (by decide +kernel) rfl
theorem tl_X3_isWork : Cond.selects mX3_isWork.1.cls mX3_isWork.1 mX3_isWork.1 ∈ tbl := tbl_of 31 (by decide +kernel) rfl
theorem tl_X3_pointsOf : Cond.selects mX3_pointsOf.1.cls mX3_pointsOf.1 mX3_pointsOf.1 ∈ tbl := tbl_of 32 (by decide +kernel) rfl
theorem tl_X3_both : Cond.selects mX3_both.1.cls mX3_both.1 mX3_both.1 ∈ tbl := tbl_of 33 (by decide +kernel) rfl
theorem tl_X3_times : Cond.selects mX3_times.1.cls mX3_times.1 mX3_times.1 ∈ tbl := tbl_of 34 (by decide +kernel) rfl
theorem tl_X3_findOff : Cond.selects mX3_findOff.1.cls mX3_findOff.1 mX3_findOff.1 ∈ tbl := tbl_of 35 (by decide +kernel) rfl
theorem tl_X3_collect : Cond.selects mX3_collect.1.cls mX3_collect.1 mX3_collect.1 ∈ tbl := tbl_of 36 (by decide +kernel) rfl
theorem tl_X3_drifts : Cond.selects mX3_drifts.1.cls mX3_drifts.1 mX3_drifts.1 ∈ tbl := tbl_of 37 (by decide +kernel) rfl
theorem tl_X3_take : Cond.selects mX3_take.1.cls mX3_take.1 mX3_take.1 ∈ tbl := tbl_of 38 (by decide +kernel) rfl
theorem tl_X3_become : Cond.selects mX3_become.1.cls mX3_become.1 mX3_become.1 ∈ tbl := tbl_of 39 (by decide +kernel) rfl
theorem cw_L_9 : CW RL 9 mX2_init 0 := ⟨tc_X2_init, tbl_of 49 (by decide +kernel) rfl, ti_X2, by decide +kernel, by decide⟩
theorem to_X2_3 : Cond.methodLink RX2 3 Lib.objectInit ∈ tbl := tbl_of 52 (by decide +kernel) rfl
theorem cw_X2_42 : CW RX2 42 mX0_init 1 := ⟨tc_X0_init, tbl_of 60 (by decide +kernel) rfl, ti_X0, by decide +kernel, by decide⟩
theorem to_X0_3 : Cond.methodLink RX0 3 Lib.objectInit ∈ tbl := tbl_of 63 (by decide +kernel) rfl
theorem fl_X0_9 : FL RX0 9 0 0 (.int) false := ⟨RX0, TX0, 5, tyX0, ci0, by decide, rfl, rfl, rfl, tbl_of 64 (by decide +kernel) rfl⟩
theorem fl_X2_56 : FL RX2 56 0 0 (.int) false := ⟨RX0, TX0, 5, tyX0, ci0, by decide, rfl, rfl, rfl, tbl_of 65 (by decide +kernel) rfl⟩
theorem fl_X0_25 : FL RX0 25 0 1 (.int) false := ⟨RX0, TX0, 5, tyX0, ci0, by decide, rfl, rfl, rfl, tbl_of 66 (by decide +kernel) rfl⟩
theorem fl_X2_59 : FL RX2 59 0 1 (.int) false := ⟨RX0, TX0, 5, tyX0, ci0, by decide, rfl, rfl, rfl, tbl_of 67 (by decide +kernel) rfl⟩
theorem fl_X0_15 : FL RX0 15 0 2 (.int) false := ⟨RX0, TX0, 5, tyX0, ci0, by decide, rfl, rfl, rfl, tbl_of 68 (by decide +kernel) rfl⟩
theorem fl_X2_62 : FL RX2 62 0 2 (.int) false := ⟨RX0, TX0, 5, tyX0, ci0, by decide, rfl, rfl, rfl, tbl_of 69 (by decide +kernel) rfl⟩
theorem fl_X0_18 : FL RX0 18 0 3 (.array .int) true := ⟨RX0, TX0, 5, tyX0, ci0, by decide, rfl, rfl, rfl, tbl_of 70 (by decide +kernel) rfl⟩
theorem fl_X2_65 : FL RX2 65 0 3 (.array .int) true := ⟨RX0, TX0, 5, tyX0, ci0, by decide, rfl, rfl, rfl, tbl_of 71 (by decide +kernel) rfl⟩
theorem fl_X0_22 : FL RX0 22 0 4 (.array .int) true := ⟨RX0, TX0, 5, tyX0, ci0, by decide, rfl, rfl, rfl, tbl_of 72 (by decide +kernel) rfl⟩
theorem fl_X2_68 : FL RX2 68 0 4 (.array .int) true := ⟨RX0, TX0, 5, tyX0, ci0, by decide, rfl, rfl, rfl, tbl_of 73 (by decide +kernel) rfl⟩
theorem fl_X2_11 : FL RX2 11 2 0 (.array (.object "MarkSheets$Line")) true := ⟨RX2, TX2, 8, tyX2, ci2, by decide, rfl, rfl, rfl, tbl_of 86 (by decide +kernel) rfl⟩
theorem fl_X2_17 : FL RX2 17 2 1 (.array (.object "MarkSheets$Work")) true := ⟨RX2, TX2, 8, tyX2, ci2, by decide, rfl, rfl, rfl, tbl_of 87 (by decide +kernel) rfl⟩
theorem fl_X2_21 : FL RX2 21 2 2 (.int) false := ⟨RX2, TX2, 8, tyX2, ci2, by decide, rfl, rfl, rfl, tbl_of 88 (by decide +kernel) rfl⟩
theorem fl_X2_25 : FL RX2 25 2 3 (.long) false := ⟨RX2, TX2, 8, tyX2, ci2, by decide, rfl, rfl, rfl, tbl_of 89 (by decide +kernel) rfl⟩
theorem fl_X2_29 : FL RX2 29 2 4 (.array .int) true := ⟨RX2, TX2, 8, tyX2, ci2, by decide, rfl, rfl, rfl, tbl_of 90 (by decide +kernel) rfl⟩
theorem fl_X2_33 : FL RX2 33 2 5 (.array .int) true := ⟨RX2, TX2, 8, tyX2, ci2, by decide, rfl, rfl, rfl, tbl_of 91 (by decide +kernel) rfl⟩
theorem fl_X2_36 : FL RX2 36 2 6 (.array .int) true := ⟨RX2, TX2, 8, tyX2, ci2, by decide, rfl, rfl, rfl, tbl_of 92 (by decide +kernel) rfl⟩
theorem fl_X2_39 : FL RX2 39 2 7 (.array .int) true := ⟨RX2, TX2, 8, tyX2, ci2, by decide, rfl, rfl, rfl, tbl_of 93 (by decide +kernel) rfl⟩
theorem cw_L_13 : CW RL 13 mX2_line 5 := ⟨tc_X2_line, tbl_of 111 (by decide +kernel) rfl, ti_X2, by decide +kernel, by decide⟩
theorem cw_X2_45 : CW RX2 45 mX2_lineAt 2 := ⟨tc_X2_lineAt, tbl_of 115 (by decide +kernel) rfl, ti_X2, by decide +kernel, by decide⟩
theorem cw_X2_49 : CW RX2 49 mX2_isBelow 2 := ⟨tc_X2_isBelow, tbl_of 119 (by decide +kernel) rfl, ti_X2, by decide +kernel, by decide⟩
theorem cw_X2_53 : CW RX2 53 mX2_isUpTo 2 := ⟨tc_X2_isUpTo, tbl_of 122 (by decide +kernel) rfl, ti_X2, by decide +kernel, by decide⟩
theorem cw_L_18 : CW RL 18 mX2_span 5 := ⟨tc_X2_span, tbl_of 125 (by decide +kernel) rfl, ti_X2, by decide +kernel, by decide⟩
theorem cw_L_22 : CW RL 22 mX2_about 3 := ⟨tc_X2_about, tbl_of 129 (by decide +kernel) rfl, ti_X2, by decide +kernel, by decide⟩
theorem cw_L_27 : CW RL 27 mX2_level 3 := ⟨tc_X2_level, tbl_of 133 (by decide +kernel) rfl, ti_X2, by decide +kernel, by decide⟩
theorem cw_X2_71 : CW RX2 71 mX0_traceOfAsking 0 := ⟨tc_X0_traceOfAsking, tbl_of 137 (by decide +kernel) rfl, ti_X0, by decide +kernel, by decide⟩
theorem cw_X2_75 : CW RX2 75 mX0_levelFor 1 := ⟨tc_X0_levelFor, tbl_of 141 (by decide +kernel) rfl, ti_X0, by decide +kernel, by decide⟩
theorem cw_X0_28 : CW RX0 28 mX0_strictLevel 1 := ⟨tc_X0_strictLevel, tbl_of 145 (by decide +kernel) rfl, ti_X0, by decide +kernel, by decide⟩
theorem cw_X0_38 : CW RX0 38 mX0_spanHas 2 := ⟨tc_X0_spanHas, tbl_of 149 (by decide +kernel) rfl, ti_X0, by decide +kernel, by decide⟩
theorem cw_X0_32 : CW RX0 32 mX0_filledLevel 1 := ⟨tc_X0_filledLevel, tbl_of 153 (by decide +kernel) rfl, ti_X0, by decide +kernel, by decide⟩
theorem cw_X0_42 : CW RX0 42 mX0_greatestBelow 1 := ⟨tc_X0_greatestBelow, tbl_of 157 (by decide +kernel) rfl, ti_X0, by decide +kernel, by decide⟩
theorem cw_X0_35 : CW RX0 35 mX0_kindLevel 1 := ⟨tc_X0_kindLevel, tbl_of 161 (by decide +kernel) rfl, ti_X0, by decide +kernel, by decide⟩
theorem cw_X0_45 : CW RX0 45 mJ9_min_7cf53 2 := ⟨tc_J9_min_7cf53, tbl_of 165 (by decide +kernel) rfl, ti_J9, by decide +kernel, by decide⟩
theorem cw_L_31 : CW RL 31 mX2_sense 3 := ⟨tc_X2_sense, tbl_of 168 (by decide +kernel) rfl, ti_X2, by decide +kernel, by decide⟩
theorem cw_X2_79 : CW RX2 79 mX0_gaps 0 := ⟨tc_X0_gaps, tbl_of 172 (by decide +kernel) rfl, ti_X0, by decide +kernel, by decide⟩
theorem cw_X0_51 : CW RX0 51 mX0_countSpansWith 1 := ⟨tc_X0_countSpansWith, tbl_of 176 (by decide +kernel) rfl, ti_X0, by decide +kernel, by decide⟩
theorem cw_X2_82 : CW RX2 82 mX0_overlaps 0 := ⟨tc_X0_overlaps, tbl_of 180 (by decide +kernel) rfl, ti_X0, by decide +kernel, by decide⟩
theorem cw_L_35 : CW RL 35 mX2_sensible 2 := ⟨tc_X2_sensible, tbl_of 184 (by decide +kernel) rfl, ti_X2, by decide +kernel, by decide⟩
theorem cw_X2_85 : CW RX2 85 mX0_isSensible 0 := ⟨tc_X0_isSensible, tbl_of 188 (by decide +kernel) rfl, ti_X0, by decide +kernel, by decide⟩
theorem cw_X0_54 : CW RX0 54 mX0_gaps 0 := ⟨tc_X0_gaps, tbl_of 192 (by decide +kernel) rfl, ti_X0, by decide +kernel, by decide⟩
theorem cw_X0_58 : CW RX0 58 mX0_overlaps 0 := ⟨tc_X0_overlaps, tbl_of 193 (by decide +kernel) rfl, ti_X0, by decide +kernel, by decide⟩
theorem cw_X0_61 : CW RX0 61 mX0_neverFalls 0 := ⟨tc_X0_neverFalls, tbl_of 194 (by decide +kernel) rfl, ti_X0, by decide +kernel, by decide⟩
theorem cw_X0_65 : CW RX0 65 mX0_levelFor 1 := ⟨tc_X0_levelFor, tbl_of 198 (by decide +kernel) rfl, ti_X0, by decide +kernel, by decide⟩
theorem cw_L_40 : CW RL 40 mX2_work 4 := ⟨tc_X2_work, tbl_of 199 (by decide +kernel) rfl, ti_X2, by decide +kernel, by decide⟩
theorem cw_X2_89 : CW RX2 89 mX1_init 4 := ⟨tc_X1_init, tbl_of 204 (by decide +kernel) rfl, ti_X1, by decide +kernel, by decide⟩
theorem to_X1_3 : Cond.methodLink RX1 3 Lib.objectInit ∈ tbl := tbl_of 207 (by decide +kernel) rfl
theorem fl_X1_9 : FL RX1 9 1 0 (.array .int) true := ⟨RX1, TX1, 3, tyX1, ci1, by decide, rfl, rfl, rfl, tbl_of 208 (by decide +kernel) rfl⟩
theorem fl_X2_96 : FL RX2 96 1 0 (.array .int) true := ⟨RX1, TX1, 3, tyX1, ci1, by decide, rfl, rfl, rfl, tbl_of 209 (by decide +kernel) rfl⟩
theorem fl_X1_15 : FL RX1 15 1 1 (.array .int) true := ⟨RX1, TX1, 3, tyX1, ci1, by decide, rfl, rfl, rfl, tbl_of 210 (by decide +kernel) rfl⟩
theorem fl_X2_107 : FL RX2 107 1 1 (.array .int) true := ⟨RX1, TX1, 3, tyX1, ci1, by decide, rfl, rfl, rfl, tbl_of 211 (by decide +kernel) rfl⟩
theorem fl_X1_18 : FL RX1 18 1 2 (.int) false := ⟨RX1, TX1, 3, tyX1, ci1, by decide, rfl, rfl, rfl, tbl_of 212 (by decide +kernel) rfl⟩
theorem fl_X2_135 : FL RX2 135 1 2 (.int) false := ⟨RX1, TX1, 3, tyX1, ci1, by decide, rfl, rfl, rfl, tbl_of 213 (by decide +kernel) rfl⟩
theorem cw_L_45 : CW RL 45 mX2_fact 3 := ⟨tc_X2_fact, tbl_of 221 (by decide +kernel) rfl, ti_X2, by decide +kernel, by decide⟩
theorem cw_X2_92 : CW RX2 92 mX2_workAt 1 := ⟨tc_X2_workAt, tbl_of 225 (by decide +kernel) rfl, ti_X2, by decide +kernel, by decide⟩
theorem cw_L_49 : CW RL 49 mX2_points 2 := ⟨tc_X2_points, tbl_of 229 (by decide +kernel) rfl, ti_X2, by decide +kernel, by decide⟩
theorem cw_X2_99 : CW RX2 99 mX2_pointsBy 2 := ⟨tc_X2_pointsBy, tbl_of 233 (by decide +kernel) rfl, ti_X2, by decide +kernel, by decide⟩
theorem cw_L_53 : CW RL 53 mX2_mark 3 := ⟨tc_X2_mark, tbl_of 237 (by decide +kernel) rfl, ti_X2, by decide +kernel, by decide⟩
theorem cw_X2_103 : CW RX2 103 mX2_isMarkOrNone 1 := ⟨tc_X2_isMarkOrNone, tbl_of 241 (by decide +kernel) rfl, ti_X2, by decide +kernel, by decide⟩
theorem cw_L_57 : CW RL 57 mX2_given 2 := ⟨tc_X2_given, tbl_of 244 (by decide +kernel) rfl, ti_X2, by decide +kernel, by decide⟩
theorem cw_L_61 : CW RL 61 mX2_like 3 := ⟨tc_X2_like, tbl_of 248 (by decide +kernel) rfl, ti_X2, by decide +kernel, by decide⟩
theorem cw_X2_110 : CW RX2 110 mX2_areTwoMarkers 2 := ⟨tc_X2_areTwoMarkers, tbl_of 252 (by decide +kernel) rfl, ti_X2, by decide +kernel, by decide⟩
theorem cw_X2_113 : CW RX2 113 mX2_countBothMarked 2 := ⟨tc_X2_countBothMarked, tbl_of 255 (by decide +kernel) rfl, ti_X2, by decide +kernel, by decide⟩
theorem cw_X2_127 : CW RX2 127 mX1_isMarkedByBoth 2 := ⟨tc_X1_isMarkedByBoth, tbl_of 259 (by decide +kernel) rfl, ti_X1, by decide +kernel, by decide⟩
theorem cw_X1_22 : CW RX1 22 mX1_isMarkedBy 1 := ⟨tc_X1_isMarkedBy, tbl_of 263 (by decide +kernel) rfl, ti_X1, by decide +kernel, by decide⟩
theorem cw_X2_117 : CW RX2 117 mX2_chanceOfAlike 2 := ⟨tc_X2_chanceOfAlike, tbl_of 267 (by decide +kernel) rfl, ti_X2, by decide +kernel, by decide⟩
theorem cw_X2_187 : CW RX2 187 mX2_countGave 3 := ⟨tc_X2_countGave, tbl_of 271 (by decide +kernel) rfl, ti_X2, by decide +kernel, by decide⟩
theorem cw_X2_120 : CW RX2 120 mX2_countAlike 2 := ⟨tc_X2_countAlike, tbl_of 275 (by decide +kernel) rfl, ti_X2, by decide +kernel, by decide⟩
theorem cw_X2_123 : CW RX2 123 mX2_partOfRatio 3 := ⟨tc_X2_partOfRatio, tbl_of 279 (by decide +kernel) rfl, ti_X2, by decide +kernel, by decide⟩
theorem cw_L_65 : CW RL 65 mX2_parts 2 := ⟨tc_X2_parts, tbl_of 282 (by decide +kernel) rfl, ti_X2, by decide +kernel, by decide⟩
theorem cw_X2_130 : CW RX2 130 mJ9_abs_0f7a4 1 := ⟨tc_J9_abs_0f7a4, tbl_of 286 (by decide +kernel) rfl, ti_J9, by decide +kernel, by decide⟩
theorem cw_L_69 : CW RL 69 mX2_anchor 2 := ⟨tc_X2_anchor, tbl_of 289 (by decide +kernel) rfl, ti_X2, by decide +kernel, by decide⟩
theorem cw_L_73 : CW RL 73 mX2_off 2 := ⟨tc_X2_off, tbl_of 293 (by decide +kernel) rfl, ti_X2, by decide +kernel, by decide⟩
theorem cw_X2_138 : CW RX2 138 mX2_countMarkedAnchors 1 := ⟨tc_X2_countMarkedAnchors, tbl_of 297 (by decide +kernel) rfl, ti_X2, by decide +kernel, by decide⟩
theorem cw_X2_184 : CW RX2 184 mX1_isAnchor 0 := ⟨tc_X1_isAnchor, tbl_of 301 (by decide +kernel) rfl, ti_X1, by decide +kernel, by decide⟩
theorem cw_X2_144 : CW RX2 144 mX1_isMarkedBy 1 := ⟨tc_X1_isMarkedBy, tbl_of 305 (by decide +kernel) rfl, ti_X1, by decide +kernel, by decide⟩
theorem cw_X2_141 : CW RX2 141 mX2_sumOffAnchors 1 := ⟨tc_X2_sumOffAnchors, tbl_of 306 (by decide +kernel) rfl, ti_X2, by decide +kernel, by decide⟩
theorem cw_L_77 : CW RL 77 mX2_fair 2 := ⟨tc_X2_fair, tbl_of 310 (by decide +kernel) rfl, ti_X2, by decide +kernel, by decide⟩
theorem cw_X2_147 : CW RX2 147 mJ9_floorDiv_7cf53 2 := ⟨tc_J9_floorDiv_7cf53, tbl_of 314 (by decide +kernel) rfl, ti_J9, by decide +kernel, by decide⟩
theorem cw_X2_150 : CW RX2 150 mJ9_min_7cf53 2 := ⟨tc_J9_min_7cf53, tbl_of 317 (by decide +kernel) rfl, ti_J9, by decide +kernel, by decide⟩
theorem cw_X2_153 : CW RX2 153 mJ9_max_7cf53 2 := ⟨tc_J9_max_7cf53, tbl_of 318 (by decide +kernel) rfl, ti_J9, by decide +kernel, by decide⟩
theorem cw_L_81 : CW RL 81 mX2_drift 2 := ⟨tc_X2_drift, tbl_of 321 (by decide +kernel) rfl, ti_X2, by decide +kernel, by decide⟩
theorem cw_X2_156 : CW RX2 156 mX2_gatherPile 1 := ⟨tc_X2_gatherPile, tbl_of 325 (by decide +kernel) rfl, ti_X2, by decide +kernel, by decide⟩
theorem cw_X2_159 : CW RX2 159 mX2_driftOfPile 1 := ⟨tc_X2_driftOfPile, tbl_of 329 (by decide +kernel) rfl, ti_X2, by decide +kernel, by decide⟩
theorem cw_X2_190 : CW RX2 190 mJ6_compare_7cf53 2 := ⟨tc_J6_compare_7cf53, tbl_of 333 (by decide +kernel) rfl, ti_J6, by decide +kernel, by decide⟩
theorem cw_X2_162 : CW RX2 162 mX2_oddsOfPile 2 := ⟨tc_X2_oddsOfPile, tbl_of 336 (by decide +kernel) rfl, ti_X2, by decide +kernel, by decide⟩
theorem cw_X2_195 : CW RX2 195 mX2_countInPile 2 := ⟨tc_X2_countInPile, tbl_of 340 (by decide +kernel) rfl, ti_X2, by decide +kernel, by decide⟩
theorem cw_X2_198 : CW RX2 198 mX2_countOrders 3 := ⟨tc_X2_countOrders, tbl_of 344 (by decide +kernel) rfl, ti_X2, by decide +kernel, by decide⟩
theorem cw_X2_202 : CW RX2 202 mX2_driftBehind 2 := ⟨tc_X2_driftBehind, tbl_of 347 (by decide +kernel) rfl, ti_X2, by decide +kernel, by decide⟩
theorem cw_L_85 : CW RL 85 mX2_moves 1 := ⟨tc_X2_moves, tbl_of 350 (by decide +kernel) rfl, ti_X2, by decide +kernel, by decide⟩
theorem cw_X2_165 : CW RX2 165 mX2_countMoved 0 := ⟨tc_X2_countMoved, tbl_of 354 (by decide +kernel) rfl, ti_X2, by decide +kernel, by decide⟩
theorem cw_X2_168 : CW RX2 168 mX2_countTurned 0 := ⟨tc_X2_countTurned, tbl_of 358 (by decide +kernel) rfl, ti_X2, by decide +kernel, by decide⟩
theorem cw_L_90 : CW RL 90 mX2_copy 1 := ⟨tc_X2_copy, tbl_of 362 (by decide +kernel) rfl, ti_X2, by decide +kernel, by decide⟩
theorem cw_X2_171 : CW RX2 171 mX0_becomeAs 1 := ⟨tc_X0_becomeAs, tbl_of 366 (by decide +kernel) rfl, ti_X0, by decide +kernel, by decide⟩
theorem cw_L_94 : CW RL 94 mX2_count 1 := ⟨tc_X2_count, tbl_of 370 (by decide +kernel) rfl, ti_X2, by decide +kernel, by decide⟩
theorem cw_X2_175 : CW RX2 175 mX2_countAnchors 0 := ⟨tc_X2_countAnchors, tbl_of 374 (by decide +kernel) rfl, ti_X2, by decide +kernel, by decide⟩
theorem cw_X2_178 : CW RX2 178 mX2_countMarks 0 := ⟨tc_X2_countMarks, tbl_of 378 (by decide +kernel) rfl, ti_X2, by decide +kernel, by decide⟩
theorem cw_X2_181 : CW RX2 181 mX2_countSensible 1 := ⟨tc_X2_countSensible, tbl_of 382 (by decide +kernel) rfl, ti_X2, by decide +kernel, by decide⟩
theorem cw_L_98 : CW RL 98 mX2_trace 0 := ⟨tc_X2_trace, tbl_of 386 (by decide +kernel) rfl, ti_X2, by decide +kernel, by decide⟩
theorem cw_L_12 : CW RL 12 mX3_init 0 := ⟨tc_X3_init, tbl_of 392 (by decide +kernel) rfl, ti_X3, by decide +kernel, by decide⟩
theorem to_X3_1 : Cond.methodLink RX3 1 Lib.objectInit ∈ tbl := tbl_of 395 (by decide +kernel) rfl
theorem fl_X3_7 : FL RX3 7 3 0 (.array .int) true := ⟨RX3, TX3, 15, tyX3, ci3, by decide, rfl, rfl, rfl, tbl_of 396 (by decide +kernel) rfl⟩
theorem fl_X3_13 : FL RX3 13 3 1 (.array .int) true := ⟨RX3, TX3, 15, tyX3, ci3, by decide, rfl, rfl, rfl, tbl_of 397 (by decide +kernel) rfl⟩
theorem fl_X3_16 : FL RX3 16 3 2 (.array .int) true := ⟨RX3, TX3, 15, tyX3, ci3, by decide, rfl, rfl, rfl, tbl_of 398 (by decide +kernel) rfl⟩
theorem fl_X3_19 : FL RX3 19 3 3 (.array .int) true := ⟨RX3, TX3, 15, tyX3, ci3, by decide, rfl, rfl, rfl, tbl_of 399 (by decide +kernel) rfl⟩
theorem fl_X3_22 : FL RX3 22 3 4 (.array .int) true := ⟨RX3, TX3, 15, tyX3, ci3, by decide, rfl, rfl, rfl, tbl_of 400 (by decide +kernel) rfl⟩
theorem fl_X3_77 : FL RX3 77 3 5 (.int) false := ⟨RX3, TX3, 15, tyX3, ci3, by decide, rfl, rfl, rfl, tbl_of 401 (by decide +kernel) rfl⟩
theorem fl_X3_25 : FL RX3 25 3 6 (.array .int) true := ⟨RX3, TX3, 15, tyX3, ci3, by decide, rfl, rfl, rfl, tbl_of 402 (by decide +kernel) rfl⟩
theorem fl_X3_28 : FL RX3 28 3 7 (.array .int) true := ⟨RX3, TX3, 15, tyX3, ci3, by decide, rfl, rfl, rfl, tbl_of 403 (by decide +kernel) rfl⟩
theorem fl_X3_31 : FL RX3 31 3 8 (.array .int) true := ⟨RX3, TX3, 15, tyX3, ci3, by decide, rfl, rfl, rfl, tbl_of 404 (by decide +kernel) rfl⟩
theorem fl_X3_58 : FL RX3 58 3 9 (.long) false := ⟨RX3, TX3, 15, tyX3, ci3, by decide, rfl, rfl, rfl, tbl_of 405 (by decide +kernel) rfl⟩
theorem fl_X3_107 : FL RX3 107 3 10 (.int) false := ⟨RX3, TX3, 15, tyX3, ci3, by decide, rfl, rfl, rfl, tbl_of 406 (by decide +kernel) rfl⟩
theorem fl_X3_110 : FL RX3 110 3 11 (.int) false := ⟨RX3, TX3, 15, tyX3, ci3, by decide, rfl, rfl, rfl, tbl_of 407 (by decide +kernel) rfl⟩
theorem fl_X3_117 : FL RX3 117 3 12 (.int) false := ⟨RX3, TX3, 15, tyX3, ci3, by decide, rfl, rfl, rfl, tbl_of 408 (by decide +kernel) rfl⟩
theorem fl_X3_34 : FL RX3 34 3 13 (.array .int) true := ⟨RX3, TX3, 15, tyX3, ci3, by decide, rfl, rfl, rfl, tbl_of 409 (by decide +kernel) rfl⟩
theorem fl_X3_37 : FL RX3 37 3 14 (.array .int) true := ⟨RX3, TX3, 15, tyX3, ci3, by decide, rfl, rfl, rfl, tbl_of 410 (by decide +kernel) rfl⟩
theorem cw_L_17 : CW RL 17 mX3_line 5 := ⟨tc_X3_line, tbl_of 442 (by decide +kernel) rfl, ti_X3, by decide +kernel, by decide⟩
theorem cw_X3_44 : CW RX3 44 mX3_isLine 2 := ⟨tc_X3_isLine, tbl_of 446 (by decide +kernel) rfl, ti_X3, by decide +kernel, by decide⟩
theorem cw_X3_40 : CW RX3 40 mX3_in 3 := ⟨tc_X3_in, tbl_of 449 (by decide +kernel) rfl, ti_X3, by decide +kernel, by decide⟩
theorem cw_L_21 : CW RL 21 mX3_span 5 := ⟨tc_X3_span, tbl_of 452 (by decide +kernel) rfl, ti_X3, by decide +kernel, by decide⟩
theorem cw_L_26 : CW RL 26 mX3_about 3 := ⟨tc_X3_about, tbl_of 456 (by decide +kernel) rfl, ti_X3, by decide +kernel, by decide⟩
theorem cw_L_30 : CW RL 30 mX3_level 3 := ⟨tc_X3_level, tbl_of 460 (by decide +kernel) rfl, ti_X3, by decide +kernel, by decide⟩
theorem cw_X3_66 : CW RX3 66 mX3_levelOf 2 := ⟨tc_X3_levelOf, tbl_of 466 (by decide +kernel) rfl, ti_X3, by decide +kernel, by decide⟩
theorem cw_X3_51 : CW RX3 51 mX3_strict 2 := ⟨tc_X3_strict, tbl_of 470 (by decide +kernel) rfl, ti_X3, by decide +kernel, by decide⟩
theorem cw_X3_48 : CW RX3 48 mX3_has 3 := ⟨tc_X3_has, tbl_of 474 (by decide +kernel) rfl, ti_X3, by decide +kernel, by decide⟩
theorem cw_X3_55 : CW RX3 55 mX3_filled 2 := ⟨tc_X3_filled, tbl_of 478 (by decide +kernel) rfl, ti_X3, by decide +kernel, by decide⟩
theorem cw_L_34 : CW RL 34 mX3_sense 3 := ⟨tc_X3_sense, tbl_of 482 (by decide +kernel) rfl, ti_X3, by decide +kernel, by decide⟩
theorem cw_X3_69 : CW RX3 69 mX3_senseOf 2 := ⟨tc_X3_senseOf, tbl_of 486 (by decide +kernel) rfl, ti_X3, by decide +kernel, by decide⟩
theorem cw_L_39 : CW RL 39 mX3_sensible 2 := ⟨tc_X3_sensible, tbl_of 490 (by decide +kernel) rfl, ti_X3, by decide +kernel, by decide⟩
theorem cw_X3_73 : CW RX3 73 mX3_isSensible 1 := ⟨tc_X3_isSensible, tbl_of 494 (by decide +kernel) rfl, ti_X3, by decide +kernel, by decide⟩
theorem cw_L_44 : CW RL 44 mX3_work 4 := ⟨tc_X3_work, tbl_of 498 (by decide +kernel) rfl, ti_X3, by decide +kernel, by decide⟩
theorem cw_L_48 : CW RL 48 mX3_fact 3 := ⟨tc_X3_fact, tbl_of 502 (by decide +kernel) rfl, ti_X3, by decide +kernel, by decide⟩
theorem cw_X3_81 : CW RX3 81 mX3_isWork 1 := ⟨tc_X3_isWork, tbl_of 506 (by decide +kernel) rfl, ti_X3, by decide +kernel, by decide⟩
theorem cw_L_52 : CW RL 52 mX3_points 2 := ⟨tc_X3_points, tbl_of 510 (by decide +kernel) rfl, ti_X3, by decide +kernel, by decide⟩
theorem cw_X3_84 : CW RX3 84 mX3_pointsOf 2 := ⟨tc_X3_pointsOf, tbl_of 514 (by decide +kernel) rfl, ti_X3, by decide +kernel, by decide⟩
theorem cw_L_56 : CW RL 56 mX3_mark 3 := ⟨tc_X3_mark, tbl_of 518 (by decide +kernel) rfl, ti_X3, by decide +kernel, by decide⟩
theorem cw_X3_87 : CW RX3 87 mX3_isMarker 1 := ⟨tc_X3_isMarker, tbl_of 522 (by decide +kernel) rfl, ti_X3, by decide +kernel, by decide⟩
theorem cw_X3_90 : CW RX3 90 mX3_isMark 1 := ⟨tc_X3_isMark, tbl_of 525 (by decide +kernel) rfl, ti_X3, by decide +kernel, by decide⟩
theorem cw_L_60 : CW RL 60 mX3_given 2 := ⟨tc_X3_given, tbl_of 528 (by decide +kernel) rfl, ti_X3, by decide +kernel, by decide⟩
theorem cw_L_64 : CW RL 64 mX3_like 3 := ⟨tc_X3_like, tbl_of 532 (by decide +kernel) rfl, ti_X3, by decide +kernel, by decide⟩
theorem cw_X3_97 : CW RX3 97 mX3_both 3 := ⟨tc_X3_both, tbl_of 536 (by decide +kernel) rfl, ti_X3, by decide +kernel, by decide⟩
theorem cw_X3_100 : CW RX3 100 mX3_times 3 := ⟨tc_X3_times, tbl_of 540 (by decide +kernel) rfl, ti_X3, by decide +kernel, by decide⟩
theorem cw_X3_104 : CW RX3 104 mX3_common 2 := ⟨tc_X3_common, tbl_of 544 (by decide +kernel) rfl, ti_X3, by decide +kernel, by decide⟩
theorem cw_X3_93 : CW RX3 93 mX3_size 1 := ⟨tc_X3_size, tbl_of 547 (by decide +kernel) rfl, ti_X3, by decide +kernel, by decide⟩
theorem cw_L_68 : CW RL 68 mX3_parts 2 := ⟨tc_X3_parts, tbl_of 550 (by decide +kernel) rfl, ti_X3, by decide +kernel, by decide⟩
theorem cw_L_72 : CW RL 72 mX3_anchor 2 := ⟨tc_X3_anchor, tbl_of 554 (by decide +kernel) rfl, ti_X3, by decide +kernel, by decide⟩
theorem cw_L_76 : CW RL 76 mX3_off 2 := ⟨tc_X3_off, tbl_of 558 (by decide +kernel) rfl, ti_X3, by decide +kernel, by decide⟩
theorem cw_X3_113 : CW RX3 113 mX3_findOff 1 := ⟨tc_X3_findOff, tbl_of 562 (by decide +kernel) rfl, ti_X3, by decide +kernel, by decide⟩
theorem cw_L_80 : CW RL 80 mX3_fair 2 := ⟨tc_X3_fair, tbl_of 566 (by decide +kernel) rfl, ti_X3, by decide +kernel, by decide⟩
theorem cw_L_84 : CW RL 84 mX3_drift 2 := ⟨tc_X3_drift, tbl_of 570 (by decide +kernel) rfl, ti_X3, by decide +kernel, by decide⟩
theorem cw_X3_120 : CW RX3 120 mX3_collect 1 := ⟨tc_X3_collect, tbl_of 574 (by decide +kernel) rfl, ti_X3, by decide +kernel, by decide⟩
theorem cw_X3_123 : CW RX3 123 mX3_drifts 0 := ⟨tc_X3_drifts, tbl_of 578 (by decide +kernel) rfl, ti_X3, by decide +kernel, by decide⟩
theorem cw_X3_127 : CW RX3 127 mX3_take 1 := ⟨tc_X3_take, tbl_of 582 (by decide +kernel) rfl, ti_X3, by decide +kernel, by decide⟩
theorem cw_L_89 : CW RL 89 mX3_moves 1 := ⟨tc_X3_moves, tbl_of 586 (by decide +kernel) rfl, ti_X3, by decide +kernel, by decide⟩
theorem cw_L_93 : CW RL 93 mX3_copy 1 := ⟨tc_X3_copy, tbl_of 590 (by decide +kernel) rfl, ti_X3, by decide +kernel, by decide⟩
theorem cw_X3_130 : CW RX3 130 mX3_become 5 := ⟨tc_X3_become, tbl_of 594 (by decide +kernel) rfl, ti_X3, by decide +kernel, by decide⟩
theorem cw_L_97 : CW RL 97 mX3_count 1 := ⟨tc_X3_count, tbl_of 598 (by decide +kernel) rfl, ti_X3, by decide +kernel, by decide⟩
theorem cw_L_102 : CW RL 102 mX3_trace 0 := ⟨tc_X3_trace, tbl_of 602 (by decide +kernel) rfl, ti_X3, by decide +kernel, by decide⟩
end
section
/-! RULES FOR COUNTED NUMBERS (nI) AND FOR CALLS WHOSE ANSWER IS KNOWN -/
def Qf (r0 : Option Value) (h0 : List va_E) : QQ := fun r h => r = r0 ∧ h = h0
section RULES
variable {G : GG} {M : MI} {R : Room} {Z : ZZ} {S : SS} {pc pc' tgt : Nat} {lv : List (Option Value)} {st : List Value} {hp : List va_E} {kc ks : Nat}
theorem v_top {x y : Int32} (h : x = y) (k : V G M R Z S pc lv (.int y :: st) hp kc ks) : V G M R Z S pc lv (.int x :: st) hp kc ks := h ▸ k
theorem v_hp {hp' : List va_E} (h : hp = hp') (k : V G M R Z S pc lv st hp' kc ks) : V G M R Z S pc lv st hp kc ks := h ▸ k
theorem v_iaddN {a b : Nat} (hd : decode M.2.1 pc = .ok (.iadd, 1)) (hn : pc + 1 = pc') (k : V G M R Z S pc' lv (.int (nI (a + b)) :: st) hp kc ks) : V G M R Z S pc lv (.int (nI b) :: .int (nI a) :: st) hp kc ks := v_iadd hd hn (v_top (nI_add a b) k)
theorem v_imulN {a b : Nat} (hd : decode M.2.1 pc = .ok (.imul, 1)) (hn : pc + 1 = pc') (k : V G M R Z S pc' lv (.int (nI (a * b)) :: st) hp kc ks) : V G M R Z S pc lv (.int (nI b) :: .int (nI a) :: st) hp kc ks := v_imul hd hn (v_top (pk_mul a b) k)
theorem v_isubN {a b : Nat} (hd : decode M.2.1 pc = .ok (.isub, 1)) (h : b ≤ a) (hn : pc + 1 = pc') (k : V G M R Z S pc' lv (.int (nI (a - b)) :: st) hp kc ks) : V G M R Z S pc lv (.int (nI b) :: .int (nI a) :: st) hp kc ks := v_isub hd hn (v_top (pk_sub h) k)
theorem v_iremN {a b : Nat} (hd : decode M.2.1 pc = .ok (.irem, 1)) (ha : a < 2 ^ 31) (h0 : 0 < b) (hb : b < 2 ^ 31) (hn : pc + 1 = pc') (k : V G M R Z S pc' lv (.int (nI (a % b)) :: st) hp kc ks) : V G M R Z S pc lv (.int (nI b) :: .int (nI a) :: st) hp kc ks := v_irem hd (nI_ne0 h0 hb) hn (v_top (pk_rem ha h0 hb) k)
theorem v_idivN {a b : Nat} (hd : decode M.2.1 pc = .ok (.idiv, 1)) (ha : a < 2 ^ 31) (h0 : 0 < b) (hb : b < 2 ^ 31) (hn : pc + 1 = pc') (k : V G M R Z S pc' lv (.int (nI (a / b)) :: st) hp kc ks) : V G M R Z S pc lv (.int (nI b) :: .int (nI a) :: st) hp kc ks := v_idiv hd (nI_ne0 h0 hb) hn (v_top (pk_div ha h0 hb) k)
theorem v_iinc1 {i a : Nat} (hd : decode M.2.1 pc = .ok (.iinc i 1, 3)) (hx : lget lv i = some (.int (nI a))) (hi : i < M.2.2.1) (hn : pc + 3 = pc') (k : V G M R Z S pc' (lv.set i (some (.int (nI (a + 1))))) st hp kc ks) : V G M R Z S pc lv st hp kc ks := v_iinc hd hx (nI_1 a) hi hn k
theorem v_iincM {i a : Nat} (hd : decode M.2.1 pc = .ok (.iinc i (-1), 3)) (hx : lget lv i = some (.int (nI (a + 1)))) (hi : i < M.2.2.1) (hn : pc + 3 = pc') (k : V G M R Z S pc' (lv.set i (some (.int (nI a)))) st hp kc ks) : V G M R Z S pc lv st hp kc ks := v_iinc hd hx (pk_m1 a) hi hn k
theorem v_icmp_eqN {a b : Nat} {off : Int} (hd : decode M.2.1 pc = .ok (.if_icmp .eq off, 3)) (ht : (pc : Int) + off = (tgt : Int)) (hn : pc + 3 = pc') (ha : a < 2 ^ 31) (hb : b < 2 ^ 31) (kt : a = b → V G M R Z S tgt lv st hp kc ks) (kf : ¬ a = b → V G M R Z S pc' lv st hp kc ks) : V G M R Z S pc lv (.int (nI b) :: .int (nI a) :: st) hp kc ks := v_icmp_eq hd ht hn (fun h => kt ((nI_eq ha hb).mp h)) (fun h => kf (fun q => h ((nI_eq ha hb).mpr q)))
theorem v_icmp_neN {a b : Nat} {off : Int} (hd : decode M.2.1 pc = .ok (.if_icmp .ne off, 3)) (ht : (pc : Int) + off = (tgt : Int)) (hn : pc + 3 = pc') (ha : a < 2 ^ 31) (hb : b < 2 ^ 31) (kt : ¬ a = b → V G M R Z S tgt lv st hp kc ks) (kf : a = b → V G M R Z S pc' lv st hp kc ks) : V G M R Z S pc lv (.int (nI b) :: .int (nI a) :: st) hp kc ks := v_icmp_ne hd ht hn (fun h => kt (fun q => h ((nI_eq ha hb).mpr q))) (fun h => kf ((nI_eq ha hb).mp h))
theorem v_icmp_ltN {a b : Nat} {off : Int} (hd : decode M.2.1 pc = .ok (.if_icmp .lt off, 3)) (ht : (pc : Int) + off = (tgt : Int)) (hn : pc + 3 = pc') (ha : a < 2 ^ 31) (hb : b < 2 ^ 31) (kt : a < b → V G M R Z S tgt lv st hp kc ks) (kf : b ≤ a → V G M R Z S pc' lv st hp kc ks) : V G M R Z S pc lv (.int (nI b) :: .int (nI a) :: st) hp kc ks := v_icmp_lt hd ht hn (fun h => kt ((nI_ltI ha hb).mp h)) (fun h => kf (Nat.not_lt.mp (fun q => h ((nI_ltI ha hb).mpr q))))
theorem v_icmp_geN {a b : Nat} {off : Int} (hd : decode M.2.1 pc = .ok (.if_icmp .ge off, 3)) (ht : (pc : Int) + off = (tgt : Int)) (hn : pc + 3 = pc') (ha : a < 2 ^ 31) (hb : b < 2 ^ 31) (kt : b ≤ a → V G M R Z S tgt lv st hp kc ks) (kf : a < b → V G M R Z S pc' lv st hp kc ks) : V G M R Z S pc lv (.int (nI b) :: .int (nI a) :: st) hp kc ks := v_icmp_ge hd ht hn (fun h => kt ((nI_leI hb ha).mp h)) (fun h => kf (Nat.not_le.mp (fun q => h ((nI_leI hb ha).mpr q))))
theorem v_icmp_gtN {a b : Nat} {off : Int} (hd : decode M.2.1 pc = .ok (.if_icmp .gt off, 3)) (ht : (pc : Int) + off = (tgt : Int)) (hn : pc + 3 = pc') (ha : a < 2 ^ 31) (hb : b < 2 ^ 31) (kt : b < a → V G M R Z S tgt lv st hp kc ks) (kf : a ≤ b → V G M R Z S pc' lv st hp kc ks) : V G M R Z S pc lv (.int (nI b) :: .int (nI a) :: st) hp kc ks := v_icmp_gt hd ht hn (fun h => kt ((nI_ltI hb ha).mp h)) (fun h => kf (Nat.not_lt.mp (fun q => h ((nI_ltI hb ha).mpr q))))
theorem v_icmp_leN {a b : Nat} {off : Int} (hd : decode M.2.1 pc = .ok (.if_icmp .le off, 3)) (ht : (pc : Int) + off = (tgt : Int)) (hn : pc + 3 = pc') (ha : a < 2 ^ 31) (hb : b < 2 ^ 31) (kt : a ≤ b → V G M R Z S tgt lv st hp kc ks) (kf : b < a → V G M R Z S pc' lv st hp kc ks) : V G M R Z S pc lv (.int (nI b) :: .int (nI a) :: st) hp kc ks := v_icmp_le hd ht hn (fun h => kt ((nI_leI ha hb).mp h)) (fun h => kf (Nat.not_le.mp (fun q => h ((nI_leI ha hb).mpr q))))
theorem v_if_eqN {a : Nat} {off : Int} (hd : decode M.2.1 pc = .ok (.ifCond .eq off, 3)) (ht : (pc : Int) + off = (tgt : Int)) (hn : pc + 3 = pc') (ha : a < 2 ^ 31) (kt : a = 0 → V G M R Z S tgt lv st hp kc ks) (kf : ¬ a = 0 → V G M R Z S pc' lv st hp kc ks) : V G M R Z S pc lv (.int (nI a) :: st) hp kc ks := v_if_eq hd ht hn (fun h => kt ((nI_eq ha (by decide)).mp (h.trans nI_0.symm))) (fun h => kf (fun q => h (by rw [q]; rfl)))
theorem v_if_neN {a : Nat} {off : Int} (hd : decode M.2.1 pc = .ok (.ifCond .ne off, 3)) (ht : (pc : Int) + off = (tgt : Int)) (hn : pc + 3 = pc') (ha : a < 2 ^ 31) (kt : ¬ a = 0 → V G M R Z S tgt lv st hp kc ks) (kf : a = 0 → V G M R Z S pc' lv st hp kc ks) : V G M R Z S pc lv (.int (nI a) :: st) hp kc ks := v_if_ne hd ht hn (fun h => kt (fun q => h (by rw [q]; rfl))) (fun h => kf ((nI_eq ha (by decide)).mp (h.trans nI_0.symm)))
theorem v_if_ltN {a : Nat} {off : Int} (hd : decode M.2.1 pc = .ok (.ifCond .lt off, 3)) (ht : (pc : Int) + off = (tgt : Int)) (hn : pc + 3 = pc') (ha : a < 2 ^ 31) (k : V G M R Z S pc' lv st hp kc ks) : V G M R Z S pc lv (.int (nI a) :: st) hp kc ks := v_if_lt hd ht hn (fun h => absurd h (nI_pos ha)) (fun _ => k)
theorem v_if_geN {a : Nat} {off : Int} (hd : decode M.2.1 pc = .ok (.ifCond .ge off, 3)) (ht : (pc : Int) + off = (tgt : Int)) (ha : a < 2 ^ 31) (k : V G M R Z S tgt lv st hp kc ks) : V G M R Z S pc lv (.int (nI a) :: st) hp kc ks := v_if_ge hd ht rfl (fun _ => k) (fun h => absurd (nI_pos' ha) h)
theorem v_if_gtN {a : Nat} {off : Int} (hd : decode M.2.1 pc = .ok (.ifCond .gt off, 3)) (ht : (pc : Int) + off = (tgt : Int)) (hn : pc + 3 = pc') (ha : a < 2 ^ 31) (kt : 0 < a → V G M R Z S tgt lv st hp kc ks) (kf : a = 0 → V G M R Z S pc' lv st hp kc ks) : V G M R Z S pc lv (.int (nI a) :: st) hp kc ks := v_if_gt hd ht hn (fun h => kt (Nat.pos_of_ne_zero (fun q => absurd h (by rw [q]; decide)))) (fun h => kf (Nat.eq_zero_of_not_pos (fun q => h (by have := (nI_ltI (a := 0) (by decide) ha).mpr q; exact this))))
theorem v_if_leN {a : Nat} {off : Int} (hd : decode M.2.1 pc = .ok (.ifCond .le off, 3)) (ht : (pc : Int) + off = (tgt : Int)) (hn : pc + 3 = pc') (ha : a < 2 ^ 31) (kt : a = 0 → V G M R Z S tgt lv st hp kc ks) (kf : 0 < a → V G M R Z S pc' lv st hp kc ks) : V G M R Z S pc lv (.int (nI a) :: st) hp kc ks := v_if_le hd ht hn (fun h => kt (Nat.eq_zero_of_not_pos (fun q => nI_nle q ha h))) (fun h => kf (Nat.pos_of_ne_zero (fun q => h (by rw [q]; decide))))
theorem v_icmp_gtA {x y : Int32} {off : Int} (hd : decode M.2.1 pc = .ok (.if_icmp .gt off, 3)) (ht : (pc : Int) + off = (tgt : Int)) (hn : pc + 3 = pc') (kt : ¬ x ≤ y → V G M R Z S tgt lv st hp kc ks) (kf : x ≤ y → V G M R Z S pc' lv st hp kc ks) : V G M R Z S pc lv (.int y :: .int x :: st) hp kc ks := v_icmp_gt hd ht hn (fun h => kt (Int32.not_le.mpr h)) (fun h => kf (Int32.not_lt.mp h))
theorem v_icmp_ltA {x y : Int32} {off : Int} (hd : decode M.2.1 pc = .ok (.if_icmp .lt off, 3)) (ht : (pc : Int) + off = (tgt : Int)) (hn : pc + 3 = pc') (kt : ¬ y ≤ x → V G M R Z S tgt lv st hp kc ks) (kf : y ≤ x → V G M R Z S pc' lv st hp kc ks) : V G M R Z S pc lv (.int y :: .int x :: st) hp kc ks := v_icmp_lt hd ht hn (fun h => kt (Int32.not_le.mpr h)) (fun h => kf (Int32.not_lt.mp h))
theorem v_if_gtA {x : Int32} {off : Int} (hd : decode M.2.1 pc = .ok (.ifCond .gt off, 3)) (ht : (pc : Int) + off = (tgt : Int)) (hn : pc + 3 = pc') (kt : ¬ x ≤ 0 → V G M R Z S tgt lv st hp kc ks) (kf : x ≤ 0 → V G M R Z S pc' lv st hp kc ks) : V G M R Z S pc lv (.int x :: st) hp kc ks := v_if_gt hd ht hn (fun h => kt (Int32.not_le.mpr h)) (fun h => kf (Int32.not_lt.mp h))
theorem v_if_ltA {x : Int32} {off : Int} (hd : decode M.2.1 pc = .ok (.ifCond .lt off, 3)) (ht : (pc : Int) + off = (tgt : Int)) (hn : pc + 3 = pc') (kt : ¬ 0 ≤ x → V G M R Z S tgt lv st hp kc ks) (kf : 0 ≤ x → V G M R Z S pc' lv st hp kc ks) : V G M R Z S pc lv (.int x :: st) hp kc ks := v_if_lt hd ht hn (fun h => kt (Int32.not_le.mpr h)) (fun h => kf (Int32.not_lt.mp h))
theorem v_csf {index n d mc ms : Nat} {N : MI} {As rest : List Value} {v : Value} {hp' : List va_E} (hd : decode M.2.1 pc = .ok (.invokestatic index, 3)) (hcw : CW M.1.cls index N n) (hst : Cond.static N.1 ∈ tbl) (hM : Ct G N d mc ms As hp (Qf (some v) hp')) (hlen : As.length = n) (hstk : st = As.reverse ++ rest) (hW : (rest.map fun v => v.category).sum ≤ 8) (hf : d + 1 ≤ R.frames) (hlo : 48 * d + 48 ≤ R.locals) (hc1 : kc + mc ≤ R.cells) (hc2 : ks + ms ≤ R.slots) (hn : pc + 3 = pc') (kk : V G M R Z S pc' lv (v :: rest) hp' (kc + mc) (ks + ms)) : V G M R Z S pc lv st hp kc ks := v_cs hd hcw hst hM hlen hstk hW hf hlo hc1 hc2 hn (fun r h q => by obtain ⟨rfl, rfl⟩ := q; exact kk)
theorem v_cvf {index n d mc ms i ci : Nat} {fs : List Value} {N : MI} {As rest : List Value} {v : Value} {hp' : List va_E} (hd : decode M.2.1 pc = .ok (.invokevirtual index, 3)) (hcw : CW M.1.cls index N n) (hst : Cond.instanceMethod N.1 ∈ tbl ∧ Cond.selects N.1.cls N.1 N.1 ∈ tbl) (hrc : (vwCl[ci]?).map (fun q => q.1) = some N.1.cls) (he : hp[i]? = some (ob ci fs)) (hM : Ct G N d mc ms (.ref (G.2.2.2 + i) :: As) hp (Qf (some v) hp')) (hlen : As.length = n) (hstk : st = As.reverse ++ .ref (G.2.2.2 + i) :: rest) (hW : (rest.map fun v => v.category).sum ≤ 8) (hf : d + 1 ≤ R.frames) (hlo : 48 * d + 48 ≤ R.locals) (hc1 : kc + mc ≤ R.cells) (hc2 : ks + ms ≤ R.slots) (hn : pc + 3 = pc') (kk : V G M R Z S pc' lv (v :: rest) hp' (kc + mc) (ks + ms)) : V G M R Z S pc lv st hp kc ks := v_cv hd hcw hst hrc he hM hlen hstk hW hf hlo hc1 hc2 hn (fun r h q => by obtain ⟨rfl, rfl⟩ := q; exact kk)
theorem v_cvn {index n d mc ms i ci : Nat} {fs : List Value} {N : MI} {As rest : List Value} {hp' : List va_E} (hd : decode M.2.1 pc = .ok (.invokevirtual index, 3)) (hcw : CW M.1.cls index N n) (hst : Cond.instanceMethod N.1 ∈ tbl ∧ Cond.selects N.1.cls N.1 N.1 ∈ tbl) (hrc : (vwCl[ci]?).map (fun q => q.1) = some N.1.cls) (he : hp[i]? = some (ob ci fs)) (hM : Ct G N d mc ms (.ref (G.2.2.2 + i) :: As) hp (Qf none hp')) (hlen : As.length = n) (hstk : st = As.reverse ++ .ref (G.2.2.2 + i) :: rest) (hW : (rest.map fun v => v.category).sum ≤ 8) (hf : d + 1 ≤ R.frames) (hlo : 48 * d + 48 ≤ R.locals) (hc1 : kc + mc ≤ R.cells) (hc2 : ks + ms ≤ R.slots) (hn : pc + 3 = pc') (kk : V G M R Z S pc' lv rest hp' (kc + mc) (ks + ms)) : V G M R Z S pc lv st hp kc ks := v_cv hd hcw hst hrc he hM hlen hstk hW hf hlo hc1 hc2 hn (fun r h q => by obtain ⟨rfl, rfl⟩ := q; exact kk)
theorem v_cin {index n d mc ms i : Nat} {N : MI} {As rest : List Value} {hp' : List va_E} (hd : decode M.2.1 pc = .ok (.invokespecial index, 3)) (hcw : CW M.1.cls index N n) (hst : N.1.name = "<init>" ∧ Cond.instanceMethod N.1 ∈ tbl) (hret : N.2.2.2 = none) (hM : Ct G N d mc ms (.ref i :: As) hp (Qf none hp')) (hlen : As.length = n) (hstk : st = As.reverse ++ .ref i :: rest) (hW : (rest.map fun v => v.category).sum ≤ 8) (hf : d + 1 ≤ R.frames) (hlo : 48 * d + 48 ≤ R.locals) (hc1 : kc + mc ≤ R.cells) (hc2 : ks + ms ≤ R.slots) (hn : pc + 3 = pc') (kk : V G M R Z S pc' lv rest hp' (kc + mc) (ks + ms)) : V G M R Z S pc lv st hp kc ks := v_ci hd hcw hst hret hM hlen hstk hW hf hlo hc1 hc2 hn (fun r h q => by obtain ⟨rfl, rfl⟩ := q; exact kk)
end RULES
/-- in range: 0 .. n - 1 -/
abbrev InR (x : Int32) (n : Nat) : Prop := 0 ≤ x ∧ ¬ nI n ≤ x
theorem i_toInt {n : Nat} (h : n < 2 ^ 31) : (nI n).toInt = n := nI_toInt h
theorem inR_of {x : Int32} {n : Nat} (hn : n < 2 ^ 31) (h : InR x n) : ∃ j, j < n ∧ x = nI j := by
  have h1 := Int32.le_iff_toInt_le.mp h.1
  obtain ⟨j, hj, rfl⟩ := nI_of (x := x) (fun q => by
    have h2 := Int32.lt_iff_toInt_lt.mp q
    omega)
  exact ⟨j, Nat.not_le.mp (fun q => h.2 (nI_le q hj)), rfl⟩
theorem inR_nI {j n : Nat} (hj : j < n) (hn : n < 2 ^ 31) : InR (nI j) n := ⟨nI_pos' (by omega), fun q => absurd ((nI_leI hn (by omega)).mp q) (by omega)⟩
theorem inR_iff {j n : Nat} (hj : j < 2 ^ 31) (hn : n < 2 ^ 31) : InR (nI j) n ↔ j < n := ⟨fun h => Nat.not_le.mp (fun q => h.2 (nI_le q hj)), fun h => inR_nI h hn⟩
theorem i_le1 {x : Int32} {n : Nat} (hn : n + 1 < 2 ^ 31) : x ≤ nI n ↔ ¬ nI (n + 1) ≤ x := by
  rw [Int32.not_le, Int32.le_iff_toInt_le, Int32.lt_iff_toInt_lt, nI_toInt hn, nI_toInt (by omega)]
  omega
/-- a yes or no -/
noncomputable def bP (p : Prop) : Int32 := @ite _ p (Classical.propDecidable p) (nI 1) (nI 0)
theorem bP_t {p : Prop} (h : p) : bP p = nI 1 := if_pos h
theorem bP_f {p : Prop} (h : ¬ p) : bP p = nI 0 := if_neg h
theorem bP_c {p q : Prop} (h : p ↔ q) : bP p = bP q := by
  by_cases hp : p
  · rw [bP_t hp, bP_t (h.mp hp)]
  · rw [bP_f hp, bP_f (fun x => hp (h.mpr x))]
theorem Ct.yes {G : GG} {M : MI} {d mc ms : Nat} {av : List Value} {hp hp' : List va_E} {p : Prop} (h : Ct G M d mc ms av hp (Qf (some (.int (bP p))) hp')) (hh : p) : Ct G M d mc ms av hp (Qf (some (.int (nI 1))) hp') := by rw [bP_t hh] at h; exact h
theorem Ct.no {G : GG} {M : MI} {d mc ms : Nat} {av : List Value} {hp hp' : List va_E} {p : Prop} (h : Ct G M d mc ms av hp (Qf (some (.int (bP p))) hp')) (hh : ¬ p) : Ct G M d mc ms av hp (Qf (some (.int (nI 0))) hp') := by rw [bP_f hh] at h; exact h
theorem Ct.is {G : GG} {M : MI} {d mc ms : Nat} {av : List Value} {hp hp' : List va_E} {x y : Int32} (h : Ct G M d mc ms av hp (Qf (some (.int x)) hp')) (hh : x = y) : Ct G M d mc ms av hp (Qf (some (.int y)) hp') := by rw [hh] at h; exact h
/-- how many of the first n -/
noncomputable def cnt (p : Nat → Prop) : Nat → Nat
  | 0 => 0
  | n + 1 => @ite _ (p n) (Classical.propDecidable (p n)) (cnt p n + 1) (cnt p n)
theorem cnt_t {p : Nat → Prop} {n : Nat} (h : p n) : cnt p (n + 1) = cnt p n + 1 := if_pos h
theorem cnt_f {p : Nat → Prop} {n : Nat} (h : ¬ p n) : cnt p (n + 1) = cnt p n := if_neg h
theorem cnt_le (p : Nat → Prop) : ∀ n, cnt p n ≤ n
  | 0 => Nat.le_refl 0
  | n + 1 => by
    have := cnt_le p n
    by_cases h : p n
    · rw [cnt_t h]; omega
    · rw [cnt_f h]; omega
theorem ct_lv {av : List Value} (k : Nat) : ∀ (i : Nat) (v : Value), (av.map some ++ List.replicate k none)[i]? = some (some v) → av[i]? = some v := by
  intro i v h
  by_cases hi : i < av.length
  · rw [List.getElem?_append_left (by simpa using hi), List.getElem?_map] at h
    cases hh : av[i]? with
    | none => rw [hh] at h; cases h
    | some w => rw [hh] at h; cases h; rfl
  · rw [List.getElem?_append_right (by simpa using hi)] at h
    have := List.mem_of_getElem? h
    simp at this
theorem Ct.start {G : GG} {M : MI} {d mc ms : Nat} {av : List Value} {hp : List va_E} {Q : QQ} (k : Nat) (hy : plainFor M.1 = true) (hc : av.all (fun v => v.category == 1) = true) (hn : (lg_sl av).length ≤ M.2.2.1) (h : Vm G M d mc ms Q 0 (av.map some ++ List.replicate k none) [] hp 0 0) : Ct G M d mc ms av hp Q := Ct.of hy hc hn (ct_lv k) h
end
section
/-! LEAVES: what a number may be; Math -/
section LEAVES
variable (G : GG) (hp : List va_E)
theorem c_isBelow (x : Int32) (n : Nat) : Ct G mX2_isBelow 0 0 0 [.int x, .int (nI n)] hp (Qf (some (.int (bP (InR x n)))) hp) := by
  refine Ct.start 0 (by decide +kernel) rfl (Nat.le_of_ble_eq_true rfl) ?_
  refine v_iload_n dX2_isBelow_0 rfl rfl ?_
  refine v_if_ltA (tgt := 13) dX2_isBelow_1 (by decide) rfl (fun c1 => ?_) (fun c1 => ?_)
  · refine v_iconst (v := nI 0) dX2_isBelow_13 (by decide) rfl ?_
    exact v_zret dX2_isBelow_14 rfl (by rfl) ⟨Nat.le_of_ble_eq_true rfl, Nat.le_of_ble_eq_true rfl⟩ (⟨by first | (rw [bP_t (by grind)]; done) | (rw [bP_f (by grind)]; done), rfl⟩)
  · refine v_iload_n dX2_isBelow_4 rfl rfl ?_
    refine v_iload_n dX2_isBelow_5 rfl rfl ?_
    refine v_icmp_ge (tgt := 13) dX2_isBelow_6 (by decide) rfl (fun c6 => ?_) (fun c6 => ?_)
    · refine v_iconst (v := nI 0) dX2_isBelow_13 (by decide) rfl ?_
      exact v_zret dX2_isBelow_14 rfl (by rfl) ⟨Nat.le_of_ble_eq_true rfl, Nat.le_of_ble_eq_true rfl⟩ (⟨by first | (rw [bP_t (by grind)]; done) | (rw [bP_f (by grind)]; done), rfl⟩)
    · refine v_iconst (v := nI 1) dX2_isBelow_9 (by decide) rfl ?_
      refine v_goto (tgt := 14) dX2_isBelow_10 (by decide) ?_
      exact v_zret dX2_isBelow_14 rfl (by rfl) ⟨Nat.le_of_ble_eq_true rfl, Nat.le_of_ble_eq_true rfl⟩ (⟨by first | (rw [bP_t (by grind)]; done) | (rw [bP_f (by grind)]; done), rfl⟩)
theorem c_isUpTo (x : Int32) (n : Nat) (hn : n + 1 < 2 ^ 31) : Ct G mX2_isUpTo 0 0 0 [.int x, .int (nI n)] hp (Qf (some (.int (bP (InR x (n + 1))))) hp) := by
  refine Ct.start 0 (by decide +kernel) rfl (Nat.le_of_ble_eq_true rfl) ?_
  rw [show bP (InR x (n + 1)) = bP (0 ≤ x ∧ x ≤ nI n) from bP_c (by rw [i_le1 hn])]
  refine v_iload_n dX2_isUpTo_0 rfl rfl ?_
  refine v_if_ltA (tgt := 13) dX2_isUpTo_1 (by decide) rfl (fun c1 => ?_) (fun c1 => ?_)
  · refine v_iconst (v := nI 0) dX2_isUpTo_13 (by decide) rfl ?_
    exact v_zret dX2_isUpTo_14 rfl (by rfl) ⟨Nat.le_of_ble_eq_true rfl, Nat.le_of_ble_eq_true rfl⟩ (⟨by first | (rw [bP_t (by grind)]; done) | (rw [bP_f (by grind)]; done), rfl⟩)
  · refine v_iload_n dX2_isUpTo_4 rfl rfl ?_
    refine v_iload_n dX2_isUpTo_5 rfl rfl ?_
    refine v_icmp_gtA (tgt := 13) dX2_isUpTo_6 (by decide) rfl (fun c6 => ?_) (fun c6 => ?_)
    · refine v_iconst (v := nI 0) dX2_isUpTo_13 (by decide) rfl ?_
      exact v_zret dX2_isUpTo_14 rfl (by rfl) ⟨Nat.le_of_ble_eq_true rfl, Nat.le_of_ble_eq_true rfl⟩ (⟨by first | (rw [bP_t (by grind)]; done) | (rw [bP_f (by grind)]; done), rfl⟩)
    · refine v_iconst (v := nI 1) dX2_isUpTo_9 (by decide) rfl ?_
      refine v_goto (tgt := 14) dX2_isUpTo_10 (by decide) ?_
      exact v_zret dX2_isUpTo_14 rfl (by rfl) ⟨Nat.le_of_ble_eq_true rfl, Nat.le_of_ble_eq_true rfl⟩ (⟨by first | (rw [bP_t (by grind)]; done) | (rw [bP_f (by grind)]; done), rfl⟩)
theorem c_isMarkOrNone (x : Int32) : Ct G mX2_isMarkOrNone 1 0 0 [.int x] hp (Qf (some (.int (bP (x = -900 ∨ InR x 4)))) hp) := by
  refine Ct.start 0 (by decide +kernel) rfl (Nat.le_of_ble_eq_true rfl) ?_
  refine v_iload_n dX2_isMarkOrNone_0 rfl rfl ?_
  refine v_sipush (v := (-900)) dX2_isMarkOrNone_1 (by decide) rfl ?_
  refine v_icmp_eq (tgt := 15) dX2_isMarkOrNone_4 (by decide) rfl (fun c4 => ?_) (fun c4 => ?_)
  · refine v_iconst (v := nI 1) dX2_isMarkOrNone_15 (by decide) rfl ?_
    refine v_goto (tgt := 20) dX2_isMarkOrNone_16 (by decide) ?_
    exact v_zret dX2_isMarkOrNone_20 rfl (by rfl) ⟨Nat.le_of_ble_eq_true rfl, Nat.le_of_ble_eq_true rfl⟩ (⟨by first | (rw [bP_t (by grind)]; done) | (rw [bP_f (by grind)]; done), rfl⟩)
  · refine v_iload_n dX2_isMarkOrNone_7 rfl rfl ?_
    refine v_iconst (v := nI 4) dX2_isMarkOrNone_8 (by decide) rfl ?_
    by_cases q9 : InR x 4
    · refine v_csf dX2_isMarkOrNone_9 cw_X2_49 ts_X2_isBelow ((c_isBelow G hp x 4).yes ‹_›) (by rfl) (by rfl) (Nat.le_of_ble_eq_true rfl) (Nat.le_of_ble_eq_true rfl) (Nat.le_of_ble_eq_true rfl) (Nat.le_of_ble_eq_true rfl) (Nat.le_of_ble_eq_true rfl) rfl ?_
      refine v_if_eq (tgt := 19) dX2_isMarkOrNone_12 (by decide) rfl (fun q => absurd q (by decide)) (fun _ => ?_)
      refine v_iconst (v := nI 1) dX2_isMarkOrNone_15 (by decide) rfl ?_
      refine v_goto (tgt := 20) dX2_isMarkOrNone_16 (by decide) ?_
      exact v_zret dX2_isMarkOrNone_20 rfl (by rfl) ⟨Nat.le_of_ble_eq_true rfl, Nat.le_of_ble_eq_true rfl⟩ (⟨by first | (rw [bP_t (by grind)]; done) | (rw [bP_f (by grind)]; done), rfl⟩)
    · refine v_csf dX2_isMarkOrNone_9 cw_X2_49 ts_X2_isBelow ((c_isBelow G hp x 4).no ‹_›) (by rfl) (by rfl) (Nat.le_of_ble_eq_true rfl) (Nat.le_of_ble_eq_true rfl) (Nat.le_of_ble_eq_true rfl) (Nat.le_of_ble_eq_true rfl) (Nat.le_of_ble_eq_true rfl) rfl ?_
      refine v_if_eq (tgt := 19) dX2_isMarkOrNone_12 (by decide) rfl (fun _ => ?_) (fun q => absurd (by decide) q)
      refine v_iconst (v := nI 0) dX2_isMarkOrNone_19 (by decide) rfl ?_
      exact v_zret dX2_isMarkOrNone_20 rfl (by rfl) ⟨Nat.le_of_ble_eq_true rfl, Nat.le_of_ble_eq_true rfl⟩ (⟨by first | (rw [bP_t (by grind)]; done) | (rw [bP_f (by grind)]; done), rfl⟩)
theorem c_areTwoMarkers (x y : Int32) : Ct G mX2_areTwoMarkers 1 0 0 [.int x, .int y] hp (Qf (some (.int (bP (InR x 3 ∧ InR y 3 ∧ ¬ x = y)))) hp) := by
  refine Ct.start 0 (by decide +kernel) rfl (Nat.le_of_ble_eq_true rfl) ?_
  refine v_iload_n dX2_areTwoMarkers_0 rfl rfl ?_
  refine v_iconst (v := nI 3) dX2_areTwoMarkers_1 (by decide) rfl ?_
  by_cases q2 : InR x 3
  · refine v_csf dX2_areTwoMarkers_2 cw_X2_49 ts_X2_isBelow ((c_isBelow G hp x 3).yes ‹_›) (by rfl) (by rfl) (Nat.le_of_ble_eq_true rfl) (Nat.le_of_ble_eq_true rfl) (Nat.le_of_ble_eq_true rfl) (Nat.le_of_ble_eq_true rfl) (Nat.le_of_ble_eq_true rfl) rfl ?_
    refine v_if_eq (tgt := 25) dX2_areTwoMarkers_5 (by decide) rfl (fun q => absurd q (by decide)) (fun _ => ?_)
    refine v_iload_n dX2_areTwoMarkers_8 rfl rfl ?_
    refine v_iconst (v := nI 3) dX2_areTwoMarkers_9 (by decide) rfl ?_
    by_cases q10 : InR y 3
    · refine v_csf dX2_areTwoMarkers_10 cw_X2_49 ts_X2_isBelow ((c_isBelow G hp y 3).yes ‹_›) (by rfl) (by rfl) (Nat.le_of_ble_eq_true rfl) (Nat.le_of_ble_eq_true rfl) (Nat.le_of_ble_eq_true rfl) (Nat.le_of_ble_eq_true rfl) (Nat.le_of_ble_eq_true rfl) rfl ?_
      refine v_if_eq (tgt := 25) dX2_areTwoMarkers_13 (by decide) rfl (fun q => absurd q (by decide)) (fun _ => ?_)
      refine v_iload_n dX2_areTwoMarkers_16 rfl rfl ?_
      refine v_iload_n dX2_areTwoMarkers_17 rfl rfl ?_
      refine v_icmp_eq (tgt := 25) dX2_areTwoMarkers_18 (by decide) rfl (fun c18 => ?_) (fun c18 => ?_)
      · refine v_iconst (v := nI 0) dX2_areTwoMarkers_25 (by decide) rfl ?_
        exact v_zret dX2_areTwoMarkers_26 rfl (by rfl) ⟨Nat.le_of_ble_eq_true rfl, Nat.le_of_ble_eq_true rfl⟩ (⟨by first | (rw [bP_t (by grind)]; done) | (rw [bP_f (by grind)]; done), rfl⟩)
      · refine v_iconst (v := nI 1) dX2_areTwoMarkers_21 (by decide) rfl ?_
        refine v_goto (tgt := 26) dX2_areTwoMarkers_22 (by decide) ?_
        exact v_zret dX2_areTwoMarkers_26 rfl (by rfl) ⟨Nat.le_of_ble_eq_true rfl, Nat.le_of_ble_eq_true rfl⟩ (⟨by first | (rw [bP_t (by grind)]; done) | (rw [bP_f (by grind)]; done), rfl⟩)
    · refine v_csf dX2_areTwoMarkers_10 cw_X2_49 ts_X2_isBelow ((c_isBelow G hp y 3).no ‹_›) (by rfl) (by rfl) (Nat.le_of_ble_eq_true rfl) (Nat.le_of_ble_eq_true rfl) (Nat.le_of_ble_eq_true rfl) (Nat.le_of_ble_eq_true rfl) (Nat.le_of_ble_eq_true rfl) rfl ?_
      refine v_if_eq (tgt := 25) dX2_areTwoMarkers_13 (by decide) rfl (fun _ => ?_) (fun q => absurd (by decide) q)
      refine v_iconst (v := nI 0) dX2_areTwoMarkers_25 (by decide) rfl ?_
      exact v_zret dX2_areTwoMarkers_26 rfl (by rfl) ⟨Nat.le_of_ble_eq_true rfl, Nat.le_of_ble_eq_true rfl⟩ (⟨by first | (rw [bP_t (by grind)]; done) | (rw [bP_f (by grind)]; done), rfl⟩)
  · refine v_csf dX2_areTwoMarkers_2 cw_X2_49 ts_X2_isBelow ((c_isBelow G hp x 3).no ‹_›) (by rfl) (by rfl) (Nat.le_of_ble_eq_true rfl) (Nat.le_of_ble_eq_true rfl) (Nat.le_of_ble_eq_true rfl) (Nat.le_of_ble_eq_true rfl) (Nat.le_of_ble_eq_true rfl) rfl ?_
    refine v_if_eq (tgt := 25) dX2_areTwoMarkers_5 (by decide) rfl (fun _ => ?_) (fun q => absurd (by decide) q)
    refine v_iconst (v := nI 0) dX2_areTwoMarkers_25 (by decide) rfl ?_
    exact v_zret dX2_areTwoMarkers_26 rfl (by rfl) ⟨Nat.le_of_ble_eq_true rfl, Nat.le_of_ble_eq_true rfl⟩ (⟨by first | (rw [bP_t (by grind)]; done) | (rw [bP_f (by grind)]; done), rfl⟩)
theorem c_in (x a b : Int32) : Ct G mX3_in 0 0 0 [.int x, .int a, .int b] hp (Qf (some (.int (bP (a ≤ x ∧ x ≤ b)))) hp) := by
  refine Ct.start 0 (by decide +kernel) rfl (Nat.le_of_ble_eq_true rfl) ?_
  refine v_iload_n dX3_in_0 rfl rfl ?_
  refine v_iload_n dX3_in_1 rfl rfl ?_
  refine v_icmp_ltA (tgt := 14) dX3_in_2 (by decide) rfl (fun c2 => ?_) (fun c2 => ?_)
  · refine v_iconst (v := nI 0) dX3_in_14 (by decide) rfl ?_
    exact v_zret dX3_in_15 rfl (by rfl) ⟨Nat.le_of_ble_eq_true rfl, Nat.le_of_ble_eq_true rfl⟩ (⟨by first | (rw [bP_t (by grind)]; done) | (rw [bP_f (by grind)]; done), rfl⟩)
  · refine v_iload_n dX3_in_5 rfl rfl ?_
    refine v_iload_n dX3_in_6 rfl rfl ?_
    refine v_icmp_gtA (tgt := 14) dX3_in_7 (by decide) rfl (fun c7 => ?_) (fun c7 => ?_)
    · refine v_iconst (v := nI 0) dX3_in_14 (by decide) rfl ?_
      exact v_zret dX3_in_15 rfl (by rfl) ⟨Nat.le_of_ble_eq_true rfl, Nat.le_of_ble_eq_true rfl⟩ (⟨by first | (rw [bP_t (by grind)]; done) | (rw [bP_f (by grind)]; done), rfl⟩)
    · refine v_iconst (v := nI 1) dX3_in_10 (by decide) rfl ?_
      refine v_goto (tgt := 15) dX3_in_11 (by decide) ?_
      exact v_zret dX3_in_15 rfl (by rfl) ⟨Nat.le_of_ble_eq_true rfl, Nat.le_of_ble_eq_true rfl⟩ (⟨by first | (rw [bP_t (by grind)]; done) | (rw [bP_f (by grind)]; done), rfl⟩)
theorem c_in0 (x : Int32) (n : Nat) (hn : n + 1 < 2 ^ 31) : Ct G mX3_in 0 0 0 [.int x, .int (nI 0), .int (nI n)] hp (Qf (some (.int (bP (InR x (n + 1))))) hp) := by
  have h := c_in G hp x (nI 0) (nI n)
  rw [show bP (nI 0 ≤ x ∧ x ≤ nI n) = bP (InR x (n + 1)) from bP_c (by rw [i_le1 hn]; rfl)] at h
  exact h
theorem c_isLine (x y : Int32) : Ct G mX3_isLine 1 0 0 [.int x, .int y] hp (Qf (some (.int (bP (InR x 2 ∧ InR y 4)))) hp) := by
  refine Ct.start 0 (by decide +kernel) rfl (Nat.le_of_ble_eq_true rfl) ?_
  refine v_iload_n dX3_isLine_0 rfl rfl ?_
  refine v_iconst (v := nI 0) dX3_isLine_1 (by decide) rfl ?_
  refine v_iconst (v := nI 1) dX3_isLine_2 (by decide) rfl ?_
  by_cases q3 : InR x 2
  · refine v_csf dX3_isLine_3 cw_X3_40 ts_X3_in ((c_in0 G hp x 1 (by decide)).yes ‹_›) (by rfl) (by rfl) (Nat.le_of_ble_eq_true rfl) (Nat.le_of_ble_eq_true rfl) (Nat.le_of_ble_eq_true rfl) (Nat.le_of_ble_eq_true rfl) (Nat.le_of_ble_eq_true rfl) rfl ?_
    refine v_if_eq (tgt := 22) dX3_isLine_6 (by decide) rfl (fun q => absurd q (by decide)) (fun _ => ?_)
    refine v_iload_n dX3_isLine_9 rfl rfl ?_
    refine v_iconst (v := nI 0) dX3_isLine_10 (by decide) rfl ?_
    refine v_iconst (v := nI 3) dX3_isLine_11 (by decide) rfl ?_
    by_cases q12 : InR y 4
    · refine v_csf dX3_isLine_12 cw_X3_40 ts_X3_in ((c_in0 G hp y 3 (by decide)).yes ‹_›) (by rfl) (by rfl) (Nat.le_of_ble_eq_true rfl) (Nat.le_of_ble_eq_true rfl) (Nat.le_of_ble_eq_true rfl) (Nat.le_of_ble_eq_true rfl) (Nat.le_of_ble_eq_true rfl) rfl ?_
      refine v_if_eq (tgt := 22) dX3_isLine_15 (by decide) rfl (fun q => absurd q (by decide)) (fun _ => ?_)
      refine v_iconst (v := nI 1) dX3_isLine_18 (by decide) rfl ?_
      refine v_goto (tgt := 23) dX3_isLine_19 (by decide) ?_
      exact v_zret dX3_isLine_23 rfl (by rfl) ⟨Nat.le_of_ble_eq_true rfl, Nat.le_of_ble_eq_true rfl⟩ (⟨by first | (rw [bP_t (by grind)]; done) | (rw [bP_f (by grind)]; done), rfl⟩)
    · refine v_csf dX3_isLine_12 cw_X3_40 ts_X3_in ((c_in0 G hp y 3 (by decide)).no ‹_›) (by rfl) (by rfl) (Nat.le_of_ble_eq_true rfl) (Nat.le_of_ble_eq_true rfl) (Nat.le_of_ble_eq_true rfl) (Nat.le_of_ble_eq_true rfl) (Nat.le_of_ble_eq_true rfl) rfl ?_
      refine v_if_eq (tgt := 22) dX3_isLine_15 (by decide) rfl (fun _ => ?_) (fun q => absurd (by decide) q)
      refine v_iconst (v := nI 0) dX3_isLine_22 (by decide) rfl ?_
      exact v_zret dX3_isLine_23 rfl (by rfl) ⟨Nat.le_of_ble_eq_true rfl, Nat.le_of_ble_eq_true rfl⟩ (⟨by first | (rw [bP_t (by grind)]; done) | (rw [bP_f (by grind)]; done), rfl⟩)
  · refine v_csf dX3_isLine_3 cw_X3_40 ts_X3_in ((c_in0 G hp x 1 (by decide)).no ‹_›) (by rfl) (by rfl) (Nat.le_of_ble_eq_true rfl) (Nat.le_of_ble_eq_true rfl) (Nat.le_of_ble_eq_true rfl) (Nat.le_of_ble_eq_true rfl) (Nat.le_of_ble_eq_true rfl) rfl ?_
    refine v_if_eq (tgt := 22) dX3_isLine_6 (by decide) rfl (fun _ => ?_) (fun q => absurd (by decide) q)
    refine v_iconst (v := nI 0) dX3_isLine_22 (by decide) rfl ?_
    exact v_zret dX3_isLine_23 rfl (by rfl) ⟨Nat.le_of_ble_eq_true rfl, Nat.le_of_ble_eq_true rfl⟩ (⟨by first | (rw [bP_t (by grind)]; done) | (rw [bP_f (by grind)]; done), rfl⟩)
theorem c_isMarker (x : Int32) : Ct G mX3_isMarker 1 0 0 [.int x] hp (Qf (some (.int (bP (InR x 3)))) hp) := by
  refine Ct.start 0 (by decide +kernel) rfl (Nat.le_of_ble_eq_true rfl) ?_
  refine v_iload_n dX3_isMarker_0 rfl rfl ?_
  refine v_iconst (v := nI 0) dX3_isMarker_1 (by decide) rfl ?_
  refine v_iconst (v := nI 2) dX3_isMarker_2 (by decide) rfl ?_
  by_cases q3 : InR x 3
  · refine v_csf dX3_isMarker_3 cw_X3_40 ts_X3_in ((c_in0 G hp x 2 (by decide)).yes ‹_›) (by rfl) (by rfl) (Nat.le_of_ble_eq_true rfl) (Nat.le_of_ble_eq_true rfl) (Nat.le_of_ble_eq_true rfl) (Nat.le_of_ble_eq_true rfl) (Nat.le_of_ble_eq_true rfl) rfl ?_
    exact v_zret dX3_isMarker_6 rfl (by rfl) ⟨Nat.le_of_ble_eq_true rfl, Nat.le_of_ble_eq_true rfl⟩ (⟨by first | (rw [bP_t (by grind)]; done) | (rw [bP_f (by grind)]; done), rfl⟩)
  · refine v_csf dX3_isMarker_3 cw_X3_40 ts_X3_in ((c_in0 G hp x 2 (by decide)).no ‹_›) (by rfl) (by rfl) (Nat.le_of_ble_eq_true rfl) (Nat.le_of_ble_eq_true rfl) (Nat.le_of_ble_eq_true rfl) (Nat.le_of_ble_eq_true rfl) (Nat.le_of_ble_eq_true rfl) rfl ?_
    exact v_zret dX3_isMarker_6 rfl (by rfl) ⟨Nat.le_of_ble_eq_true rfl, Nat.le_of_ble_eq_true rfl⟩ (⟨by first | (rw [bP_t (by grind)]; done) | (rw [bP_f (by grind)]; done), rfl⟩)
theorem c_isMark (x : Int32) : Ct G mX3_isMark 1 0 0 [.int x] hp (Qf (some (.int (bP (x = -900 ∨ InR x 4)))) hp) := by
  refine Ct.start 0 (by decide +kernel) rfl (Nat.le_of_ble_eq_true rfl) ?_
  refine v_iload_n dX3_isMark_0 rfl rfl ?_
  refine v_sipush (v := (-900)) dX3_isMark_1 (by decide) rfl ?_
  refine v_icmp_eq (tgt := 16) dX3_isMark_4 (by decide) rfl (fun c4 => ?_) (fun c4 => ?_)
  · refine v_iconst (v := nI 1) dX3_isMark_16 (by decide) rfl ?_
    refine v_goto (tgt := 21) dX3_isMark_17 (by decide) ?_
    exact v_zret dX3_isMark_21 rfl (by rfl) ⟨Nat.le_of_ble_eq_true rfl, Nat.le_of_ble_eq_true rfl⟩ (⟨by first | (rw [bP_t (by grind)]; done) | (rw [bP_f (by grind)]; done), rfl⟩)
  · refine v_iload_n dX3_isMark_7 rfl rfl ?_
    refine v_iconst (v := nI 0) dX3_isMark_8 (by decide) rfl ?_
    refine v_iconst (v := nI 3) dX3_isMark_9 (by decide) rfl ?_
    by_cases q10 : InR x 4
    · refine v_csf dX3_isMark_10 cw_X3_40 ts_X3_in ((c_in0 G hp x 3 (by decide)).yes ‹_›) (by rfl) (by rfl) (Nat.le_of_ble_eq_true rfl) (Nat.le_of_ble_eq_true rfl) (Nat.le_of_ble_eq_true rfl) (Nat.le_of_ble_eq_true rfl) (Nat.le_of_ble_eq_true rfl) rfl ?_
      refine v_if_eq (tgt := 20) dX3_isMark_13 (by decide) rfl (fun q => absurd q (by decide)) (fun _ => ?_)
      refine v_iconst (v := nI 1) dX3_isMark_16 (by decide) rfl ?_
      refine v_goto (tgt := 21) dX3_isMark_17 (by decide) ?_
      exact v_zret dX3_isMark_21 rfl (by rfl) ⟨Nat.le_of_ble_eq_true rfl, Nat.le_of_ble_eq_true rfl⟩ (⟨by first | (rw [bP_t (by grind)]; done) | (rw [bP_f (by grind)]; done), rfl⟩)
    · refine v_csf dX3_isMark_10 cw_X3_40 ts_X3_in ((c_in0 G hp x 3 (by decide)).no ‹_›) (by rfl) (by rfl) (Nat.le_of_ble_eq_true rfl) (Nat.le_of_ble_eq_true rfl) (Nat.le_of_ble_eq_true rfl) (Nat.le_of_ble_eq_true rfl) (Nat.le_of_ble_eq_true rfl) rfl ?_
      refine v_if_eq (tgt := 20) dX3_isMark_13 (by decide) rfl (fun _ => ?_) (fun q => absurd (by decide) q)
      refine v_iconst (v := nI 0) dX3_isMark_20 (by decide) rfl ?_
      exact v_zret dX3_isMark_21 rfl (by rfl) ⟨Nat.le_of_ble_eq_true rfl, Nat.le_of_ble_eq_true rfl⟩ (⟨by first | (rw [bP_t (by grind)]; done) | (rw [bP_f (by grind)]; done), rfl⟩)
def absI (x : Int32) : Int32 := if 0 ≤ x then x else -x
def cmpI (a b : Int32) : Int32 := if b ≤ a then (if a = b then nI 0 else nI 1) else -1
def fdI (a b : Int32) : Int32 := if 0 ≤ a ^^^ b then a / b else if a / b * b = a then a / b else a / b - nI 1
theorem c_size (x : Int32) : Ct G mX3_size 0 0 0 [.int x] hp (Qf (some (.int (absI x))) hp) := by
  refine Ct.start 0 (by decide +kernel) rfl (Nat.le_of_ble_eq_true rfl) ?_
  refine v_iload_n dX3_size_0 rfl rfl ?_
  refine v_if_ge (tgt := 9) dX3_size_1 (by decide) rfl (fun c1 => ?_) (fun c1 => ?_)
  · refine v_iload_n dX3_size_9 rfl rfl ?_
    exact v_iret dX3_size_10 rfl ⟨Nat.le_of_ble_eq_true rfl, Nat.le_of_ble_eq_true rfl⟩ (⟨by grind [absI], rfl⟩)
  · refine v_iload_n dX3_size_4 rfl rfl ?_
    refine v_ineg dX3_size_5 rfl ?_
    refine v_goto (tgt := 10) dX3_size_6 (by decide) ?_
    exact v_iret dX3_size_10 rfl ⟨Nat.le_of_ble_eq_true rfl, Nat.le_of_ble_eq_true rfl⟩ (⟨by grind [absI], rfl⟩)
theorem c_abs (x : Int32) : Ct G mJ9_abs_0f7a4 0 0 0 [.int x] hp (Qf (some (.int (absI x))) hp) := by
  refine Ct.start 0 (by decide +kernel) rfl (Nat.le_of_ble_eq_true rfl) ?_
  refine v_iload_n dJ9_abs_0f7a4_0 rfl rfl ?_
  refine v_if_ge (tgt := 9) dJ9_abs_0f7a4_1 (by decide) rfl (fun c1 => ?_) (fun c1 => ?_)
  · refine v_iload_n dJ9_abs_0f7a4_9 rfl rfl ?_
    exact v_iret dJ9_abs_0f7a4_10 rfl ⟨Nat.le_of_ble_eq_true rfl, Nat.le_of_ble_eq_true rfl⟩ (⟨by grind [absI], rfl⟩)
  · refine v_iload_n dJ9_abs_0f7a4_4 rfl rfl ?_
    refine v_ineg dJ9_abs_0f7a4_5 rfl ?_
    refine v_goto (tgt := 10) dJ9_abs_0f7a4_6 (by decide) ?_
    exact v_iret dJ9_abs_0f7a4_10 rfl ⟨Nat.le_of_ble_eq_true rfl, Nat.le_of_ble_eq_true rfl⟩ (⟨by grind [absI], rfl⟩)
theorem c_compare (x y : Int32) : Ct G mJ6_compare_7cf53 0 0 0 [.int x, .int y] hp (Qf (some (.int (cmpI x y))) hp) := by
  refine Ct.start 0 (by decide +kernel) rfl (Nat.le_of_ble_eq_true rfl) ?_
  refine v_iload_n dJ6_compare_7cf53_0 rfl rfl ?_
  refine v_iload_n dJ6_compare_7cf53_1 rfl rfl ?_
  refine v_icmp_ge (tgt := 9) dJ6_compare_7cf53_2 (by decide) rfl (fun c2 => ?_) (fun c2 => ?_)
  · refine v_iload_n dJ6_compare_7cf53_9 rfl rfl ?_
    refine v_iload_n dJ6_compare_7cf53_10 rfl rfl ?_
    refine v_icmp_ne (tgt := 18) dJ6_compare_7cf53_11 (by decide) rfl (fun c11 => ?_) (fun c11 => ?_)
    · refine v_iconst (v := nI 1) dJ6_compare_7cf53_18 (by decide) rfl ?_
      exact v_iret dJ6_compare_7cf53_19 rfl ⟨Nat.le_of_ble_eq_true rfl, Nat.le_of_ble_eq_true rfl⟩ (⟨by grind [cmpI], rfl⟩)
    · refine v_iconst (v := nI 0) dJ6_compare_7cf53_14 (by decide) rfl ?_
      refine v_goto (tgt := 19) dJ6_compare_7cf53_15 (by decide) ?_
      exact v_iret dJ6_compare_7cf53_19 rfl ⟨Nat.le_of_ble_eq_true rfl, Nat.le_of_ble_eq_true rfl⟩ (⟨by grind [cmpI], rfl⟩)
  · refine v_iconst (v := (-1)) dJ6_compare_7cf53_5 (by decide) rfl ?_
    refine v_goto (tgt := 19) dJ6_compare_7cf53_6 (by decide) ?_
    exact v_iret dJ6_compare_7cf53_19 rfl ⟨Nat.le_of_ble_eq_true rfl, Nat.le_of_ble_eq_true rfl⟩ (⟨by grind [cmpI], rfl⟩)
theorem c_max (x y : Int32) : Ct G mJ9_max_7cf53 0 0 0 [.int x, .int y] hp (Qf (some (.int (if y ≤ x then x else y))) hp) := by
  refine Ct.start 0 (by decide +kernel) rfl (Nat.le_of_ble_eq_true rfl) ?_
  refine v_iload_n dJ9_max_7cf53_0 rfl rfl ?_
  refine v_iload_n dJ9_max_7cf53_1 rfl rfl ?_
  refine v_icmp_ltA (tgt := 9) dJ9_max_7cf53_2 (by decide) rfl (fun c2 => ?_) (fun c2 => ?_)
  · refine v_iload_n dJ9_max_7cf53_9 rfl rfl ?_
    exact v_iret dJ9_max_7cf53_10 rfl ⟨Nat.le_of_ble_eq_true rfl, Nat.le_of_ble_eq_true rfl⟩ (⟨by grind, rfl⟩)
  · refine v_iload_n dJ9_max_7cf53_5 rfl rfl ?_
    refine v_goto (tgt := 10) dJ9_max_7cf53_6 (by decide) ?_
    exact v_iret dJ9_max_7cf53_10 rfl ⟨Nat.le_of_ble_eq_true rfl, Nat.le_of_ble_eq_true rfl⟩ (⟨by grind, rfl⟩)
theorem c_min (x y : Int32) : Ct G mJ9_min_7cf53 0 0 0 [.int x, .int y] hp (Qf (some (.int (if x ≤ y then x else y))) hp) := by
  refine Ct.start 0 (by decide +kernel) rfl (Nat.le_of_ble_eq_true rfl) ?_
  refine v_iload_n dJ9_min_7cf53_0 rfl rfl ?_
  refine v_iload_n dJ9_min_7cf53_1 rfl rfl ?_
  refine v_icmp_gtA (tgt := 9) dJ9_min_7cf53_2 (by decide) rfl (fun c2 => ?_) (fun c2 => ?_)
  · refine v_iload_n dJ9_min_7cf53_9 rfl rfl ?_
    exact v_iret dJ9_min_7cf53_10 rfl ⟨Nat.le_of_ble_eq_true rfl, Nat.le_of_ble_eq_true rfl⟩ (⟨by grind, rfl⟩)
  · refine v_iload_n dJ9_min_7cf53_5 rfl rfl ?_
    refine v_goto (tgt := 10) dJ9_min_7cf53_6 (by decide) ?_
    exact v_iret dJ9_min_7cf53_10 rfl ⟨Nat.le_of_ble_eq_true rfl, Nat.le_of_ble_eq_true rfl⟩ (⟨by grind, rfl⟩)
theorem c_floorDiv (x y : Int32) (hy : ¬ y = 0) : Ct G mJ9_floorDiv_7cf53 0 0 0 [.int x, .int y] hp (Qf (some (.int (fdI x y))) hp) := by
  refine Ct.start 1 (by decide +kernel) rfl (Nat.le_of_ble_eq_true rfl) ?_
  refine v_iload_n dJ9_floorDiv_7cf53_0 rfl rfl ?_
  refine v_iload_n dJ9_floorDiv_7cf53_1 rfl rfl ?_
  refine v_idiv dJ9_floorDiv_7cf53_2 (by assumption) rfl ?_
  refine v_istore_n dJ9_floorDiv_7cf53_3 (Nat.le_of_ble_eq_true rfl) rfl ?_
  refine v_iload_n dJ9_floorDiv_7cf53_4 rfl rfl ?_
  refine v_iload_n dJ9_floorDiv_7cf53_5 rfl rfl ?_
  refine v_ixor dJ9_floorDiv_7cf53_6 rfl ?_
  refine v_if_ge (tgt := 21) dJ9_floorDiv_7cf53_7 (by decide) rfl (fun c7 => ?_) (fun c7 => ?_)
  · refine v_iload_n dJ9_floorDiv_7cf53_21 rfl rfl ?_
    exact v_iret dJ9_floorDiv_7cf53_22 rfl ⟨Nat.le_of_ble_eq_true rfl, Nat.le_of_ble_eq_true rfl⟩ (⟨by grind [fdI], rfl⟩)
  · refine v_iload_n dJ9_floorDiv_7cf53_10 rfl rfl ?_
    refine v_iload_n dJ9_floorDiv_7cf53_11 rfl rfl ?_
    refine v_imul dJ9_floorDiv_7cf53_12 rfl ?_
    refine v_iload_n dJ9_floorDiv_7cf53_13 rfl rfl ?_
    refine v_icmp_eq (tgt := 21) dJ9_floorDiv_7cf53_14 (by decide) rfl (fun c14 => ?_) (fun c14 => ?_)
    · refine v_iload_n dJ9_floorDiv_7cf53_21 rfl rfl ?_
      exact v_iret dJ9_floorDiv_7cf53_22 rfl ⟨Nat.le_of_ble_eq_true rfl, Nat.le_of_ble_eq_true rfl⟩ (⟨by grind [fdI], rfl⟩)
    · refine v_iload_n dJ9_floorDiv_7cf53_17 rfl rfl ?_
      refine v_iconst (v := nI 1) dJ9_floorDiv_7cf53_18 (by decide) rfl ?_
      refine v_isub dJ9_floorDiv_7cf53_19 rfl ?_
      exact v_iret dJ9_floorDiv_7cf53_20 rfl ⟨Nat.le_of_ble_eq_true rfl, Nat.le_of_ble_eq_true rfl⟩ (⟨by grind [fdI], rfl⟩)
end LEAVES
end
section
/-! A LINE: its cells, its LEVELS -/
theorem loop_up {P : Nat → Prop} {n : Nat} (h0 : P n) (hs : ∀ k, k < n → P (k + 1) → P k) : ∀ k, k ≤ n → P k := by
  have : ∀ m k, k + m = n → P k := by
    intro m
    induction m with
    | zero => intro k hk; rw [show k = n by omega]; exact h0
    | succ m ih => intro k hk; exact hs k (by omega) (ih (k + 1) (by omega))
  exact fun k hk => this (n - k) k (by omega)
def LN (G : GG) (hp : List va_E) (a : Nat) (kd fc wt : Int32) (f t : Nat → Int32) : Prop := hp[a]? = some (ob 0 [.int kd, .int fc, .int wt, .ref (G.2.2.2 + (a + 1)), .ref (G.2.2.2 + (a + 2))]) ∧ hp[a + 1]? = some (aI G 4 f) ∧ hp[a + 2]? = some (aI G 4 t)
abbrev hasS (f t : Nat → Int32) (k : Nat) (v : Int32) : Prop := f k ≤ v ∧ v ≤ t k
abbrev belS (f t : Nat → Int32) (k : Nat) (v : Int32) : Prop := f k ≤ t k ∧ ¬ v ≤ t k
def strictO (f t : Nat → Int32) (v : Int32) : Option Nat := if hasS f t 3 v then some 3 else if hasS f t 2 v then some 2 else if hasS f t 1 v then some 1 else if hasS f t 0 v then some 0 else none
def belowN (f t : Nat → Int32) (v : Int32) : Nat := if belS f t 3 v then 3 else if belS f t 2 v then 2 else if belS f t 1 v then 1 else 0
def filledN (f t : Nat → Int32) (v : Int32) : Nat := match strictO f t v with
  | some k => k
  | none => belowN f t v
abbrev lastS (f t : Nat → Int32) (v : Int32) : Prop := hasS f t (filledN f t v) v ∧ t (filledN f t v) = v
def kindN (f t : Nat → Int32) (v : Int32) : Nat := if lastS f t v then (if filledN f t v < 3 then filledN f t v + 1 else filledN f t v) else filledN f t v
def oI : Option Nat → Int32
  | none => -900
  | some k => nI k
def levelO (kd : Int32) (f t : Nat → Int32) (v : Int32) : Option Nat := if kd = 0 then strictO f t v else if kd = nI 1 then some (filledN f t v) else some (kindN f t v)
theorem strictO_lt {f t : Nat → Int32} {v : Int32} {k : Nat} (h : strictO f t v = some k) : k < 4 := by
  unfold strictO at h
  repeat' split at h
  all_goals first | (cases h; decide) | cases h
theorem belowN_lt (f t : Nat → Int32) (v : Int32) : belowN f t v < 4 := by
  unfold belowN
  repeat' split
  all_goals decide
theorem filledN_lt (f t : Nat → Int32) (v : Int32) : filledN f t v < 4 := by
  unfold filledN
  cases h : strictO f t v with
  | none => exact belowN_lt f t v
  | some k => exact strictO_lt h
theorem kindN_lt (f t : Nat → Int32) (v : Int32) : kindN f t v < 4 := by
  have := filledN_lt f t v
  unfold kindN
  split
  · split
    · omega
    · omega
  · omega
theorem levelO_lt {kd : Int32} {f t : Nat → Int32} {v : Int32} {k : Nat} (h : levelO kd f t v = some k) : k < 4 := by
  unfold levelO at h
  split at h
  · exact strictO_lt h
  · split at h
    · cases h; exact filledN_lt f t v
    · cases h; exact kindN_lt f t v
theorem oI_none {o : Option Nat} (hl : ∀ k, o = some k → k < 4) : oI o = -900 ↔ o = none := by
  cases o with
  | none => simp [oI]
  | some k =>
    have := hl k rfl
    have h4 : k = 0 ∨ k = 1 ∨ k = 2 ∨ k = 3 := by omega
    rcases h4 with h | h | h | h <;> subst h <;> decide
theorem filled_some {f t : Nat → Int32} {v : Int32} (h : ¬ oI (strictO f t v) = -900) : oI (strictO f t v) = nI (filledN f t v) := by
  unfold filledN
  cases hh : strictO f t v with
  | none => rw [hh] at h; exact absurd rfl h
  | some k => rfl
theorem filled_none {f t : Nat → Int32} {v : Int32} (h : oI (strictO f t v) = -900) : filledN f t v = belowN f t v := by
  have := (oI_none (fun k hk => strictO_lt hk)).mp h
  unfold filledN
  rw [this]
theorem min_lv : ∀ u, u < 4 → (if nI 3 ≤ nI (u + 1) then nI 3 else nI (u + 1)) = nI (if u < 3 then u + 1 else u) := by decide
section LINE
variable (G : GG) (hp : List va_E) {a : Nat} {kd fc wt : Int32} {f t : Nat → Int32}
theorem c_spanHas (hL : LN G hp a kd fc wt f t) {k : Nat} (hk : k < 4) (v : Int32) : Ct G mX0_spanHas 0 0 0 [.ref (G.2.2.2 + a), .int (nI k), .int v] hp (Qf (some (.int (bP (hasS f t k v)))) hp) := by
  obtain ⟨h1, h2, h3⟩ := hL
  refine Ct.start 0 (by decide) rfl (Nat.le_of_ble_eq_true rfl) ?_
  refine v_aload_n dX0_spanHas_0 rfl rfl ?_
  refine v_getf dX0_spanHas_1 fl_X0_18 (by assumption) (by rfl) rfl ?_
  refine v_iload_n dX0_spanHas_4 rfl rfl ?_
  refine v_iald _ dX0_spanHas_5 (by assumption) rfl (by omega) (by decide) rfl ?_
  refine v_iload_n dX0_spanHas_6 rfl rfl ?_
  refine v_icmp_gtA (tgt := 24) dX0_spanHas_7 (by decide) rfl (fun c7 => ?_) (fun c7 => ?_)
  · refine v_iconst (v := nI 0) dX0_spanHas_24 (by decide) rfl ?_
    exact v_zret dX0_spanHas_25 rfl (by rfl) ⟨Nat.le_of_ble_eq_true rfl, Nat.le_of_ble_eq_true rfl⟩ (⟨by first | (rw [bP_t (by grind)]; done) | (rw [bP_f (by grind)]; done), rfl⟩)
  · refine v_iload_n dX0_spanHas_10 rfl rfl ?_
    refine v_aload_n dX0_spanHas_11 rfl rfl ?_
    refine v_getf dX0_spanHas_12 fl_X0_22 (by assumption) (by rfl) rfl ?_
    refine v_iload_n dX0_spanHas_15 rfl rfl ?_
    refine v_iald _ dX0_spanHas_16 (by assumption) rfl (by omega) (by decide) rfl ?_
    refine v_icmp_gtA (tgt := 24) dX0_spanHas_17 (by decide) rfl (fun c17 => ?_) (fun c17 => ?_)
    · refine v_iconst (v := nI 0) dX0_spanHas_24 (by decide) rfl ?_
      exact v_zret dX0_spanHas_25 rfl (by rfl) ⟨Nat.le_of_ble_eq_true rfl, Nat.le_of_ble_eq_true rfl⟩ (⟨by first | (rw [bP_t (by grind)]; done) | (rw [bP_f (by grind)]; done), rfl⟩)
    · refine v_iconst (v := nI 1) dX0_spanHas_20 (by decide) rfl ?_
      refine v_goto (tgt := 25) dX0_spanHas_21 (by decide) ?_
      exact v_zret dX0_spanHas_25 rfl (by rfl) ⟨Nat.le_of_ble_eq_true rfl, Nat.le_of_ble_eq_true rfl⟩ (⟨by first | (rw [bP_t (by grind)]; done) | (rw [bP_f (by grind)]; done), rfl⟩)
theorem c_strictLevel (hL : LN G hp a kd fc wt f t) (v : Int32) : Ct G mX0_strictLevel 1 0 0 [.ref (G.2.2.2 + a), .int v] hp (Qf (some (.int (oI (strictO f t v)))) hp) := by
  have h1 := hL.1
  refine Ct.start 1 (by decide) rfl (Nat.le_of_ble_eq_true rfl) ?_
  refine v_iconst (v := nI 3) dX0_strictLevel_0 (by decide) rfl ?_
  refine v_istore_n dX0_strictLevel_1 (Nat.le_of_ble_eq_true rfl) rfl ?_
  refine v_iload_n dX0_strictLevel_2 rfl rfl ?_
  refine v_if_lt (tgt := 23) dX0_strictLevel_3 (by decide) rfl (fun q => absurd q (by decide)) (fun _ => ?_)
  refine v_aload_n dX0_strictLevel_6 rfl rfl ?_
  refine v_iload_n dX0_strictLevel_7 rfl rfl ?_
  refine v_iload_n dX0_strictLevel_8 rfl rfl ?_
  by_cases q9 : hasS f t 3 v
  · refine v_cvf dX0_strictLevel_9 cw_X0_38 ⟨tn_X0_spanHas, tl_X0_spanHas⟩ rfl (by assumption) ((c_spanHas G hp hL (k := 3) (by decide) v).yes ‹_›) (by rfl) (by rfl) (Nat.le_of_ble_eq_true rfl) (Nat.le_of_ble_eq_true rfl) (Nat.le_of_ble_eq_true rfl) (Nat.le_of_ble_eq_true rfl) (Nat.le_of_ble_eq_true rfl) rfl ?_
    refine v_if_eq (tgt := 17) dX0_strictLevel_12 (by decide) rfl (fun q => absurd q (by decide)) (fun _ => ?_)
    refine v_iload_n dX0_strictLevel_15 rfl rfl ?_
    exact v_iret dX0_strictLevel_16 rfl ⟨Nat.le_of_ble_eq_true rfl, Nat.le_of_ble_eq_true rfl⟩ (⟨by unfold strictO; (repeat' split) <;> first | rfl | contradiction, rfl⟩)
  · refine v_cvf dX0_strictLevel_9 cw_X0_38 ⟨tn_X0_spanHas, tl_X0_spanHas⟩ rfl (by assumption) ((c_spanHas G hp hL (k := 3) (by decide) v).no ‹_›) (by rfl) (by rfl) (Nat.le_of_ble_eq_true rfl) (Nat.le_of_ble_eq_true rfl) (Nat.le_of_ble_eq_true rfl) (Nat.le_of_ble_eq_true rfl) (Nat.le_of_ble_eq_true rfl) rfl ?_
    refine v_if_eq (tgt := 17) dX0_strictLevel_12 (by decide) rfl (fun _ => ?_) (fun q => absurd (by decide) q)
    refine v_iinc (v := nI 2) dX0_strictLevel_17 rfl (by decide) (Nat.le_of_ble_eq_true rfl) rfl ?_
    refine v_goto (tgt := 2) dX0_strictLevel_20 (by decide) ?_
    refine v_iload_n dX0_strictLevel_2 rfl rfl ?_
    refine v_if_lt (tgt := 23) dX0_strictLevel_3 (by decide) rfl (fun q => absurd q (by decide)) (fun _ => ?_)
    refine v_aload_n dX0_strictLevel_6 rfl rfl ?_
    refine v_iload_n dX0_strictLevel_7 rfl rfl ?_
    refine v_iload_n dX0_strictLevel_8 rfl rfl ?_
    by_cases q9 : hasS f t 2 v
    · refine v_cvf dX0_strictLevel_9 cw_X0_38 ⟨tn_X0_spanHas, tl_X0_spanHas⟩ rfl (by assumption) ((c_spanHas G hp hL (k := 2) (by decide) v).yes ‹_›) (by rfl) (by rfl) (Nat.le_of_ble_eq_true rfl) (Nat.le_of_ble_eq_true rfl) (Nat.le_of_ble_eq_true rfl) (Nat.le_of_ble_eq_true rfl) (Nat.le_of_ble_eq_true rfl) rfl ?_
      refine v_if_eq (tgt := 17) dX0_strictLevel_12 (by decide) rfl (fun q => absurd q (by decide)) (fun _ => ?_)
      refine v_iload_n dX0_strictLevel_15 rfl rfl ?_
      exact v_iret dX0_strictLevel_16 rfl ⟨Nat.le_of_ble_eq_true rfl, Nat.le_of_ble_eq_true rfl⟩ (⟨by unfold strictO; (repeat' split) <;> first | rfl | contradiction, rfl⟩)
    · refine v_cvf dX0_strictLevel_9 cw_X0_38 ⟨tn_X0_spanHas, tl_X0_spanHas⟩ rfl (by assumption) ((c_spanHas G hp hL (k := 2) (by decide) v).no ‹_›) (by rfl) (by rfl) (Nat.le_of_ble_eq_true rfl) (Nat.le_of_ble_eq_true rfl) (Nat.le_of_ble_eq_true rfl) (Nat.le_of_ble_eq_true rfl) (Nat.le_of_ble_eq_true rfl) rfl ?_
      refine v_if_eq (tgt := 17) dX0_strictLevel_12 (by decide) rfl (fun _ => ?_) (fun q => absurd (by decide) q)
      refine v_iinc (v := nI 1) dX0_strictLevel_17 rfl (by decide) (Nat.le_of_ble_eq_true rfl) rfl ?_
      refine v_goto (tgt := 2) dX0_strictLevel_20 (by decide) ?_
      refine v_iload_n dX0_strictLevel_2 rfl rfl ?_
      refine v_if_lt (tgt := 23) dX0_strictLevel_3 (by decide) rfl (fun q => absurd q (by decide)) (fun _ => ?_)
      refine v_aload_n dX0_strictLevel_6 rfl rfl ?_
      refine v_iload_n dX0_strictLevel_7 rfl rfl ?_
      refine v_iload_n dX0_strictLevel_8 rfl rfl ?_
      by_cases q9 : hasS f t 1 v
      · refine v_cvf dX0_strictLevel_9 cw_X0_38 ⟨tn_X0_spanHas, tl_X0_spanHas⟩ rfl (by assumption) ((c_spanHas G hp hL (k := 1) (by decide) v).yes ‹_›) (by rfl) (by rfl) (Nat.le_of_ble_eq_true rfl) (Nat.le_of_ble_eq_true rfl) (Nat.le_of_ble_eq_true rfl) (Nat.le_of_ble_eq_true rfl) (Nat.le_of_ble_eq_true rfl) rfl ?_
        refine v_if_eq (tgt := 17) dX0_strictLevel_12 (by decide) rfl (fun q => absurd q (by decide)) (fun _ => ?_)
        refine v_iload_n dX0_strictLevel_15 rfl rfl ?_
        exact v_iret dX0_strictLevel_16 rfl ⟨Nat.le_of_ble_eq_true rfl, Nat.le_of_ble_eq_true rfl⟩ (⟨by unfold strictO; (repeat' split) <;> first | rfl | contradiction, rfl⟩)
      · refine v_cvf dX0_strictLevel_9 cw_X0_38 ⟨tn_X0_spanHas, tl_X0_spanHas⟩ rfl (by assumption) ((c_spanHas G hp hL (k := 1) (by decide) v).no ‹_›) (by rfl) (by rfl) (Nat.le_of_ble_eq_true rfl) (Nat.le_of_ble_eq_true rfl) (Nat.le_of_ble_eq_true rfl) (Nat.le_of_ble_eq_true rfl) (Nat.le_of_ble_eq_true rfl) rfl ?_
        refine v_if_eq (tgt := 17) dX0_strictLevel_12 (by decide) rfl (fun _ => ?_) (fun q => absurd (by decide) q)
        refine v_iinc (v := nI 0) dX0_strictLevel_17 rfl (by decide) (Nat.le_of_ble_eq_true rfl) rfl ?_
        refine v_goto (tgt := 2) dX0_strictLevel_20 (by decide) ?_
        refine v_iload_n dX0_strictLevel_2 rfl rfl ?_
        refine v_if_lt (tgt := 23) dX0_strictLevel_3 (by decide) rfl (fun q => absurd q (by decide)) (fun _ => ?_)
        refine v_aload_n dX0_strictLevel_6 rfl rfl ?_
        refine v_iload_n dX0_strictLevel_7 rfl rfl ?_
        refine v_iload_n dX0_strictLevel_8 rfl rfl ?_
        by_cases q9 : hasS f t 0 v
        · refine v_cvf dX0_strictLevel_9 cw_X0_38 ⟨tn_X0_spanHas, tl_X0_spanHas⟩ rfl (by assumption) ((c_spanHas G hp hL (k := 0) (by decide) v).yes ‹_›) (by rfl) (by rfl) (Nat.le_of_ble_eq_true rfl) (Nat.le_of_ble_eq_true rfl) (Nat.le_of_ble_eq_true rfl) (Nat.le_of_ble_eq_true rfl) (Nat.le_of_ble_eq_true rfl) rfl ?_
          refine v_if_eq (tgt := 17) dX0_strictLevel_12 (by decide) rfl (fun q => absurd q (by decide)) (fun _ => ?_)
          refine v_iload_n dX0_strictLevel_15 rfl rfl ?_
          exact v_iret dX0_strictLevel_16 rfl ⟨Nat.le_of_ble_eq_true rfl, Nat.le_of_ble_eq_true rfl⟩ (⟨by unfold strictO; (repeat' split) <;> first | rfl | contradiction, rfl⟩)
        · refine v_cvf dX0_strictLevel_9 cw_X0_38 ⟨tn_X0_spanHas, tl_X0_spanHas⟩ rfl (by assumption) ((c_spanHas G hp hL (k := 0) (by decide) v).no ‹_›) (by rfl) (by rfl) (Nat.le_of_ble_eq_true rfl) (Nat.le_of_ble_eq_true rfl) (Nat.le_of_ble_eq_true rfl) (Nat.le_of_ble_eq_true rfl) (Nat.le_of_ble_eq_true rfl) rfl ?_
          refine v_if_eq (tgt := 17) dX0_strictLevel_12 (by decide) rfl (fun _ => ?_) (fun q => absurd (by decide) q)
          refine v_iinc (v := (-1)) dX0_strictLevel_17 rfl (by decide) (Nat.le_of_ble_eq_true rfl) rfl ?_
          refine v_goto (tgt := 2) dX0_strictLevel_20 (by decide) ?_
          refine v_iload_n dX0_strictLevel_2 rfl rfl ?_
          refine v_if_lt (tgt := 23) dX0_strictLevel_3 (by decide) rfl (fun _ => ?_) (fun q => absurd (by decide) q)
          refine v_sipush (v := (-900)) dX0_strictLevel_23 (by decide) rfl ?_
          exact v_iret dX0_strictLevel_26 rfl ⟨Nat.le_of_ble_eq_true rfl, Nat.le_of_ble_eq_true rfl⟩ (⟨by unfold strictO; (repeat' split) <;> first | rfl | contradiction, rfl⟩)
theorem c_greatestBelow (hL : LN G hp a kd fc wt f t) (v : Int32) : Ct G mX0_greatestBelow 0 0 0 [.ref (G.2.2.2 + a), .int v] hp (Qf (some (.int (nI (belowN f t v)))) hp) := by
  obtain ⟨h1, h2, h3⟩ := hL
  refine Ct.start 1 (by decide) rfl (Nat.le_of_ble_eq_true rfl) ?_
  refine v_iconst (v := nI 3) dX0_greatestBelow_0 (by decide) rfl ?_
  refine v_istore_n dX0_greatestBelow_1 (Nat.le_of_ble_eq_true rfl) rfl ?_
  refine v_iload_n dX0_greatestBelow_2 rfl rfl ?_
  refine v_if_lt (tgt := 39) dX0_greatestBelow_3 (by decide) rfl (fun q => absurd q (by decide)) (fun _ => ?_)
  refine v_aload_n dX0_greatestBelow_6 rfl rfl ?_
  refine v_getf dX0_greatestBelow_7 fl_X0_18 (by assumption) (by rfl) rfl ?_
  refine v_iload_n dX0_greatestBelow_10 rfl rfl ?_
  refine v_iald 3 dX0_greatestBelow_11 (by assumption) rfl (by decide) (by decide) rfl ?_
  refine v_aload_n dX0_greatestBelow_12 rfl rfl ?_
  refine v_getf dX0_greatestBelow_13 fl_X0_22 (by assumption) (by rfl) rfl ?_
  refine v_iload_n dX0_greatestBelow_16 rfl rfl ?_
  refine v_iald 3 dX0_greatestBelow_17 (by assumption) rfl (by decide) (by decide) rfl ?_
  refine v_icmp_gtA (tgt := 33) dX0_greatestBelow_18 (by decide) rfl (fun c18 => ?_) (fun c18 => ?_)
  · refine v_iinc (v := nI 2) dX0_greatestBelow_33 rfl (by decide) (Nat.le_of_ble_eq_true rfl) rfl ?_
    refine v_goto (tgt := 2) dX0_greatestBelow_36 (by decide) ?_
    refine v_iload_n dX0_greatestBelow_2 rfl rfl ?_
    refine v_if_lt (tgt := 39) dX0_greatestBelow_3 (by decide) rfl (fun q => absurd q (by decide)) (fun _ => ?_)
    refine v_aload_n dX0_greatestBelow_6 rfl rfl ?_
    refine v_getf dX0_greatestBelow_7 fl_X0_18 (by assumption) (by rfl) rfl ?_
    refine v_iload_n dX0_greatestBelow_10 rfl rfl ?_
    refine v_iald 2 dX0_greatestBelow_11 (by assumption) rfl (by decide) (by decide) rfl ?_
    refine v_aload_n dX0_greatestBelow_12 rfl rfl ?_
    refine v_getf dX0_greatestBelow_13 fl_X0_22 (by assumption) (by rfl) rfl ?_
    refine v_iload_n dX0_greatestBelow_16 rfl rfl ?_
    refine v_iald 2 dX0_greatestBelow_17 (by assumption) rfl (by decide) (by decide) rfl ?_
    refine v_icmp_gtA (tgt := 33) dX0_greatestBelow_18 (by decide) rfl (fun c18 => ?_) (fun c18 => ?_)
    · refine v_iinc (v := nI 1) dX0_greatestBelow_33 rfl (by decide) (Nat.le_of_ble_eq_true rfl) rfl ?_
      refine v_goto (tgt := 2) dX0_greatestBelow_36 (by decide) ?_
      refine v_iload_n dX0_greatestBelow_2 rfl rfl ?_
      refine v_if_lt (tgt := 39) dX0_greatestBelow_3 (by decide) rfl (fun q => absurd q (by decide)) (fun _ => ?_)
      refine v_aload_n dX0_greatestBelow_6 rfl rfl ?_
      refine v_getf dX0_greatestBelow_7 fl_X0_18 (by assumption) (by rfl) rfl ?_
      refine v_iload_n dX0_greatestBelow_10 rfl rfl ?_
      refine v_iald 1 dX0_greatestBelow_11 (by assumption) rfl (by decide) (by decide) rfl ?_
      refine v_aload_n dX0_greatestBelow_12 rfl rfl ?_
      refine v_getf dX0_greatestBelow_13 fl_X0_22 (by assumption) (by rfl) rfl ?_
      refine v_iload_n dX0_greatestBelow_16 rfl rfl ?_
      refine v_iald 1 dX0_greatestBelow_17 (by assumption) rfl (by decide) (by decide) rfl ?_
      refine v_icmp_gtA (tgt := 33) dX0_greatestBelow_18 (by decide) rfl (fun c18 => ?_) (fun c18 => ?_)
      · refine v_iinc (v := nI 0) dX0_greatestBelow_33 rfl (by decide) (Nat.le_of_ble_eq_true rfl) rfl ?_
        refine v_goto (tgt := 2) dX0_greatestBelow_36 (by decide) ?_
        refine v_iload_n dX0_greatestBelow_2 rfl rfl ?_
        refine v_if_lt (tgt := 39) dX0_greatestBelow_3 (by decide) rfl (fun q => absurd q (by decide)) (fun _ => ?_)
        refine v_aload_n dX0_greatestBelow_6 rfl rfl ?_
        refine v_getf dX0_greatestBelow_7 fl_X0_18 (by assumption) (by rfl) rfl ?_
        refine v_iload_n dX0_greatestBelow_10 rfl rfl ?_
        refine v_iald 0 dX0_greatestBelow_11 (by assumption) rfl (by decide) (by decide) rfl ?_
        refine v_aload_n dX0_greatestBelow_12 rfl rfl ?_
        refine v_getf dX0_greatestBelow_13 fl_X0_22 (by assumption) (by rfl) rfl ?_
        refine v_iload_n dX0_greatestBelow_16 rfl rfl ?_
        refine v_iald 0 dX0_greatestBelow_17 (by assumption) rfl (by decide) (by decide) rfl ?_
        refine v_icmp_gtA (tgt := 33) dX0_greatestBelow_18 (by decide) rfl (fun c18 => ?_) (fun c18 => ?_)
        · refine v_iinc (v := (-1)) dX0_greatestBelow_33 rfl (by decide) (Nat.le_of_ble_eq_true rfl) rfl ?_
          refine v_goto (tgt := 2) dX0_greatestBelow_36 (by decide) ?_
          refine v_iload_n dX0_greatestBelow_2 rfl rfl ?_
          refine v_if_lt (tgt := 39) dX0_greatestBelow_3 (by decide) rfl (fun _ => ?_) (fun q => absurd (by decide) q)
          refine v_iconst (v := nI 0) dX0_greatestBelow_39 (by decide) rfl ?_
          exact v_iret dX0_greatestBelow_40 rfl ⟨Nat.le_of_ble_eq_true rfl, Nat.le_of_ble_eq_true rfl⟩ (⟨by grind [belowN], rfl⟩)
        · refine v_aload_n dX0_greatestBelow_21 rfl rfl ?_
          refine v_getf dX0_greatestBelow_22 fl_X0_22 (by assumption) (by rfl) rfl ?_
          refine v_iload_n dX0_greatestBelow_25 rfl rfl ?_
          refine v_iald 0 dX0_greatestBelow_26 (by assumption) rfl (by decide) (by decide) rfl ?_
          refine v_iload_n dX0_greatestBelow_27 rfl rfl ?_
          refine v_icmp_ge (tgt := 33) dX0_greatestBelow_28 (by decide) rfl (fun c28 => ?_) (fun c28 => ?_)
          · refine v_iinc (v := (-1)) dX0_greatestBelow_33 rfl (by decide) (Nat.le_of_ble_eq_true rfl) rfl ?_
            refine v_goto (tgt := 2) dX0_greatestBelow_36 (by decide) ?_
            refine v_iload_n dX0_greatestBelow_2 rfl rfl ?_
            refine v_if_lt (tgt := 39) dX0_greatestBelow_3 (by decide) rfl (fun _ => ?_) (fun q => absurd (by decide) q)
            refine v_iconst (v := nI 0) dX0_greatestBelow_39 (by decide) rfl ?_
            exact v_iret dX0_greatestBelow_40 rfl ⟨Nat.le_of_ble_eq_true rfl, Nat.le_of_ble_eq_true rfl⟩ (⟨by grind [belowN], rfl⟩)
          · refine v_iload_n dX0_greatestBelow_31 rfl rfl ?_
            exact v_iret dX0_greatestBelow_32 rfl ⟨Nat.le_of_ble_eq_true rfl, Nat.le_of_ble_eq_true rfl⟩ (⟨by grind [belowN], rfl⟩)
      · refine v_aload_n dX0_greatestBelow_21 rfl rfl ?_
        refine v_getf dX0_greatestBelow_22 fl_X0_22 (by assumption) (by rfl) rfl ?_
        refine v_iload_n dX0_greatestBelow_25 rfl rfl ?_
        refine v_iald 1 dX0_greatestBelow_26 (by assumption) rfl (by decide) (by decide) rfl ?_
        refine v_iload_n dX0_greatestBelow_27 rfl rfl ?_
        refine v_icmp_ge (tgt := 33) dX0_greatestBelow_28 (by decide) rfl (fun c28 => ?_) (fun c28 => ?_)
        · refine v_iinc (v := nI 0) dX0_greatestBelow_33 rfl (by decide) (Nat.le_of_ble_eq_true rfl) rfl ?_
          refine v_goto (tgt := 2) dX0_greatestBelow_36 (by decide) ?_
          refine v_iload_n dX0_greatestBelow_2 rfl rfl ?_
          refine v_if_lt (tgt := 39) dX0_greatestBelow_3 (by decide) rfl (fun q => absurd q (by decide)) (fun _ => ?_)
          refine v_aload_n dX0_greatestBelow_6 rfl rfl ?_
          refine v_getf dX0_greatestBelow_7 fl_X0_18 (by assumption) (by rfl) rfl ?_
          refine v_iload_n dX0_greatestBelow_10 rfl rfl ?_
          refine v_iald 0 dX0_greatestBelow_11 (by assumption) rfl (by decide) (by decide) rfl ?_
          refine v_aload_n dX0_greatestBelow_12 rfl rfl ?_
          refine v_getf dX0_greatestBelow_13 fl_X0_22 (by assumption) (by rfl) rfl ?_
          refine v_iload_n dX0_greatestBelow_16 rfl rfl ?_
          refine v_iald 0 dX0_greatestBelow_17 (by assumption) rfl (by decide) (by decide) rfl ?_
          refine v_icmp_gtA (tgt := 33) dX0_greatestBelow_18 (by decide) rfl (fun c18 => ?_) (fun c18 => ?_)
          · refine v_iinc (v := (-1)) dX0_greatestBelow_33 rfl (by decide) (Nat.le_of_ble_eq_true rfl) rfl ?_
            refine v_goto (tgt := 2) dX0_greatestBelow_36 (by decide) ?_
            refine v_iload_n dX0_greatestBelow_2 rfl rfl ?_
            refine v_if_lt (tgt := 39) dX0_greatestBelow_3 (by decide) rfl (fun _ => ?_) (fun q => absurd (by decide) q)
            refine v_iconst (v := nI 0) dX0_greatestBelow_39 (by decide) rfl ?_
            exact v_iret dX0_greatestBelow_40 rfl ⟨Nat.le_of_ble_eq_true rfl, Nat.le_of_ble_eq_true rfl⟩ (⟨by grind [belowN], rfl⟩)
          · refine v_aload_n dX0_greatestBelow_21 rfl rfl ?_
            refine v_getf dX0_greatestBelow_22 fl_X0_22 (by assumption) (by rfl) rfl ?_
            refine v_iload_n dX0_greatestBelow_25 rfl rfl ?_
            refine v_iald 0 dX0_greatestBelow_26 (by assumption) rfl (by decide) (by decide) rfl ?_
            refine v_iload_n dX0_greatestBelow_27 rfl rfl ?_
            refine v_icmp_ge (tgt := 33) dX0_greatestBelow_28 (by decide) rfl (fun c28 => ?_) (fun c28 => ?_)
            · refine v_iinc (v := (-1)) dX0_greatestBelow_33 rfl (by decide) (Nat.le_of_ble_eq_true rfl) rfl ?_
              refine v_goto (tgt := 2) dX0_greatestBelow_36 (by decide) ?_
              refine v_iload_n dX0_greatestBelow_2 rfl rfl ?_
              refine v_if_lt (tgt := 39) dX0_greatestBelow_3 (by decide) rfl (fun _ => ?_) (fun q => absurd (by decide) q)
              refine v_iconst (v := nI 0) dX0_greatestBelow_39 (by decide) rfl ?_
              exact v_iret dX0_greatestBelow_40 rfl ⟨Nat.le_of_ble_eq_true rfl, Nat.le_of_ble_eq_true rfl⟩ (⟨by grind [belowN], rfl⟩)
            · refine v_iload_n dX0_greatestBelow_31 rfl rfl ?_
              exact v_iret dX0_greatestBelow_32 rfl ⟨Nat.le_of_ble_eq_true rfl, Nat.le_of_ble_eq_true rfl⟩ (⟨by grind [belowN], rfl⟩)
        · refine v_iload_n dX0_greatestBelow_31 rfl rfl ?_
          exact v_iret dX0_greatestBelow_32 rfl ⟨Nat.le_of_ble_eq_true rfl, Nat.le_of_ble_eq_true rfl⟩ (⟨by grind [belowN], rfl⟩)
    · refine v_aload_n dX0_greatestBelow_21 rfl rfl ?_
      refine v_getf dX0_greatestBelow_22 fl_X0_22 (by assumption) (by rfl) rfl ?_
      refine v_iload_n dX0_greatestBelow_25 rfl rfl ?_
      refine v_iald 2 dX0_greatestBelow_26 (by assumption) rfl (by decide) (by decide) rfl ?_
      refine v_iload_n dX0_greatestBelow_27 rfl rfl ?_
      refine v_icmp_ge (tgt := 33) dX0_greatestBelow_28 (by decide) rfl (fun c28 => ?_) (fun c28 => ?_)
      · refine v_iinc (v := nI 1) dX0_greatestBelow_33 rfl (by decide) (Nat.le_of_ble_eq_true rfl) rfl ?_
        refine v_goto (tgt := 2) dX0_greatestBelow_36 (by decide) ?_
        refine v_iload_n dX0_greatestBelow_2 rfl rfl ?_
        refine v_if_lt (tgt := 39) dX0_greatestBelow_3 (by decide) rfl (fun q => absurd q (by decide)) (fun _ => ?_)
        refine v_aload_n dX0_greatestBelow_6 rfl rfl ?_
        refine v_getf dX0_greatestBelow_7 fl_X0_18 (by assumption) (by rfl) rfl ?_
        refine v_iload_n dX0_greatestBelow_10 rfl rfl ?_
        refine v_iald 1 dX0_greatestBelow_11 (by assumption) rfl (by decide) (by decide) rfl ?_
        refine v_aload_n dX0_greatestBelow_12 rfl rfl ?_
        refine v_getf dX0_greatestBelow_13 fl_X0_22 (by assumption) (by rfl) rfl ?_
        refine v_iload_n dX0_greatestBelow_16 rfl rfl ?_
        refine v_iald 1 dX0_greatestBelow_17 (by assumption) rfl (by decide) (by decide) rfl ?_
        refine v_icmp_gtA (tgt := 33) dX0_greatestBelow_18 (by decide) rfl (fun c18 => ?_) (fun c18 => ?_)
        · refine v_iinc (v := nI 0) dX0_greatestBelow_33 rfl (by decide) (Nat.le_of_ble_eq_true rfl) rfl ?_
          refine v_goto (tgt := 2) dX0_greatestBelow_36 (by decide) ?_
          refine v_iload_n dX0_greatestBelow_2 rfl rfl ?_
          refine v_if_lt (tgt := 39) dX0_greatestBelow_3 (by decide) rfl (fun q => absurd q (by decide)) (fun _ => ?_)
          refine v_aload_n dX0_greatestBelow_6 rfl rfl ?_
          refine v_getf dX0_greatestBelow_7 fl_X0_18 (by assumption) (by rfl) rfl ?_
          refine v_iload_n dX0_greatestBelow_10 rfl rfl ?_
          refine v_iald 0 dX0_greatestBelow_11 (by assumption) rfl (by decide) (by decide) rfl ?_
          refine v_aload_n dX0_greatestBelow_12 rfl rfl ?_
          refine v_getf dX0_greatestBelow_13 fl_X0_22 (by assumption) (by rfl) rfl ?_
          refine v_iload_n dX0_greatestBelow_16 rfl rfl ?_
          refine v_iald 0 dX0_greatestBelow_17 (by assumption) rfl (by decide) (by decide) rfl ?_
          refine v_icmp_gtA (tgt := 33) dX0_greatestBelow_18 (by decide) rfl (fun c18 => ?_) (fun c18 => ?_)
          · refine v_iinc (v := (-1)) dX0_greatestBelow_33 rfl (by decide) (Nat.le_of_ble_eq_true rfl) rfl ?_
            refine v_goto (tgt := 2) dX0_greatestBelow_36 (by decide) ?_
            refine v_iload_n dX0_greatestBelow_2 rfl rfl ?_
            refine v_if_lt (tgt := 39) dX0_greatestBelow_3 (by decide) rfl (fun _ => ?_) (fun q => absurd (by decide) q)
            refine v_iconst (v := nI 0) dX0_greatestBelow_39 (by decide) rfl ?_
            exact v_iret dX0_greatestBelow_40 rfl ⟨Nat.le_of_ble_eq_true rfl, Nat.le_of_ble_eq_true rfl⟩ (⟨by grind [belowN], rfl⟩)
          · refine v_aload_n dX0_greatestBelow_21 rfl rfl ?_
            refine v_getf dX0_greatestBelow_22 fl_X0_22 (by assumption) (by rfl) rfl ?_
            refine v_iload_n dX0_greatestBelow_25 rfl rfl ?_
            refine v_iald 0 dX0_greatestBelow_26 (by assumption) rfl (by decide) (by decide) rfl ?_
            refine v_iload_n dX0_greatestBelow_27 rfl rfl ?_
            refine v_icmp_ge (tgt := 33) dX0_greatestBelow_28 (by decide) rfl (fun c28 => ?_) (fun c28 => ?_)
            · refine v_iinc (v := (-1)) dX0_greatestBelow_33 rfl (by decide) (Nat.le_of_ble_eq_true rfl) rfl ?_
              refine v_goto (tgt := 2) dX0_greatestBelow_36 (by decide) ?_
              refine v_iload_n dX0_greatestBelow_2 rfl rfl ?_
              refine v_if_lt (tgt := 39) dX0_greatestBelow_3 (by decide) rfl (fun _ => ?_) (fun q => absurd (by decide) q)
              refine v_iconst (v := nI 0) dX0_greatestBelow_39 (by decide) rfl ?_
              exact v_iret dX0_greatestBelow_40 rfl ⟨Nat.le_of_ble_eq_true rfl, Nat.le_of_ble_eq_true rfl⟩ (⟨by grind [belowN], rfl⟩)
            · refine v_iload_n dX0_greatestBelow_31 rfl rfl ?_
              exact v_iret dX0_greatestBelow_32 rfl ⟨Nat.le_of_ble_eq_true rfl, Nat.le_of_ble_eq_true rfl⟩ (⟨by grind [belowN], rfl⟩)
        · refine v_aload_n dX0_greatestBelow_21 rfl rfl ?_
          refine v_getf dX0_greatestBelow_22 fl_X0_22 (by assumption) (by rfl) rfl ?_
          refine v_iload_n dX0_greatestBelow_25 rfl rfl ?_
          refine v_iald 1 dX0_greatestBelow_26 (by assumption) rfl (by decide) (by decide) rfl ?_
          refine v_iload_n dX0_greatestBelow_27 rfl rfl ?_
          refine v_icmp_ge (tgt := 33) dX0_greatestBelow_28 (by decide) rfl (fun c28 => ?_) (fun c28 => ?_)
          · refine v_iinc (v := nI 0) dX0_greatestBelow_33 rfl (by decide) (Nat.le_of_ble_eq_true rfl) rfl ?_
            refine v_goto (tgt := 2) dX0_greatestBelow_36 (by decide) ?_
            refine v_iload_n dX0_greatestBelow_2 rfl rfl ?_
            refine v_if_lt (tgt := 39) dX0_greatestBelow_3 (by decide) rfl (fun q => absurd q (by decide)) (fun _ => ?_)
            refine v_aload_n dX0_greatestBelow_6 rfl rfl ?_
            refine v_getf dX0_greatestBelow_7 fl_X0_18 (by assumption) (by rfl) rfl ?_
            refine v_iload_n dX0_greatestBelow_10 rfl rfl ?_
            refine v_iald 0 dX0_greatestBelow_11 (by assumption) rfl (by decide) (by decide) rfl ?_
            refine v_aload_n dX0_greatestBelow_12 rfl rfl ?_
            refine v_getf dX0_greatestBelow_13 fl_X0_22 (by assumption) (by rfl) rfl ?_
            refine v_iload_n dX0_greatestBelow_16 rfl rfl ?_
            refine v_iald 0 dX0_greatestBelow_17 (by assumption) rfl (by decide) (by decide) rfl ?_
            refine v_icmp_gtA (tgt := 33) dX0_greatestBelow_18 (by decide) rfl (fun c18 => ?_) (fun c18 => ?_)
            · refine v_iinc (v := (-1)) dX0_greatestBelow_33 rfl (by decide) (Nat.le_of_ble_eq_true rfl) rfl ?_
              refine v_goto (tgt := 2) dX0_greatestBelow_36 (by decide) ?_
              refine v_iload_n dX0_greatestBelow_2 rfl rfl ?_
              refine v_if_lt (tgt := 39) dX0_greatestBelow_3 (by decide) rfl (fun _ => ?_) (fun q => absurd (by decide) q)
              refine v_iconst (v := nI 0) dX0_greatestBelow_39 (by decide) rfl ?_
              exact v_iret dX0_greatestBelow_40 rfl ⟨Nat.le_of_ble_eq_true rfl, Nat.le_of_ble_eq_true rfl⟩ (⟨by grind [belowN], rfl⟩)
            · refine v_aload_n dX0_greatestBelow_21 rfl rfl ?_
              refine v_getf dX0_greatestBelow_22 fl_X0_22 (by assumption) (by rfl) rfl ?_
              refine v_iload_n dX0_greatestBelow_25 rfl rfl ?_
              refine v_iald 0 dX0_greatestBelow_26 (by assumption) rfl (by decide) (by decide) rfl ?_
              refine v_iload_n dX0_greatestBelow_27 rfl rfl ?_
              refine v_icmp_ge (tgt := 33) dX0_greatestBelow_28 (by decide) rfl (fun c28 => ?_) (fun c28 => ?_)
              · refine v_iinc (v := (-1)) dX0_greatestBelow_33 rfl (by decide) (Nat.le_of_ble_eq_true rfl) rfl ?_
                refine v_goto (tgt := 2) dX0_greatestBelow_36 (by decide) ?_
                refine v_iload_n dX0_greatestBelow_2 rfl rfl ?_
                refine v_if_lt (tgt := 39) dX0_greatestBelow_3 (by decide) rfl (fun _ => ?_) (fun q => absurd (by decide) q)
                refine v_iconst (v := nI 0) dX0_greatestBelow_39 (by decide) rfl ?_
                exact v_iret dX0_greatestBelow_40 rfl ⟨Nat.le_of_ble_eq_true rfl, Nat.le_of_ble_eq_true rfl⟩ (⟨by grind [belowN], rfl⟩)
              · refine v_iload_n dX0_greatestBelow_31 rfl rfl ?_
                exact v_iret dX0_greatestBelow_32 rfl ⟨Nat.le_of_ble_eq_true rfl, Nat.le_of_ble_eq_true rfl⟩ (⟨by grind [belowN], rfl⟩)
          · refine v_iload_n dX0_greatestBelow_31 rfl rfl ?_
            exact v_iret dX0_greatestBelow_32 rfl ⟨Nat.le_of_ble_eq_true rfl, Nat.le_of_ble_eq_true rfl⟩ (⟨by grind [belowN], rfl⟩)
      · refine v_iload_n dX0_greatestBelow_31 rfl rfl ?_
        exact v_iret dX0_greatestBelow_32 rfl ⟨Nat.le_of_ble_eq_true rfl, Nat.le_of_ble_eq_true rfl⟩ (⟨by grind [belowN], rfl⟩)
  · refine v_aload_n dX0_greatestBelow_21 rfl rfl ?_
    refine v_getf dX0_greatestBelow_22 fl_X0_22 (by assumption) (by rfl) rfl ?_
    refine v_iload_n dX0_greatestBelow_25 rfl rfl ?_
    refine v_iald 3 dX0_greatestBelow_26 (by assumption) rfl (by decide) (by decide) rfl ?_
    refine v_iload_n dX0_greatestBelow_27 rfl rfl ?_
    refine v_icmp_ge (tgt := 33) dX0_greatestBelow_28 (by decide) rfl (fun c28 => ?_) (fun c28 => ?_)
    · refine v_iinc (v := nI 2) dX0_greatestBelow_33 rfl (by decide) (Nat.le_of_ble_eq_true rfl) rfl ?_
      refine v_goto (tgt := 2) dX0_greatestBelow_36 (by decide) ?_
      refine v_iload_n dX0_greatestBelow_2 rfl rfl ?_
      refine v_if_lt (tgt := 39) dX0_greatestBelow_3 (by decide) rfl (fun q => absurd q (by decide)) (fun _ => ?_)
      refine v_aload_n dX0_greatestBelow_6 rfl rfl ?_
      refine v_getf dX0_greatestBelow_7 fl_X0_18 (by assumption) (by rfl) rfl ?_
      refine v_iload_n dX0_greatestBelow_10 rfl rfl ?_
      refine v_iald 2 dX0_greatestBelow_11 (by assumption) rfl (by decide) (by decide) rfl ?_
      refine v_aload_n dX0_greatestBelow_12 rfl rfl ?_
      refine v_getf dX0_greatestBelow_13 fl_X0_22 (by assumption) (by rfl) rfl ?_
      refine v_iload_n dX0_greatestBelow_16 rfl rfl ?_
      refine v_iald 2 dX0_greatestBelow_17 (by assumption) rfl (by decide) (by decide) rfl ?_
      refine v_icmp_gtA (tgt := 33) dX0_greatestBelow_18 (by decide) rfl (fun c18 => ?_) (fun c18 => ?_)
      · refine v_iinc (v := nI 1) dX0_greatestBelow_33 rfl (by decide) (Nat.le_of_ble_eq_true rfl) rfl ?_
        refine v_goto (tgt := 2) dX0_greatestBelow_36 (by decide) ?_
        refine v_iload_n dX0_greatestBelow_2 rfl rfl ?_
        refine v_if_lt (tgt := 39) dX0_greatestBelow_3 (by decide) rfl (fun q => absurd q (by decide)) (fun _ => ?_)
        refine v_aload_n dX0_greatestBelow_6 rfl rfl ?_
        refine v_getf dX0_greatestBelow_7 fl_X0_18 (by assumption) (by rfl) rfl ?_
        refine v_iload_n dX0_greatestBelow_10 rfl rfl ?_
        refine v_iald 1 dX0_greatestBelow_11 (by assumption) rfl (by decide) (by decide) rfl ?_
        refine v_aload_n dX0_greatestBelow_12 rfl rfl ?_
        refine v_getf dX0_greatestBelow_13 fl_X0_22 (by assumption) (by rfl) rfl ?_
        refine v_iload_n dX0_greatestBelow_16 rfl rfl ?_
        refine v_iald 1 dX0_greatestBelow_17 (by assumption) rfl (by decide) (by decide) rfl ?_
        refine v_icmp_gtA (tgt := 33) dX0_greatestBelow_18 (by decide) rfl (fun c18 => ?_) (fun c18 => ?_)
        · refine v_iinc (v := nI 0) dX0_greatestBelow_33 rfl (by decide) (Nat.le_of_ble_eq_true rfl) rfl ?_
          refine v_goto (tgt := 2) dX0_greatestBelow_36 (by decide) ?_
          refine v_iload_n dX0_greatestBelow_2 rfl rfl ?_
          refine v_if_lt (tgt := 39) dX0_greatestBelow_3 (by decide) rfl (fun q => absurd q (by decide)) (fun _ => ?_)
          refine v_aload_n dX0_greatestBelow_6 rfl rfl ?_
          refine v_getf dX0_greatestBelow_7 fl_X0_18 (by assumption) (by rfl) rfl ?_
          refine v_iload_n dX0_greatestBelow_10 rfl rfl ?_
          refine v_iald 0 dX0_greatestBelow_11 (by assumption) rfl (by decide) (by decide) rfl ?_
          refine v_aload_n dX0_greatestBelow_12 rfl rfl ?_
          refine v_getf dX0_greatestBelow_13 fl_X0_22 (by assumption) (by rfl) rfl ?_
          refine v_iload_n dX0_greatestBelow_16 rfl rfl ?_
          refine v_iald 0 dX0_greatestBelow_17 (by assumption) rfl (by decide) (by decide) rfl ?_
          refine v_icmp_gtA (tgt := 33) dX0_greatestBelow_18 (by decide) rfl (fun c18 => ?_) (fun c18 => ?_)
          · refine v_iinc (v := (-1)) dX0_greatestBelow_33 rfl (by decide) (Nat.le_of_ble_eq_true rfl) rfl ?_
            refine v_goto (tgt := 2) dX0_greatestBelow_36 (by decide) ?_
            refine v_iload_n dX0_greatestBelow_2 rfl rfl ?_
            refine v_if_lt (tgt := 39) dX0_greatestBelow_3 (by decide) rfl (fun _ => ?_) (fun q => absurd (by decide) q)
            refine v_iconst (v := nI 0) dX0_greatestBelow_39 (by decide) rfl ?_
            exact v_iret dX0_greatestBelow_40 rfl ⟨Nat.le_of_ble_eq_true rfl, Nat.le_of_ble_eq_true rfl⟩ (⟨by grind [belowN], rfl⟩)
          · refine v_aload_n dX0_greatestBelow_21 rfl rfl ?_
            refine v_getf dX0_greatestBelow_22 fl_X0_22 (by assumption) (by rfl) rfl ?_
            refine v_iload_n dX0_greatestBelow_25 rfl rfl ?_
            refine v_iald 0 dX0_greatestBelow_26 (by assumption) rfl (by decide) (by decide) rfl ?_
            refine v_iload_n dX0_greatestBelow_27 rfl rfl ?_
            refine v_icmp_ge (tgt := 33) dX0_greatestBelow_28 (by decide) rfl (fun c28 => ?_) (fun c28 => ?_)
            · refine v_iinc (v := (-1)) dX0_greatestBelow_33 rfl (by decide) (Nat.le_of_ble_eq_true rfl) rfl ?_
              refine v_goto (tgt := 2) dX0_greatestBelow_36 (by decide) ?_
              refine v_iload_n dX0_greatestBelow_2 rfl rfl ?_
              refine v_if_lt (tgt := 39) dX0_greatestBelow_3 (by decide) rfl (fun _ => ?_) (fun q => absurd (by decide) q)
              refine v_iconst (v := nI 0) dX0_greatestBelow_39 (by decide) rfl ?_
              exact v_iret dX0_greatestBelow_40 rfl ⟨Nat.le_of_ble_eq_true rfl, Nat.le_of_ble_eq_true rfl⟩ (⟨by grind [belowN], rfl⟩)
            · refine v_iload_n dX0_greatestBelow_31 rfl rfl ?_
              exact v_iret dX0_greatestBelow_32 rfl ⟨Nat.le_of_ble_eq_true rfl, Nat.le_of_ble_eq_true rfl⟩ (⟨by grind [belowN], rfl⟩)
        · refine v_aload_n dX0_greatestBelow_21 rfl rfl ?_
          refine v_getf dX0_greatestBelow_22 fl_X0_22 (by assumption) (by rfl) rfl ?_
          refine v_iload_n dX0_greatestBelow_25 rfl rfl ?_
          refine v_iald 1 dX0_greatestBelow_26 (by assumption) rfl (by decide) (by decide) rfl ?_
          refine v_iload_n dX0_greatestBelow_27 rfl rfl ?_
          refine v_icmp_ge (tgt := 33) dX0_greatestBelow_28 (by decide) rfl (fun c28 => ?_) (fun c28 => ?_)
          · refine v_iinc (v := nI 0) dX0_greatestBelow_33 rfl (by decide) (Nat.le_of_ble_eq_true rfl) rfl ?_
            refine v_goto (tgt := 2) dX0_greatestBelow_36 (by decide) ?_
            refine v_iload_n dX0_greatestBelow_2 rfl rfl ?_
            refine v_if_lt (tgt := 39) dX0_greatestBelow_3 (by decide) rfl (fun q => absurd q (by decide)) (fun _ => ?_)
            refine v_aload_n dX0_greatestBelow_6 rfl rfl ?_
            refine v_getf dX0_greatestBelow_7 fl_X0_18 (by assumption) (by rfl) rfl ?_
            refine v_iload_n dX0_greatestBelow_10 rfl rfl ?_
            refine v_iald 0 dX0_greatestBelow_11 (by assumption) rfl (by decide) (by decide) rfl ?_
            refine v_aload_n dX0_greatestBelow_12 rfl rfl ?_
            refine v_getf dX0_greatestBelow_13 fl_X0_22 (by assumption) (by rfl) rfl ?_
            refine v_iload_n dX0_greatestBelow_16 rfl rfl ?_
            refine v_iald 0 dX0_greatestBelow_17 (by assumption) rfl (by decide) (by decide) rfl ?_
            refine v_icmp_gtA (tgt := 33) dX0_greatestBelow_18 (by decide) rfl (fun c18 => ?_) (fun c18 => ?_)
            · refine v_iinc (v := (-1)) dX0_greatestBelow_33 rfl (by decide) (Nat.le_of_ble_eq_true rfl) rfl ?_
              refine v_goto (tgt := 2) dX0_greatestBelow_36 (by decide) ?_
              refine v_iload_n dX0_greatestBelow_2 rfl rfl ?_
              refine v_if_lt (tgt := 39) dX0_greatestBelow_3 (by decide) rfl (fun _ => ?_) (fun q => absurd (by decide) q)
              refine v_iconst (v := nI 0) dX0_greatestBelow_39 (by decide) rfl ?_
              exact v_iret dX0_greatestBelow_40 rfl ⟨Nat.le_of_ble_eq_true rfl, Nat.le_of_ble_eq_true rfl⟩ (⟨by grind [belowN], rfl⟩)
            · refine v_aload_n dX0_greatestBelow_21 rfl rfl ?_
              refine v_getf dX0_greatestBelow_22 fl_X0_22 (by assumption) (by rfl) rfl ?_
              refine v_iload_n dX0_greatestBelow_25 rfl rfl ?_
              refine v_iald 0 dX0_greatestBelow_26 (by assumption) rfl (by decide) (by decide) rfl ?_
              refine v_iload_n dX0_greatestBelow_27 rfl rfl ?_
              refine v_icmp_ge (tgt := 33) dX0_greatestBelow_28 (by decide) rfl (fun c28 => ?_) (fun c28 => ?_)
              · refine v_iinc (v := (-1)) dX0_greatestBelow_33 rfl (by decide) (Nat.le_of_ble_eq_true rfl) rfl ?_
                refine v_goto (tgt := 2) dX0_greatestBelow_36 (by decide) ?_
                refine v_iload_n dX0_greatestBelow_2 rfl rfl ?_
                refine v_if_lt (tgt := 39) dX0_greatestBelow_3 (by decide) rfl (fun _ => ?_) (fun q => absurd (by decide) q)
                refine v_iconst (v := nI 0) dX0_greatestBelow_39 (by decide) rfl ?_
                exact v_iret dX0_greatestBelow_40 rfl ⟨Nat.le_of_ble_eq_true rfl, Nat.le_of_ble_eq_true rfl⟩ (⟨by grind [belowN], rfl⟩)
              · refine v_iload_n dX0_greatestBelow_31 rfl rfl ?_
                exact v_iret dX0_greatestBelow_32 rfl ⟨Nat.le_of_ble_eq_true rfl, Nat.le_of_ble_eq_true rfl⟩ (⟨by grind [belowN], rfl⟩)
          · refine v_iload_n dX0_greatestBelow_31 rfl rfl ?_
            exact v_iret dX0_greatestBelow_32 rfl ⟨Nat.le_of_ble_eq_true rfl, Nat.le_of_ble_eq_true rfl⟩ (⟨by grind [belowN], rfl⟩)
      · refine v_aload_n dX0_greatestBelow_21 rfl rfl ?_
        refine v_getf dX0_greatestBelow_22 fl_X0_22 (by assumption) (by rfl) rfl ?_
        refine v_iload_n dX0_greatestBelow_25 rfl rfl ?_
        refine v_iald 2 dX0_greatestBelow_26 (by assumption) rfl (by decide) (by decide) rfl ?_
        refine v_iload_n dX0_greatestBelow_27 rfl rfl ?_
        refine v_icmp_ge (tgt := 33) dX0_greatestBelow_28 (by decide) rfl (fun c28 => ?_) (fun c28 => ?_)
        · refine v_iinc (v := nI 1) dX0_greatestBelow_33 rfl (by decide) (Nat.le_of_ble_eq_true rfl) rfl ?_
          refine v_goto (tgt := 2) dX0_greatestBelow_36 (by decide) ?_
          refine v_iload_n dX0_greatestBelow_2 rfl rfl ?_
          refine v_if_lt (tgt := 39) dX0_greatestBelow_3 (by decide) rfl (fun q => absurd q (by decide)) (fun _ => ?_)
          refine v_aload_n dX0_greatestBelow_6 rfl rfl ?_
          refine v_getf dX0_greatestBelow_7 fl_X0_18 (by assumption) (by rfl) rfl ?_
          refine v_iload_n dX0_greatestBelow_10 rfl rfl ?_
          refine v_iald 1 dX0_greatestBelow_11 (by assumption) rfl (by decide) (by decide) rfl ?_
          refine v_aload_n dX0_greatestBelow_12 rfl rfl ?_
          refine v_getf dX0_greatestBelow_13 fl_X0_22 (by assumption) (by rfl) rfl ?_
          refine v_iload_n dX0_greatestBelow_16 rfl rfl ?_
          refine v_iald 1 dX0_greatestBelow_17 (by assumption) rfl (by decide) (by decide) rfl ?_
          refine v_icmp_gtA (tgt := 33) dX0_greatestBelow_18 (by decide) rfl (fun c18 => ?_) (fun c18 => ?_)
          · refine v_iinc (v := nI 0) dX0_greatestBelow_33 rfl (by decide) (Nat.le_of_ble_eq_true rfl) rfl ?_
            refine v_goto (tgt := 2) dX0_greatestBelow_36 (by decide) ?_
            refine v_iload_n dX0_greatestBelow_2 rfl rfl ?_
            refine v_if_lt (tgt := 39) dX0_greatestBelow_3 (by decide) rfl (fun q => absurd q (by decide)) (fun _ => ?_)
            refine v_aload_n dX0_greatestBelow_6 rfl rfl ?_
            refine v_getf dX0_greatestBelow_7 fl_X0_18 (by assumption) (by rfl) rfl ?_
            refine v_iload_n dX0_greatestBelow_10 rfl rfl ?_
            refine v_iald 0 dX0_greatestBelow_11 (by assumption) rfl (by decide) (by decide) rfl ?_
            refine v_aload_n dX0_greatestBelow_12 rfl rfl ?_
            refine v_getf dX0_greatestBelow_13 fl_X0_22 (by assumption) (by rfl) rfl ?_
            refine v_iload_n dX0_greatestBelow_16 rfl rfl ?_
            refine v_iald 0 dX0_greatestBelow_17 (by assumption) rfl (by decide) (by decide) rfl ?_
            refine v_icmp_gtA (tgt := 33) dX0_greatestBelow_18 (by decide) rfl (fun c18 => ?_) (fun c18 => ?_)
            · refine v_iinc (v := (-1)) dX0_greatestBelow_33 rfl (by decide) (Nat.le_of_ble_eq_true rfl) rfl ?_
              refine v_goto (tgt := 2) dX0_greatestBelow_36 (by decide) ?_
              refine v_iload_n dX0_greatestBelow_2 rfl rfl ?_
              refine v_if_lt (tgt := 39) dX0_greatestBelow_3 (by decide) rfl (fun _ => ?_) (fun q => absurd (by decide) q)
              refine v_iconst (v := nI 0) dX0_greatestBelow_39 (by decide) rfl ?_
              exact v_iret dX0_greatestBelow_40 rfl ⟨Nat.le_of_ble_eq_true rfl, Nat.le_of_ble_eq_true rfl⟩ (⟨by grind [belowN], rfl⟩)
            · refine v_aload_n dX0_greatestBelow_21 rfl rfl ?_
              refine v_getf dX0_greatestBelow_22 fl_X0_22 (by assumption) (by rfl) rfl ?_
              refine v_iload_n dX0_greatestBelow_25 rfl rfl ?_
              refine v_iald 0 dX0_greatestBelow_26 (by assumption) rfl (by decide) (by decide) rfl ?_
              refine v_iload_n dX0_greatestBelow_27 rfl rfl ?_
              refine v_icmp_ge (tgt := 33) dX0_greatestBelow_28 (by decide) rfl (fun c28 => ?_) (fun c28 => ?_)
              · refine v_iinc (v := (-1)) dX0_greatestBelow_33 rfl (by decide) (Nat.le_of_ble_eq_true rfl) rfl ?_
                refine v_goto (tgt := 2) dX0_greatestBelow_36 (by decide) ?_
                refine v_iload_n dX0_greatestBelow_2 rfl rfl ?_
                refine v_if_lt (tgt := 39) dX0_greatestBelow_3 (by decide) rfl (fun _ => ?_) (fun q => absurd (by decide) q)
                refine v_iconst (v := nI 0) dX0_greatestBelow_39 (by decide) rfl ?_
                exact v_iret dX0_greatestBelow_40 rfl ⟨Nat.le_of_ble_eq_true rfl, Nat.le_of_ble_eq_true rfl⟩ (⟨by grind [belowN], rfl⟩)
              · refine v_iload_n dX0_greatestBelow_31 rfl rfl ?_
                exact v_iret dX0_greatestBelow_32 rfl ⟨Nat.le_of_ble_eq_true rfl, Nat.le_of_ble_eq_true rfl⟩ (⟨by grind [belowN], rfl⟩)
          · refine v_aload_n dX0_greatestBelow_21 rfl rfl ?_
            refine v_getf dX0_greatestBelow_22 fl_X0_22 (by assumption) (by rfl) rfl ?_
            refine v_iload_n dX0_greatestBelow_25 rfl rfl ?_
            refine v_iald 1 dX0_greatestBelow_26 (by assumption) rfl (by decide) (by decide) rfl ?_
            refine v_iload_n dX0_greatestBelow_27 rfl rfl ?_
            refine v_icmp_ge (tgt := 33) dX0_greatestBelow_28 (by decide) rfl (fun c28 => ?_) (fun c28 => ?_)
            · refine v_iinc (v := nI 0) dX0_greatestBelow_33 rfl (by decide) (Nat.le_of_ble_eq_true rfl) rfl ?_
              refine v_goto (tgt := 2) dX0_greatestBelow_36 (by decide) ?_
              refine v_iload_n dX0_greatestBelow_2 rfl rfl ?_
              refine v_if_lt (tgt := 39) dX0_greatestBelow_3 (by decide) rfl (fun q => absurd q (by decide)) (fun _ => ?_)
              refine v_aload_n dX0_greatestBelow_6 rfl rfl ?_
              refine v_getf dX0_greatestBelow_7 fl_X0_18 (by assumption) (by rfl) rfl ?_
              refine v_iload_n dX0_greatestBelow_10 rfl rfl ?_
              refine v_iald 0 dX0_greatestBelow_11 (by assumption) rfl (by decide) (by decide) rfl ?_
              refine v_aload_n dX0_greatestBelow_12 rfl rfl ?_
              refine v_getf dX0_greatestBelow_13 fl_X0_22 (by assumption) (by rfl) rfl ?_
              refine v_iload_n dX0_greatestBelow_16 rfl rfl ?_
              refine v_iald 0 dX0_greatestBelow_17 (by assumption) rfl (by decide) (by decide) rfl ?_
              refine v_icmp_gtA (tgt := 33) dX0_greatestBelow_18 (by decide) rfl (fun c18 => ?_) (fun c18 => ?_)
              · refine v_iinc (v := (-1)) dX0_greatestBelow_33 rfl (by decide) (Nat.le_of_ble_eq_true rfl) rfl ?_
                refine v_goto (tgt := 2) dX0_greatestBelow_36 (by decide) ?_
                refine v_iload_n dX0_greatestBelow_2 rfl rfl ?_
                refine v_if_lt (tgt := 39) dX0_greatestBelow_3 (by decide) rfl (fun _ => ?_) (fun q => absurd (by decide) q)
                refine v_iconst (v := nI 0) dX0_greatestBelow_39 (by decide) rfl ?_
                exact v_iret dX0_greatestBelow_40 rfl ⟨Nat.le_of_ble_eq_true rfl, Nat.le_of_ble_eq_true rfl⟩ (⟨by grind [belowN], rfl⟩)
              · refine v_aload_n dX0_greatestBelow_21 rfl rfl ?_
                refine v_getf dX0_greatestBelow_22 fl_X0_22 (by assumption) (by rfl) rfl ?_
                refine v_iload_n dX0_greatestBelow_25 rfl rfl ?_
                refine v_iald 0 dX0_greatestBelow_26 (by assumption) rfl (by decide) (by decide) rfl ?_
                refine v_iload_n dX0_greatestBelow_27 rfl rfl ?_
                refine v_icmp_ge (tgt := 33) dX0_greatestBelow_28 (by decide) rfl (fun c28 => ?_) (fun c28 => ?_)
                · refine v_iinc (v := (-1)) dX0_greatestBelow_33 rfl (by decide) (Nat.le_of_ble_eq_true rfl) rfl ?_
                  refine v_goto (tgt := 2) dX0_greatestBelow_36 (by decide) ?_
                  refine v_iload_n dX0_greatestBelow_2 rfl rfl ?_
                  refine v_if_lt (tgt := 39) dX0_greatestBelow_3 (by decide) rfl (fun _ => ?_) (fun q => absurd (by decide) q)
                  refine v_iconst (v := nI 0) dX0_greatestBelow_39 (by decide) rfl ?_
                  exact v_iret dX0_greatestBelow_40 rfl ⟨Nat.le_of_ble_eq_true rfl, Nat.le_of_ble_eq_true rfl⟩ (⟨by grind [belowN], rfl⟩)
                · refine v_iload_n dX0_greatestBelow_31 rfl rfl ?_
                  exact v_iret dX0_greatestBelow_32 rfl ⟨Nat.le_of_ble_eq_true rfl, Nat.le_of_ble_eq_true rfl⟩ (⟨by grind [belowN], rfl⟩)
            · refine v_iload_n dX0_greatestBelow_31 rfl rfl ?_
              exact v_iret dX0_greatestBelow_32 rfl ⟨Nat.le_of_ble_eq_true rfl, Nat.le_of_ble_eq_true rfl⟩ (⟨by grind [belowN], rfl⟩)
        · refine v_iload_n dX0_greatestBelow_31 rfl rfl ?_
          exact v_iret dX0_greatestBelow_32 rfl ⟨Nat.le_of_ble_eq_true rfl, Nat.le_of_ble_eq_true rfl⟩ (⟨by grind [belowN], rfl⟩)
    · refine v_iload_n dX0_greatestBelow_31 rfl rfl ?_
      exact v_iret dX0_greatestBelow_32 rfl ⟨Nat.le_of_ble_eq_true rfl, Nat.le_of_ble_eq_true rfl⟩ (⟨by grind [belowN], rfl⟩)
theorem c_filledLevel (hL : LN G hp a kd fc wt f t) (v : Int32) : Ct G mX0_filledLevel 2 0 0 [.ref (G.2.2.2 + a), .int v] hp (Qf (some (.int (nI (filledN f t v)))) hp) := by
  have h1 := hL.1
  refine Ct.start 1 (by decide) rfl (Nat.le_of_ble_eq_true rfl) ?_
  refine v_aload_n dX0_filledLevel_0 rfl rfl ?_
  refine v_iload_n dX0_filledLevel_1 rfl rfl ?_
  refine v_cvf dX0_filledLevel_2 cw_X0_28 ⟨tn_X0_strictLevel, tl_X0_strictLevel⟩ rfl (by assumption) (c_strictLevel G hp hL v) (by rfl) (by rfl) (Nat.le_of_ble_eq_true rfl) (Nat.le_of_ble_eq_true rfl) (Nat.le_of_ble_eq_true rfl) (Nat.le_of_ble_eq_true rfl) (Nat.le_of_ble_eq_true rfl) rfl ?_
  refine v_istore_n dX0_filledLevel_5 (Nat.le_of_ble_eq_true rfl) rfl ?_
  refine v_iload_n dX0_filledLevel_6 rfl rfl ?_
  refine v_sipush (v := (-900)) dX0_filledLevel_7 (by decide) rfl ?_
  refine v_icmp_ne (tgt := 21) dX0_filledLevel_10 (by decide) rfl (fun c10 => ?_) (fun c10 => ?_)
  · refine v_iload_n dX0_filledLevel_21 rfl rfl ?_
    exact v_iret dX0_filledLevel_22 rfl ⟨Nat.le_of_ble_eq_true rfl, Nat.le_of_ble_eq_true rfl⟩ (⟨by first | (rw [filled_none ‹_›]; done) | (rw [filled_some ‹_›]; done), rfl⟩)
  · refine v_aload_n dX0_filledLevel_13 rfl rfl ?_
    refine v_iload_n dX0_filledLevel_14 rfl rfl ?_
    refine v_cvf dX0_filledLevel_15 cw_X0_42 ⟨tn_X0_greatestBelow, tl_X0_greatestBelow⟩ rfl (by assumption) (c_greatestBelow G hp hL v) (by rfl) (by rfl) (Nat.le_of_ble_eq_true rfl) (Nat.le_of_ble_eq_true rfl) (Nat.le_of_ble_eq_true rfl) (Nat.le_of_ble_eq_true rfl) (Nat.le_of_ble_eq_true rfl) rfl ?_
    refine v_goto (tgt := 22) dX0_filledLevel_18 (by decide) ?_
    exact v_iret dX0_filledLevel_22 rfl ⟨Nat.le_of_ble_eq_true rfl, Nat.le_of_ble_eq_true rfl⟩ (⟨by first | (rw [filled_none ‹_›]; done) | (rw [filled_some ‹_›]; done), rfl⟩)
theorem c_kindLevel (hL : LN G hp a kd fc wt f t) (v : Int32) : Ct G mX0_kindLevel 3 0 0 [.ref (G.2.2.2 + a), .int v] hp (Qf (some (.int (nI (kindN f t v)))) hp) := by
  have hL' := hL
  obtain ⟨h1, h2, h3⟩ := hL'
  have hlt := filledN_lt f t v
  refine Ct.start 2 (by decide) rfl (Nat.le_of_ble_eq_true rfl) ?_
  refine v_aload_n dX0_kindLevel_0 rfl rfl ?_
  refine v_iload_n dX0_kindLevel_1 rfl rfl ?_
  refine v_cvf dX0_kindLevel_2 cw_X0_32 ⟨tn_X0_filledLevel, tl_X0_filledLevel⟩ rfl (by assumption) (c_filledLevel G hp hL v) (by rfl) (by rfl) (Nat.le_of_ble_eq_true rfl) (Nat.le_of_ble_eq_true rfl) (Nat.le_of_ble_eq_true rfl) (Nat.le_of_ble_eq_true rfl) (Nat.le_of_ble_eq_true rfl) rfl ?_
  refine v_istore_n dX0_kindLevel_5 (Nat.le_of_ble_eq_true rfl) rfl ?_
  refine v_aload_n dX0_kindLevel_6 rfl rfl ?_
  refine v_iload_n dX0_kindLevel_7 rfl rfl ?_
  refine v_iload_n dX0_kindLevel_8 rfl rfl ?_
  by_cases q9 : hasS f t (filledN f t v) v
  · refine v_cvf dX0_kindLevel_9 cw_X0_38 ⟨tn_X0_spanHas, tl_X0_spanHas⟩ rfl (by assumption) ((c_spanHas G hp hL hlt v).yes ‹_›) (by rfl) (by rfl) (Nat.le_of_ble_eq_true rfl) (Nat.le_of_ble_eq_true rfl) (Nat.le_of_ble_eq_true rfl) (Nat.le_of_ble_eq_true rfl) (Nat.le_of_ble_eq_true rfl) rfl ?_
    refine v_if_eq (tgt := 29) dX0_kindLevel_12 (by decide) rfl (fun q => absurd q (by decide)) (fun _ => ?_)
    refine v_aload_n dX0_kindLevel_15 rfl rfl ?_
    refine v_getf dX0_kindLevel_16 fl_X0_22 (by assumption) (by rfl) rfl ?_
    refine v_iload_n dX0_kindLevel_19 rfl rfl ?_
    refine v_iald _ dX0_kindLevel_20 (by assumption) rfl (by omega) (by decide) rfl ?_
    refine v_iload_n dX0_kindLevel_21 rfl rfl ?_
    refine v_icmp_ne (tgt := 29) dX0_kindLevel_22 (by decide) rfl (fun c22 => ?_) (fun c22 => ?_)
    · refine v_iconst (v := nI 0) dX0_kindLevel_29 (by decide) rfl ?_
      refine v_istore_n dX0_kindLevel_30 (Nat.le_of_ble_eq_true rfl) rfl ?_
      refine v_iload_n dX0_kindLevel_31 rfl rfl ?_
      refine v_if_eq (tgt := 45) dX0_kindLevel_32 (by decide) rfl (fun _ => ?_) (fun q => absurd (by decide) q)
      refine v_iload_n dX0_kindLevel_45 rfl rfl ?_
      exact v_iret dX0_kindLevel_46 rfl ⟨Nat.le_of_ble_eq_true rfl, Nat.le_of_ble_eq_true rfl⟩ (⟨by (by_cases hl : lastS f t v) <;> first | (rw [kindN, if_pos hl]; done) | (rw [kindN, if_neg hl]; done) | exact absurd (And.intro q9 c22) hl | exact absurd hl.1 q9 | exact absurd hl.2 c22, rfl⟩)
    · refine v_iconst (v := nI 1) dX0_kindLevel_25 (by decide) rfl ?_
      refine v_goto (tgt := 30) dX0_kindLevel_26 (by decide) ?_
      refine v_istore_n dX0_kindLevel_30 (Nat.le_of_ble_eq_true rfl) rfl ?_
      refine v_iload_n dX0_kindLevel_31 rfl rfl ?_
      refine v_if_eq (tgt := 45) dX0_kindLevel_32 (by decide) rfl (fun q => absurd q (by decide)) (fun _ => ?_)
      refine v_iconst (v := nI 3) dX0_kindLevel_35 (by decide) rfl ?_
      refine v_iload_n dX0_kindLevel_36 rfl rfl ?_
      refine v_iconst (v := nI 1) dX0_kindLevel_37 (by decide) rfl ?_
      refine v_iaddN dX0_kindLevel_38 rfl ?_
      refine v_csf dX0_kindLevel_39 cw_X0_45 ts_J9_min_7cf53 ((c_min G hp (nI 3) (nI (filledN f t v + 1))).is (min_lv _ hlt)) (by rfl) (by rfl) (Nat.le_of_ble_eq_true rfl) (Nat.le_of_ble_eq_true rfl) (Nat.le_of_ble_eq_true rfl) (Nat.le_of_ble_eq_true rfl) (Nat.le_of_ble_eq_true rfl) rfl ?_
      refine v_goto (tgt := 46) dX0_kindLevel_42 (by decide) ?_
      exact v_iret dX0_kindLevel_46 rfl ⟨Nat.le_of_ble_eq_true rfl, Nat.le_of_ble_eq_true rfl⟩ (⟨by (by_cases hl : lastS f t v) <;> first | (rw [kindN, if_pos hl]; done) | (rw [kindN, if_neg hl]; done) | exact absurd (And.intro q9 c22) hl | exact absurd hl.1 q9 | exact absurd hl.2 c22, rfl⟩)
  · refine v_cvf dX0_kindLevel_9 cw_X0_38 ⟨tn_X0_spanHas, tl_X0_spanHas⟩ rfl (by assumption) ((c_spanHas G hp hL hlt v).no ‹_›) (by rfl) (by rfl) (Nat.le_of_ble_eq_true rfl) (Nat.le_of_ble_eq_true rfl) (Nat.le_of_ble_eq_true rfl) (Nat.le_of_ble_eq_true rfl) (Nat.le_of_ble_eq_true rfl) rfl ?_
    refine v_if_eq (tgt := 29) dX0_kindLevel_12 (by decide) rfl (fun _ => ?_) (fun q => absurd (by decide) q)
    refine v_iconst (v := nI 0) dX0_kindLevel_29 (by decide) rfl ?_
    refine v_istore_n dX0_kindLevel_30 (Nat.le_of_ble_eq_true rfl) rfl ?_
    refine v_iload_n dX0_kindLevel_31 rfl rfl ?_
    refine v_if_eq (tgt := 45) dX0_kindLevel_32 (by decide) rfl (fun _ => ?_) (fun q => absurd (by decide) q)
    refine v_iload_n dX0_kindLevel_45 rfl rfl ?_
    exact v_iret dX0_kindLevel_46 rfl ⟨Nat.le_of_ble_eq_true rfl, Nat.le_of_ble_eq_true rfl⟩ (⟨by (by_cases hl : lastS f t v) <;> first | (rw [kindN, if_pos hl]; done) | (rw [kindN, if_neg hl]; done) | exact absurd (And.intro q9 c22) hl | exact absurd hl.1 q9 | exact absurd hl.2 c22, rfl⟩)
theorem c_levelFor (hL : LN G hp a kd fc wt f t) (v : Int32) : Ct G mX0_levelFor 4 0 0 [.ref (G.2.2.2 + a), .int v] hp (Qf (some (.int (oI (levelO kd f t v)))) hp) := by
  have h1 := hL.1
  refine Ct.start 0 (by decide) rfl (Nat.le_of_ble_eq_true rfl) ?_
  refine v_aload_n dX0_levelFor_0 rfl rfl ?_
  refine v_getf dX0_levelFor_1 fl_X0_9 (by assumption) (by rfl) rfl ?_
  refine v_if_ne (tgt := 15) dX0_levelFor_4 (by decide) rfl (fun c4 => ?_) (fun c4 => ?_)
  · refine v_aload_n dX0_levelFor_15 rfl rfl ?_
    refine v_getf dX0_levelFor_16 fl_X0_9 (by assumption) (by rfl) rfl ?_
    refine v_iconst (v := nI 1) dX0_levelFor_19 (by decide) rfl ?_
    refine v_icmp_ne (tgt := 31) dX0_levelFor_20 (by decide) rfl (fun c20 => ?_) (fun c20 => ?_)
    · refine v_aload_n dX0_levelFor_31 rfl rfl ?_
      refine v_iload_n dX0_levelFor_32 rfl rfl ?_
      refine v_cvf dX0_levelFor_33 cw_X0_35 ⟨tn_X0_kindLevel, tl_X0_kindLevel⟩ rfl (by assumption) (c_kindLevel G hp hL v) (by rfl) (by rfl) (Nat.le_of_ble_eq_true rfl) (Nat.le_of_ble_eq_true rfl) (Nat.le_of_ble_eq_true rfl) (Nat.le_of_ble_eq_true rfl) (Nat.le_of_ble_eq_true rfl) rfl ?_
      exact v_iret dX0_levelFor_36 rfl ⟨Nat.le_of_ble_eq_true rfl, Nat.le_of_ble_eq_true rfl⟩ (⟨by first | (rw [levelO, if_pos ‹_›]; done) | (rw [levelO, if_neg ‹_›, if_pos ‹_›]; rfl) | (rw [levelO, if_neg ‹_›, if_neg ‹_›]; rfl), rfl⟩)
    · refine v_aload_n dX0_levelFor_23 rfl rfl ?_
      refine v_iload_n dX0_levelFor_24 rfl rfl ?_
      refine v_cvf dX0_levelFor_25 cw_X0_32 ⟨tn_X0_filledLevel, tl_X0_filledLevel⟩ rfl (by assumption) (c_filledLevel G hp hL v) (by rfl) (by rfl) (Nat.le_of_ble_eq_true rfl) (Nat.le_of_ble_eq_true rfl) (Nat.le_of_ble_eq_true rfl) (Nat.le_of_ble_eq_true rfl) (Nat.le_of_ble_eq_true rfl) rfl ?_
      refine v_goto (tgt := 36) dX0_levelFor_28 (by decide) ?_
      exact v_iret dX0_levelFor_36 rfl ⟨Nat.le_of_ble_eq_true rfl, Nat.le_of_ble_eq_true rfl⟩ (⟨by first | (rw [levelO, if_pos ‹_›]; done) | (rw [levelO, if_neg ‹_›, if_pos ‹_›]; rfl) | (rw [levelO, if_neg ‹_›, if_neg ‹_›]; rfl), rfl⟩)
  · refine v_aload_n dX0_levelFor_7 rfl rfl ?_
    refine v_iload_n dX0_levelFor_8 rfl rfl ?_
    refine v_cvf dX0_levelFor_9 cw_X0_28 ⟨tn_X0_strictLevel, tl_X0_strictLevel⟩ rfl (by assumption) (c_strictLevel G hp hL v) (by rfl) (by rfl) (Nat.le_of_ble_eq_true rfl) (Nat.le_of_ble_eq_true rfl) (Nat.le_of_ble_eq_true rfl) (Nat.le_of_ble_eq_true rfl) (Nat.le_of_ble_eq_true rfl) rfl ?_
    refine v_goto (tgt := 36) dX0_levelFor_12 (by decide) ?_
    exact v_iret dX0_levelFor_36 rfl ⟨Nat.le_of_ble_eq_true rfl, Nat.le_of_ble_eq_true rfl⟩ (⟨by first | (rw [levelO, if_pos ‹_›]; done) | (rw [levelO, if_neg ‹_›, if_pos ‹_›]; rfl) | (rw [levelO, if_neg ‹_›, if_neg ‹_›]; rfl), rfl⟩)
def trcI (kd : Int32) : Int32 := if kd = 0 then nI 1 else if kd = nI 1 then nI 11 else nI 111
theorem c_traceOfAsking (hL : LN G hp a kd fc wt f t) : Ct G mX0_traceOfAsking 0 0 0 [.ref (G.2.2.2 + a)] hp (Qf (some (.int (trcI kd))) hp) := by
  have h1 := hL.1
  refine Ct.start 0 (by decide) rfl (Nat.le_of_ble_eq_true rfl) ?_
  refine v_aload_n dX0_traceOfAsking_0 rfl rfl ?_
  refine v_getf dX0_traceOfAsking_1 fl_X0_9 (by assumption) (by rfl) rfl ?_
  refine v_if_ne (tgt := 9) dX0_traceOfAsking_4 (by decide) rfl (fun c4 => ?_) (fun c4 => ?_)
  · refine v_aload_n dX0_traceOfAsking_9 rfl rfl ?_
    refine v_getf dX0_traceOfAsking_10 fl_X0_9 (by assumption) (by rfl) rfl ?_
    refine v_iconst (v := nI 1) dX0_traceOfAsking_13 (by decide) rfl ?_
    refine v_icmp_ne (tgt := 22) dX0_traceOfAsking_14 (by decide) rfl (fun c14 => ?_) (fun c14 => ?_)
    · refine v_bipush (v := nI 111) dX0_traceOfAsking_22 (by decide) rfl ?_
      exact v_iret dX0_traceOfAsking_24 rfl ⟨Nat.le_of_ble_eq_true rfl, Nat.le_of_ble_eq_true rfl⟩ (⟨by grind [trcI], rfl⟩)
    · refine v_bipush (v := nI 11) dX0_traceOfAsking_17 (by decide) rfl ?_
      refine v_goto (tgt := 24) dX0_traceOfAsking_19 (by decide) ?_
      exact v_iret dX0_traceOfAsking_24 rfl ⟨Nat.le_of_ble_eq_true rfl, Nat.le_of_ble_eq_true rfl⟩ (⟨by grind [trcI], rfl⟩)
  · refine v_iconst (v := nI 1) dX0_traceOfAsking_7 (by decide) rfl ?_
    exact v_iret dX0_traceOfAsking_8 rfl ⟨Nat.le_of_ble_eq_true rfl, Nat.le_of_ble_eq_true rfl⟩ (⟨by grind [trcI], rfl⟩)
/-- how many SPANS have v -/
noncomputable def spC (f t : Nat → Int32) (v : Int32) : Nat → Nat := cnt (fun k => hasS f t k v)
theorem c_countSpansWith (hL : LN G hp a kd fc wt f t) (v : Int32) : Ct G mX0_countSpansWith 1 0 0 [.ref (G.2.2.2 + a), .int v] hp (Qf (some (.int (nI (spC f t v 4)))) hp) := by
  have h1 := hL.1
  have key : ∀ k, k ≤ 4 → Vm G mX0_countSpansWith 1 0 0 (Qf (some (.int (nI (spC f t v 4)))) hp) 4 [some (.ref (G.2.2.2 + a)), some (.int v), some (.int (nI (spC f t v k))), some (.int (nI k))] [] hp 0 0 := by
    refine loop_up ?_ (fun k hk ih => ?_)
    · refine v_iload_n dX0_countSpansWith_4 rfl rfl ?_
      refine v_iconst (v := nI 4) dX0_countSpansWith_5 (by decide) rfl ?_
      refine v_icmp_ge (tgt := 27) dX0_countSpansWith_6 (by decide) rfl (fun _ => ?_) (fun q => absurd (by decide) q)
      refine v_iload_n dX0_countSpansWith_27 rfl rfl ?_
      exact v_iret dX0_countSpansWith_28 rfl ⟨Nat.le_of_ble_eq_true rfl, Nat.le_of_ble_eq_true rfl⟩ (⟨rfl, rfl⟩)
    · have hc := cnt_le (fun k => hasS f t k v) k
      refine v_iload_n dX0_countSpansWith_4 rfl rfl ?_
      refine v_iconst (v := nI 4) dX0_countSpansWith_5 (by decide) rfl ?_
      refine v_icmp_geN (tgt := 27) dX0_countSpansWith_6 (by decide) rfl (by omega) (by omega) (fun c6 => ?_) (fun c6 => ?_)
      · exact absurd c6 (by omega)
      · refine v_aload_n dX0_countSpansWith_9 rfl rfl ?_
        refine v_iload_n dX0_countSpansWith_10 rfl rfl ?_
        refine v_iload_n dX0_countSpansWith_11 rfl rfl ?_
        by_cases q12 : hasS f t k v
        · refine v_cvf dX0_countSpansWith_12 cw_X0_38 ⟨tn_X0_spanHas, tl_X0_spanHas⟩ rfl (by assumption) ((c_spanHas G hp hL hk v).yes ‹_›) (by rfl) (by rfl) (Nat.le_of_ble_eq_true rfl) (Nat.le_of_ble_eq_true rfl) (Nat.le_of_ble_eq_true rfl) (Nat.le_of_ble_eq_true rfl) (Nat.le_of_ble_eq_true rfl) rfl ?_
          refine v_if_eq (tgt := 21) dX0_countSpansWith_15 (by decide) rfl (fun q => absurd q (by decide)) (fun _ => ?_)
          refine v_iinc1 dX0_countSpansWith_18 rfl (Nat.le_of_ble_eq_true rfl) rfl ?_
          refine v_iinc1 dX0_countSpansWith_21 rfl (Nat.le_of_ble_eq_true rfl) rfl ?_
          refine v_goto (tgt := 4) dX0_countSpansWith_24 (by decide) ?_
          first | (rw [show spC f t v (k + 1) = spC f t v k + 1 from cnt_t ‹_›] at ih; exact ih) | (rw [show spC f t v (k + 1) = spC f t v k from cnt_f ‹_›] at ih; exact ih)
        · refine v_cvf dX0_countSpansWith_12 cw_X0_38 ⟨tn_X0_spanHas, tl_X0_spanHas⟩ rfl (by assumption) ((c_spanHas G hp hL hk v).no ‹_›) (by rfl) (by rfl) (Nat.le_of_ble_eq_true rfl) (Nat.le_of_ble_eq_true rfl) (Nat.le_of_ble_eq_true rfl) (Nat.le_of_ble_eq_true rfl) (Nat.le_of_ble_eq_true rfl) rfl ?_
          refine v_if_eq (tgt := 21) dX0_countSpansWith_15 (by decide) rfl (fun _ => ?_) (fun q => absurd (by decide) q)
          refine v_iinc1 dX0_countSpansWith_21 rfl (Nat.le_of_ble_eq_true rfl) rfl ?_
          refine v_goto (tgt := 4) dX0_countSpansWith_24 (by decide) ?_
          first | (rw [show spC f t v (k + 1) = spC f t v k + 1 from cnt_t ‹_›] at ih; exact ih) | (rw [show spC f t v (k + 1) = spC f t v k from cnt_f ‹_›] at ih; exact ih)
  refine Ct.start 2 (by decide) rfl (Nat.le_of_ble_eq_true rfl) ?_
  refine v_iconst (v := nI 0) dX0_countSpansWith_0 (by decide) rfl ?_
  refine v_istore_n dX0_countSpansWith_1 (Nat.le_of_ble_eq_true rfl) rfl ?_
  refine v_iconst (v := nI 0) dX0_countSpansWith_2 (by decide) rfl ?_
  refine v_istore_n dX0_countSpansWith_3 (Nat.le_of_ble_eq_true rfl) rfl ?_
  exact key 0 (by decide)
end LINE
end
section
/-! A LINE: GAPS, OVERLAPS, SENSIBLE; a WORK's yes and no -/
noncomputable def orTo (p : Nat → Prop) : Nat → Int32
  | 0 => nI 0
  | n + 1 => @ite _ (p n) (Classical.propDecidable (p n)) (orTo p n ||| (nI 1 <<< (nI n &&& 31))) (orTo p n)
theorem orTo_t {p : Nat → Prop} {n : Nat} (h : p n) : orTo p (n + 1) = orTo p n ||| (nI 1 <<< (nI n &&& 31)) := if_pos h
theorem orTo_f {p : Nat → Prop} {n : Nat} (h : ¬ p n) : orTo p (n + 1) = orTo p n := if_neg h
def gapP (f t : Nat → Int32) (v : Nat) : Prop := spC f t (nI v) 4 = 0
def ovrP (f t : Nat → Int32) (v : Nat) : Prop := 2 ≤ spC f t (nI v) 4
def lvI (kd : Int32) (f t : Nat → Int32) (v : Nat) : Int32 := oI (levelO kd f t (nI v))
def nfP (kd : Int32) (f t : Nat → Int32) (n : Nat) : Prop := ∀ j, j + 1 < n → lvI kd f t j ≤ lvI kd f t (j + 1)
def senP (kd : Int32) (f t : Nat → Int32) : Prop := orTo (gapP f t) 10 = 0 ∧ orTo (ovrP f t) 10 = 0 ∧ nfP kd f t 10
section SENSE
variable (G : GG) (hp : List va_E) {a : Nat} {kd fc wt : Int32} {f t : Nat → Int32}
theorem c_gaps (hL : LN G hp a kd fc wt f t) : Ct G mX0_gaps 2 0 0 [.ref (G.2.2.2 + a)] hp (Qf (some (.int (orTo (gapP f t) 10))) hp) := by
  have h1 := hL.1
  have key : ∀ k, k ≤ 10 → Vm G mX0_gaps 2 0 0 (Qf (some (.int (orTo (gapP f t) 10))) hp) 4 [some (.ref (G.2.2.2 + a)), some (.int (orTo (gapP f t) k)), some (.int (nI k))] [] hp 0 0 := by
    refine loop_up ?_ (fun k hk ih => ?_)
    · refine v_iload_n dX0_gaps_4 rfl rfl ?_
      refine v_bipush (v := nI 9) dX0_gaps_5 (by decide) rfl ?_
      refine v_icmp_gt (tgt := 30) dX0_gaps_7 (by decide) rfl (fun _ => ?_) (fun q => absurd (by decide) q)
      refine v_iload_n dX0_gaps_30 rfl rfl ?_
      exact v_iret dX0_gaps_31 rfl ⟨Nat.le_of_ble_eq_true rfl, Nat.le_of_ble_eq_true rfl⟩ (⟨rfl, rfl⟩)
    · have hc : spC f t (nI k) 4 ≤ 4 := cnt_le _ 4
      refine v_iload_n dX0_gaps_4 rfl rfl ?_
      refine v_bipush (v := nI 9) dX0_gaps_5 (by decide) rfl ?_
      refine v_icmp_gtN (tgt := 30) dX0_gaps_7 (by decide) rfl (by omega) (by omega) (fun c7 => ?_) (fun c7 => ?_)
      · exact absurd c7 (by omega)
      · refine v_aload_n dX0_gaps_10 rfl rfl ?_
        refine v_iload_n dX0_gaps_11 rfl rfl ?_
        refine v_cvf dX0_gaps_12 cw_X0_51 ⟨tn_X0_countSpansWith, tl_X0_countSpansWith⟩ rfl (by assumption) (c_countSpansWith G hp hL (nI k)) (by rfl) (by rfl) (Nat.le_of_ble_eq_true rfl) (Nat.le_of_ble_eq_true rfl) (Nat.le_of_ble_eq_true rfl) (Nat.le_of_ble_eq_true rfl) (Nat.le_of_ble_eq_true rfl) rfl ?_
        refine v_if_neN (tgt := 24) dX0_gaps_15 (by decide) rfl (by omega) (fun c15 => ?_) (fun c15 => ?_)
        · refine v_iinc1 dX0_gaps_24 rfl (Nat.le_of_ble_eq_true rfl) rfl ?_
          refine v_goto (tgt := 4) dX0_gaps_27 (by decide) ?_
          first | (rw [orTo_t (p := gapP f t) (n := k) ‹_›] at ih; exact ih) | (rw [orTo_f (p := gapP f t) (n := k) ‹_›] at ih; exact ih)
        · refine v_iload_n dX0_gaps_18 rfl rfl ?_
          refine v_iconst (v := nI 1) dX0_gaps_19 (by decide) rfl ?_
          refine v_iload_n dX0_gaps_20 rfl rfl ?_
          refine v_ishl dX0_gaps_21 rfl ?_
          refine v_ior dX0_gaps_22 rfl ?_
          refine v_istore_n dX0_gaps_23 (Nat.le_of_ble_eq_true rfl) rfl ?_
          refine v_iinc1 dX0_gaps_24 rfl (Nat.le_of_ble_eq_true rfl) rfl ?_
          refine v_goto (tgt := 4) dX0_gaps_27 (by decide) ?_
          first | (rw [orTo_t (p := gapP f t) (n := k) ‹_›] at ih; exact ih) | (rw [orTo_f (p := gapP f t) (n := k) ‹_›] at ih; exact ih)
  refine Ct.start 2 (by decide) rfl (Nat.le_of_ble_eq_true rfl) ?_
  refine v_iconst (v := nI 0) dX0_gaps_0 (by decide) rfl ?_
  refine v_istore_n dX0_gaps_1 (Nat.le_of_ble_eq_true rfl) rfl ?_
  refine v_iconst (v := nI 0) dX0_gaps_2 (by decide) rfl ?_
  refine v_istore_n dX0_gaps_3 (Nat.le_of_ble_eq_true rfl) rfl ?_
  exact key 0 (by decide)
theorem c_overlaps (hL : LN G hp a kd fc wt f t) : Ct G mX0_overlaps 2 0 0 [.ref (G.2.2.2 + a)] hp (Qf (some (.int (orTo (ovrP f t) 10))) hp) := by
  have h1 := hL.1
  have key : ∀ k, k ≤ 10 → Vm G mX0_overlaps 2 0 0 (Qf (some (.int (orTo (ovrP f t) 10))) hp) 4 [some (.ref (G.2.2.2 + a)), some (.int (orTo (ovrP f t) k)), some (.int (nI k))] [] hp 0 0 := by
    refine loop_up ?_ (fun k hk ih => ?_)
    · refine v_iload_n dX0_overlaps_4 rfl rfl ?_
      refine v_bipush (v := nI 9) dX0_overlaps_5 (by decide) rfl ?_
      refine v_icmp_gt (tgt := 31) dX0_overlaps_7 (by decide) rfl (fun _ => ?_) (fun q => absurd (by decide) q)
      refine v_iload_n dX0_overlaps_31 rfl rfl ?_
      exact v_iret dX0_overlaps_32 rfl ⟨Nat.le_of_ble_eq_true rfl, Nat.le_of_ble_eq_true rfl⟩ (⟨rfl, rfl⟩)
    · have hc : spC f t (nI k) 4 ≤ 4 := cnt_le _ 4
      refine v_iload_n dX0_overlaps_4 rfl rfl ?_
      refine v_bipush (v := nI 9) dX0_overlaps_5 (by decide) rfl ?_
      refine v_icmp_gtN (tgt := 31) dX0_overlaps_7 (by decide) rfl (by omega) (by omega) (fun c7 => ?_) (fun c7 => ?_)
      · exact absurd c7 (by omega)
      · refine v_aload_n dX0_overlaps_10 rfl rfl ?_
        refine v_iload_n dX0_overlaps_11 rfl rfl ?_
        refine v_cvf dX0_overlaps_12 cw_X0_51 ⟨tn_X0_countSpansWith, tl_X0_countSpansWith⟩ rfl (by assumption) (c_countSpansWith G hp hL (nI k)) (by rfl) (by rfl) (Nat.le_of_ble_eq_true rfl) (Nat.le_of_ble_eq_true rfl) (Nat.le_of_ble_eq_true rfl) (Nat.le_of_ble_eq_true rfl) (Nat.le_of_ble_eq_true rfl) rfl ?_
        refine v_iconst (v := nI 2) dX0_overlaps_15 (by decide) rfl ?_
        refine v_icmp_ltN (tgt := 25) dX0_overlaps_16 (by decide) rfl (by omega) (by omega) (fun c16 => ?_) (fun c16 => ?_)
        · refine v_iinc1 dX0_overlaps_25 rfl (Nat.le_of_ble_eq_true rfl) rfl ?_
          refine v_goto (tgt := 4) dX0_overlaps_28 (by decide) ?_
          first | (rw [orTo_t (p := ovrP f t) (n := k) ‹_›] at ih; exact ih) | (rw [orTo_f (p := ovrP f t) (n := k) (Nat.not_le.mpr ‹_›)] at ih; exact ih)
        · refine v_iload_n dX0_overlaps_19 rfl rfl ?_
          refine v_iconst (v := nI 1) dX0_overlaps_20 (by decide) rfl ?_
          refine v_iload_n dX0_overlaps_21 rfl rfl ?_
          refine v_ishl dX0_overlaps_22 rfl ?_
          refine v_ior dX0_overlaps_23 rfl ?_
          refine v_istore_n dX0_overlaps_24 (Nat.le_of_ble_eq_true rfl) rfl ?_
          refine v_iinc1 dX0_overlaps_25 rfl (Nat.le_of_ble_eq_true rfl) rfl ?_
          refine v_goto (tgt := 4) dX0_overlaps_28 (by decide) ?_
          first | (rw [orTo_t (p := ovrP f t) (n := k) ‹_›] at ih; exact ih) | (rw [orTo_f (p := ovrP f t) (n := k) (Nat.not_le.mpr ‹_›)] at ih; exact ih)
  refine Ct.start 2 (by decide) rfl (Nat.le_of_ble_eq_true rfl) ?_
  refine v_iconst (v := nI 0) dX0_overlaps_0 (by decide) rfl ?_
  refine v_istore_n dX0_overlaps_1 (Nat.le_of_ble_eq_true rfl) rfl ?_
  refine v_iconst (v := nI 0) dX0_overlaps_2 (by decide) rfl ?_
  refine v_istore_n dX0_overlaps_3 (Nat.le_of_ble_eq_true rfl) rfl ?_
  exact key 0 (by decide)
theorem c_neverFalls (hL : LN G hp a kd fc wt f t) : Ct G mX0_neverFalls 5 0 0 [.ref (G.2.2.2 + a)] hp (Qf (some (.int (bP (nfP kd f t 10)))) hp) := by
  have h1 := hL.1
  have key : ∀ k, k ≤ 9 → nfP kd f t (k + 1) → Vm G mX0_neverFalls 5 0 0 (Qf (some (.int (bP (nfP kd f t 10)))) hp) 2 [some (.ref (G.2.2.2 + a)), some (.int (nI (k + 1)))] [] hp 0 0 := by
    refine loop_up ?_ (fun k hk ih => ?_)
    · intro hn
      refine v_iload_n dX0_neverFalls_2 rfl rfl ?_
      refine v_bipush (v := nI 9) dX0_neverFalls_3 (by decide) rfl ?_
      refine v_icmp_gt (tgt := 31) dX0_neverFalls_5 (by decide) rfl (fun _ => ?_) (fun q => absurd (by decide) q)
      refine v_iconst (v := nI 1) dX0_neverFalls_31 (by decide) rfl ?_
      exact v_zret dX0_neverFalls_32 rfl (by rfl) ⟨Nat.le_of_ble_eq_true rfl, Nat.le_of_ble_eq_true rfl⟩ (⟨by rw [bP_t hn], rfl⟩)
    · intro hn
      refine v_iload_n dX0_neverFalls_2 rfl rfl ?_
      refine v_bipush (v := nI 9) dX0_neverFalls_3 (by decide) rfl ?_
      refine v_icmp_gtN (tgt := 31) dX0_neverFalls_5 (by decide) rfl (by omega) (by omega) (fun c5 => ?_) (fun c5 => ?_)
      · exact absurd c5 (by omega)
      · refine v_aload_n dX0_neverFalls_8 rfl rfl ?_
        refine v_iload_n dX0_neverFalls_9 rfl rfl ?_
        refine v_cvf dX0_neverFalls_10 cw_X0_65 ⟨tn_X0_levelFor, tl_X0_levelFor⟩ rfl (by assumption) (c_levelFor G hp hL (nI (k + 1))) (by rfl) (by rfl) (Nat.le_of_ble_eq_true rfl) (Nat.le_of_ble_eq_true rfl) (Nat.le_of_ble_eq_true rfl) (Nat.le_of_ble_eq_true rfl) (Nat.le_of_ble_eq_true rfl) rfl ?_
        refine v_aload_n dX0_neverFalls_13 rfl rfl ?_
        refine v_iload_n dX0_neverFalls_14 rfl rfl ?_
        refine v_iconst (v := nI 1) dX0_neverFalls_15 (by decide) rfl ?_
        refine v_isubN dX0_neverFalls_16 (by omega) rfl ?_
        refine v_cvf dX0_neverFalls_17 cw_X0_65 ⟨tn_X0_levelFor, tl_X0_levelFor⟩ rfl (by assumption) (c_levelFor G hp hL (nI (k + 1 - 1))) (by rfl) (by rfl) (Nat.le_of_ble_eq_true rfl) (Nat.le_of_ble_eq_true rfl) (Nat.le_of_ble_eq_true rfl) (Nat.le_of_ble_eq_true rfl) (Nat.le_of_ble_eq_true rfl) rfl ?_
        refine v_icmp_ge (tgt := 25) dX0_neverFalls_20 (by decide) rfl (fun c20 => ?_) (fun c20 => ?_)
        · refine v_iinc1 dX0_neverFalls_25 rfl (Nat.le_of_ble_eq_true rfl) rfl ?_
          refine v_goto (tgt := 2) dX0_neverFalls_28 (by decide) ?_
          exact ih (fun j hj => by
                    rcases Nat.lt_or_ge (j + 1) (k + 1) with q | q
                    · exact hn j q
                    · rw [show j = k by omega]; exact c20)
        · refine v_iconst (v := nI 0) dX0_neverFalls_23 (by decide) rfl ?_
          exact v_zret dX0_neverFalls_24 rfl (by rfl) ⟨Nat.le_of_ble_eq_true rfl, Nat.le_of_ble_eq_true rfl⟩ (⟨by rw [bP_f (fun h => c20 (h k (by omega)))], rfl⟩)
  refine Ct.start 1 (by decide) rfl (Nat.le_of_ble_eq_true rfl) ?_
  refine v_iconst (v := nI 1) dX0_neverFalls_0 (by decide) rfl ?_
  refine v_istore_n dX0_neverFalls_1 (Nat.le_of_ble_eq_true rfl) rfl ?_
  exact key 0 (by decide) (fun j hj => absurd hj (by omega))
theorem c_lineSensible (hL : LN G hp a kd fc wt f t) : Ct G mX0_isSensible 6 0 0 [.ref (G.2.2.2 + a)] hp (Qf (some (.int (bP (senP kd f t)))) hp) := by
  have h1 := hL.1
  refine Ct.start 0 (by decide) rfl (Nat.le_of_ble_eq_true rfl) ?_
  refine v_aload_n dX0_isSensible_0 rfl rfl ?_
  refine v_cvf dX0_isSensible_1 cw_X0_54 ⟨tn_X0_gaps, tl_X0_gaps⟩ rfl (by assumption) (c_gaps G hp hL) (by rfl) (by rfl) (Nat.le_of_ble_eq_true rfl) (Nat.le_of_ble_eq_true rfl) (Nat.le_of_ble_eq_true rfl) (Nat.le_of_ble_eq_true rfl) (Nat.le_of_ble_eq_true rfl) rfl ?_
  refine v_if_ne (tgt := 25) dX0_isSensible_4 (by decide) rfl (fun c4 => ?_) (fun c4 => ?_)
  · refine v_iconst (v := nI 0) dX0_isSensible_25 (by decide) rfl ?_
    exact v_zret dX0_isSensible_26 rfl (by rfl) ⟨Nat.le_of_ble_eq_true rfl, Nat.le_of_ble_eq_true rfl⟩ (⟨by first | (rw [bP_t (show senP kd f t from ⟨‹_›, ‹_›, ‹_›⟩)]; done) | (rw [bP_f (show ¬ senP kd f t from fun h => absurd h.1 ‹_›)]; done) | (rw [bP_f (show ¬ senP kd f t from fun h => absurd h.2.1 ‹_›)]; done) | (rw [bP_f (show ¬ senP kd f t from fun h => absurd h.2.2 ‹_›)]; done), rfl⟩)
  · refine v_aload_n dX0_isSensible_7 rfl rfl ?_
    refine v_cvf dX0_isSensible_8 cw_X0_58 ⟨tn_X0_overlaps, tl_X0_overlaps⟩ rfl (by assumption) (c_overlaps G hp hL) (by rfl) (by rfl) (Nat.le_of_ble_eq_true rfl) (Nat.le_of_ble_eq_true rfl) (Nat.le_of_ble_eq_true rfl) (Nat.le_of_ble_eq_true rfl) (Nat.le_of_ble_eq_true rfl) rfl ?_
    refine v_if_ne (tgt := 25) dX0_isSensible_11 (by decide) rfl (fun c11 => ?_) (fun c11 => ?_)
    · refine v_iconst (v := nI 0) dX0_isSensible_25 (by decide) rfl ?_
      exact v_zret dX0_isSensible_26 rfl (by rfl) ⟨Nat.le_of_ble_eq_true rfl, Nat.le_of_ble_eq_true rfl⟩ (⟨by first | (rw [bP_t (show senP kd f t from ⟨‹_›, ‹_›, ‹_›⟩)]; done) | (rw [bP_f (show ¬ senP kd f t from fun h => absurd h.1 ‹_›)]; done) | (rw [bP_f (show ¬ senP kd f t from fun h => absurd h.2.1 ‹_›)]; done) | (rw [bP_f (show ¬ senP kd f t from fun h => absurd h.2.2 ‹_›)]; done), rfl⟩)
    · refine v_aload_n dX0_isSensible_14 rfl rfl ?_
      by_cases q15 : nfP kd f t 10
      · refine v_cvf dX0_isSensible_15 cw_X0_61 ⟨tn_X0_neverFalls, tl_X0_neverFalls⟩ rfl (by assumption) ((c_neverFalls G hp hL).yes ‹_›) (by rfl) (by rfl) (Nat.le_of_ble_eq_true rfl) (Nat.le_of_ble_eq_true rfl) (Nat.le_of_ble_eq_true rfl) (Nat.le_of_ble_eq_true rfl) (Nat.le_of_ble_eq_true rfl) rfl ?_
        refine v_if_eq (tgt := 25) dX0_isSensible_18 (by decide) rfl (fun q => absurd q (by decide)) (fun _ => ?_)
        refine v_iconst (v := nI 1) dX0_isSensible_21 (by decide) rfl ?_
        refine v_goto (tgt := 26) dX0_isSensible_22 (by decide) ?_
        exact v_zret dX0_isSensible_26 rfl (by rfl) ⟨Nat.le_of_ble_eq_true rfl, Nat.le_of_ble_eq_true rfl⟩ (⟨by first | (rw [bP_t (show senP kd f t from ⟨‹_›, ‹_›, ‹_›⟩)]; done) | (rw [bP_f (show ¬ senP kd f t from fun h => absurd h.1 ‹_›)]; done) | (rw [bP_f (show ¬ senP kd f t from fun h => absurd h.2.1 ‹_›)]; done) | (rw [bP_f (show ¬ senP kd f t from fun h => absurd h.2.2 ‹_›)]; done), rfl⟩)
      · refine v_cvf dX0_isSensible_15 cw_X0_61 ⟨tn_X0_neverFalls, tl_X0_neverFalls⟩ rfl (by assumption) ((c_neverFalls G hp hL).no ‹_›) (by rfl) (by rfl) (Nat.le_of_ble_eq_true rfl) (Nat.le_of_ble_eq_true rfl) (Nat.le_of_ble_eq_true rfl) (Nat.le_of_ble_eq_true rfl) (Nat.le_of_ble_eq_true rfl) rfl ?_
        refine v_if_eq (tgt := 25) dX0_isSensible_18 (by decide) rfl (fun _ => ?_) (fun q => absurd (by decide) q)
        refine v_iconst (v := nI 0) dX0_isSensible_25 (by decide) rfl ?_
        exact v_zret dX0_isSensible_26 rfl (by rfl) ⟨Nat.le_of_ble_eq_true rfl, Nat.le_of_ble_eq_true rfl⟩ (⟨by first | (rw [bP_t (show senP kd f t from ⟨‹_›, ‹_›, ‹_›⟩)]; done) | (rw [bP_f (show ¬ senP kd f t from fun h => absurd h.1 ‹_›)]; done) | (rw [bP_f (show ¬ senP kd f t from fun h => absurd h.2.1 ‹_›)]; done) | (rw [bP_f (show ¬ senP kd f t from fun h => absurd h.2.2 ‹_›)]; done), rfl⟩)
end SENSE
def WK (G : GG) (hp : List va_E) (a : Nat) (f m : Nat → Int32) (tr : Int32) : Prop := hp[a]? = some (ob 1 [.ref (G.2.2.2 + (a + 1)), .ref (G.2.2.2 + (a + 2)), .int tr]) ∧ hp[a + 1]? = some (aI G 4 f) ∧ hp[a + 2]? = some (aI G 3 m)
section WORK
variable (G : GG) (hp : List va_E) {a : Nat} {f m : Nat → Int32} {tr : Int32}
theorem c_isAnchor (hW : WK G hp a f m tr) : Ct G mX1_isAnchor 0 0 0 [.ref (G.2.2.2 + a)] hp (Qf (some (.int (bP (¬ tr = -900)))) hp) := by
  have h1 := hW.1
  refine Ct.start 0 (by decide) rfl (Nat.le_of_ble_eq_true rfl) ?_
  refine v_aload_n dX1_isAnchor_0 rfl rfl ?_
  refine v_getf dX1_isAnchor_1 fl_X1_18 (by assumption) (by rfl) rfl ?_
  refine v_sipush (v := (-900)) dX1_isAnchor_4 (by decide) rfl ?_
  refine v_icmp_eq (tgt := 14) dX1_isAnchor_7 (by decide) rfl (fun c7 => ?_) (fun c7 => ?_)
  · refine v_iconst (v := nI 0) dX1_isAnchor_14 (by decide) rfl ?_
    exact v_zret dX1_isAnchor_15 rfl (by rfl) ⟨Nat.le_of_ble_eq_true rfl, Nat.le_of_ble_eq_true rfl⟩ (⟨by first | (rw [bP_t ‹_›]; done) | (rw [bP_f (fun h => h ‹_›)]; done), rfl⟩)
  · refine v_iconst (v := nI 1) dX1_isAnchor_10 (by decide) rfl ?_
    refine v_goto (tgt := 15) dX1_isAnchor_11 (by decide) ?_
    exact v_zret dX1_isAnchor_15 rfl (by rfl) ⟨Nat.le_of_ble_eq_true rfl, Nat.le_of_ble_eq_true rfl⟩ (⟨by first | (rw [bP_t ‹_›]; done) | (rw [bP_f (fun h => h ‹_›)]; done), rfl⟩)
theorem c_isMarkedBy (hW : WK G hp a f m tr) {k : Nat} (hk : k < 3) : Ct G mX1_isMarkedBy 0 0 0 [.ref (G.2.2.2 + a), .int (nI k)] hp (Qf (some (.int (bP (¬ m k = -900)))) hp) := by
  obtain ⟨h1, h2, h3⟩ := hW
  refine Ct.start 0 (by decide) rfl (Nat.le_of_ble_eq_true rfl) ?_
  refine v_aload_n dX1_isMarkedBy_0 rfl rfl ?_
  refine v_getf dX1_isMarkedBy_1 fl_X1_15 (by assumption) (by rfl) rfl ?_
  refine v_iload_n dX1_isMarkedBy_4 rfl rfl ?_
  refine v_iald _ dX1_isMarkedBy_5 (by assumption) rfl (by omega) (by decide) rfl ?_
  refine v_sipush (v := (-900)) dX1_isMarkedBy_6 (by decide) rfl ?_
  refine v_icmp_eq (tgt := 16) dX1_isMarkedBy_9 (by decide) rfl (fun c9 => ?_) (fun c9 => ?_)
  · refine v_iconst (v := nI 0) dX1_isMarkedBy_16 (by decide) rfl ?_
    exact v_zret dX1_isMarkedBy_17 rfl (by rfl) ⟨Nat.le_of_ble_eq_true rfl, Nat.le_of_ble_eq_true rfl⟩ (⟨by first | (rw [bP_t ‹_›]; done) | (rw [bP_f (fun h => h ‹_›)]; done), rfl⟩)
  · refine v_iconst (v := nI 1) dX1_isMarkedBy_12 (by decide) rfl ?_
    refine v_goto (tgt := 17) dX1_isMarkedBy_13 (by decide) ?_
    exact v_zret dX1_isMarkedBy_17 rfl (by rfl) ⟨Nat.le_of_ble_eq_true rfl, Nat.le_of_ble_eq_true rfl⟩ (⟨by first | (rw [bP_t ‹_›]; done) | (rw [bP_f (fun h => h ‹_›)]; done), rfl⟩)
theorem c_isMarkedByBoth (hW : WK G hp a f m tr) {k l : Nat} (hk : k < 3) (hl : l < 3) : Ct G mX1_isMarkedByBoth 1 0 0 [.ref (G.2.2.2 + a), .int (nI k), .int (nI l)] hp (Qf (some (.int (bP (¬ m k = -900 ∧ ¬ m l = -900)))) hp) := by
  have h1 := hW.1
  refine Ct.start 0 (by decide) rfl (Nat.le_of_ble_eq_true rfl) ?_
  refine v_aload_n dX1_isMarkedByBoth_0 rfl rfl ?_
  refine v_iload_n dX1_isMarkedByBoth_1 rfl rfl ?_
  by_cases q2 : ¬ m k = -900
  · refine v_cvf dX1_isMarkedByBoth_2 cw_X1_22 ⟨tn_X1_isMarkedBy, tl_X1_isMarkedBy⟩ rfl (by assumption) ((c_isMarkedBy G hp hW hk).yes ‹_›) (by rfl) (by rfl) (Nat.le_of_ble_eq_true rfl) (Nat.le_of_ble_eq_true rfl) (Nat.le_of_ble_eq_true rfl) (Nat.le_of_ble_eq_true rfl) (Nat.le_of_ble_eq_true rfl) rfl ?_
    refine v_if_eq (tgt := 20) dX1_isMarkedByBoth_5 (by decide) rfl (fun q => absurd q (by decide)) (fun _ => ?_)
    refine v_aload_n dX1_isMarkedByBoth_8 rfl rfl ?_
    refine v_iload_n dX1_isMarkedByBoth_9 rfl rfl ?_
    by_cases q10 : ¬ m l = -900
    · refine v_cvf dX1_isMarkedByBoth_10 cw_X1_22 ⟨tn_X1_isMarkedBy, tl_X1_isMarkedBy⟩ rfl (by assumption) ((c_isMarkedBy G hp hW hl).yes ‹_›) (by rfl) (by rfl) (Nat.le_of_ble_eq_true rfl) (Nat.le_of_ble_eq_true rfl) (Nat.le_of_ble_eq_true rfl) (Nat.le_of_ble_eq_true rfl) (Nat.le_of_ble_eq_true rfl) rfl ?_
      refine v_if_eq (tgt := 20) dX1_isMarkedByBoth_13 (by decide) rfl (fun q => absurd q (by decide)) (fun _ => ?_)
      refine v_iconst (v := nI 1) dX1_isMarkedByBoth_16 (by decide) rfl ?_
      refine v_goto (tgt := 21) dX1_isMarkedByBoth_17 (by decide) ?_
      exact v_zret dX1_isMarkedByBoth_21 rfl (by rfl) ⟨Nat.le_of_ble_eq_true rfl, Nat.le_of_ble_eq_true rfl⟩ (⟨by first | (rw [bP_t ⟨‹_›, ‹_›⟩]; done) | (rw [bP_f (fun h => absurd h.1 ‹_›)]; done) | (rw [bP_f (fun h => absurd h.2 ‹_›)]; done), rfl⟩)
    · refine v_cvf dX1_isMarkedByBoth_10 cw_X1_22 ⟨tn_X1_isMarkedBy, tl_X1_isMarkedBy⟩ rfl (by assumption) ((c_isMarkedBy G hp hW hl).no ‹_›) (by rfl) (by rfl) (Nat.le_of_ble_eq_true rfl) (Nat.le_of_ble_eq_true rfl) (Nat.le_of_ble_eq_true rfl) (Nat.le_of_ble_eq_true rfl) (Nat.le_of_ble_eq_true rfl) rfl ?_
      refine v_if_eq (tgt := 20) dX1_isMarkedByBoth_13 (by decide) rfl (fun _ => ?_) (fun q => absurd (by decide) q)
      refine v_iconst (v := nI 0) dX1_isMarkedByBoth_20 (by decide) rfl ?_
      exact v_zret dX1_isMarkedByBoth_21 rfl (by rfl) ⟨Nat.le_of_ble_eq_true rfl, Nat.le_of_ble_eq_true rfl⟩ (⟨by first | (rw [bP_t ⟨‹_›, ‹_›⟩]; done) | (rw [bP_f (fun h => absurd h.1 ‹_›)]; done) | (rw [bP_f (fun h => absurd h.2 ‹_›)]; done), rfl⟩)
  · refine v_cvf dX1_isMarkedByBoth_2 cw_X1_22 ⟨tn_X1_isMarkedBy, tl_X1_isMarkedBy⟩ rfl (by assumption) ((c_isMarkedBy G hp hW hk).no ‹_›) (by rfl) (by rfl) (Nat.le_of_ble_eq_true rfl) (Nat.le_of_ble_eq_true rfl) (Nat.le_of_ble_eq_true rfl) (Nat.le_of_ble_eq_true rfl) (Nat.le_of_ble_eq_true rfl) rfl ?_
    refine v_if_eq (tgt := 20) dX1_isMarkedByBoth_5 (by decide) rfl (fun _ => ?_) (fun q => absurd (by decide) q)
    refine v_iconst (v := nI 0) dX1_isMarkedByBoth_20 (by decide) rfl ?_
    exact v_zret dX1_isMarkedByBoth_21 rfl (by rfl) ⟨Nat.le_of_ble_eq_true rfl, Nat.le_of_ble_eq_true rfl⟩ (⟨by first | (rw [bP_t ⟨‹_›, ‹_›⟩]; done) | (rw [bP_f (fun h => absurd h.1 ‹_›)]; done) | (rw [bP_f (fun h => absurd h.2 ‹_›)]; done), rfl⟩)
end WORK
end
section
/-! THE STATE, AND WHAT THE HEAP HOLDS OF IT: the class (places 0 .. 30, and from 42 on a WORK's three cells), the reference (places 31 .. 41) -/
abbrev ST : Type := (Nat → Int32) × (Nat → Int32) × (Nat → Int32) × (Nat → Nat → Int32) × (Nat → Nat → Int32) × Nat × (Nat → Nat → Int32) × (Nat → Nat → Int32) × (Nat → Int32) × Int64
def ST.kd (s : ST) : Nat → Int32 := s.1
def ST.fc (s : ST) : Nat → Int32 := s.2.1
def ST.wt (s : ST) : Nat → Int32 := s.2.2.1
def ST.fr (s : ST) : Nat → Nat → Int32 := s.2.2.2.1
def ST.to (s : ST) : Nat → Nat → Int32 := s.2.2.2.2.1
def ST.n (s : ST) : Nat := s.2.2.2.2.2.1
def ST.wf (s : ST) : Nat → Nat → Int32 := s.2.2.2.2.2.2.1
def ST.mr (s : ST) : Nat → Nat → Int32 := s.2.2.2.2.2.2.2.1
def ST.tr (s : ST) : Nat → Int32 := s.2.2.2.2.2.2.2.2.1
def ST.tc (s : ST) : Int64 := s.2.2.2.2.2.2.2.2.2
abbrev XT : Type := Bool × (Nat → Option Nat) × (Nat → Option Nat) × (Nat → Int32) × (Nat → Int32) × (Nat → Int32) × (Nat → Int32)
def la (sw : Bool) (j : Nat) : Nat := if sw then (if j < 4 then 19 + 3 * j else 3 * j - 5) else 7 + 3 * j
def PX (G : GG) (s : ST) (x : XT) (hp : List va_E) : Prop :=
  hp[0]? = some (ob 2 [.ref (G.2.2.2 + 1), .ref (G.2.2.2 + 2), .int (nI s.n), .long s.tc, .ref (G.2.2.2 + 3), .ref (G.2.2.2 + 4), .ref (G.2.2.2 + 5), .ref (G.2.2.2 + 6)]) ∧
  hp[1]? = some (aL G 8 x.2.1) ∧ (∀ j, j < 8 → x.2.1 j = some (G.2.2.2 + la x.1 j)) ∧
  hp[2]? = some (aW G 12 x.2.2.1) ∧ (∀ w, w < s.n → x.2.2.1 w = some (G.2.2.2 + (42 + 3 * w))) ∧
  hp[3]? = some (aI G 6 x.2.2.2.1) ∧ hp[4]? = some (aI G 4 x.2.2.2.2.1) ∧ hp[5]? = some (aI G 12 x.2.2.2.2.2.1) ∧ hp[6]? = some (aI G 12 x.2.2.2.2.2.2) ∧
  (∀ j, j < 8 → LN G hp (la x.1 j) (s.kd j) (s.fc j) (s.wt j) (s.fr j) (s.to j)) ∧
  (∀ w, w < s.n → WK G hp (42 + 3 * w) (s.wf w) (s.mr w) (s.tr w)) ∧
  s.n ≤ 12 ∧ hp.length = 42 + 3 * s.n
section CLASS1
variable (G : GG) (hp : List va_E) {s : ST} {x : XT}
theorem c_lineAt (hX : PX G s x hp) {a b : Nat} (ha : a < 2) (hb : b < 4) : Ct G mX2_lineAt 1 0 0 [.ref (G.2.2.2 + 0), .int (nI a), .int (nI b)] hp (Qf (some (.ref (G.2.2.2 + la x.1 (a * 4 + b)))) hp) := by
  obtain ⟨h0, h1, hgl, h2, hgw, h3, h4, h5, h6, hln, hwk, hn, hlen⟩ := hX
  refine Ct.start 0 (by decide) rfl (Nat.le_of_ble_eq_true rfl) ?_
  refine v_iload_n dX2_lineAt_0 rfl rfl ?_
  refine v_iconst (v := nI 2) dX2_lineAt_1 (by decide) rfl ?_
  refine v_csf dX2_lineAt_2 cw_X2_49 ts_X2_isBelow ((c_isBelow G hp (nI a) 2).yes (inR_nI ha (by decide))) (by rfl) (by rfl) (Nat.le_of_ble_eq_true rfl) (Nat.le_of_ble_eq_true rfl) (Nat.le_of_ble_eq_true rfl) (Nat.le_of_ble_eq_true rfl) (Nat.le_of_ble_eq_true rfl) rfl ?_
  refine v_if_eq (tgt := 29) dX2_lineAt_5 (by decide) rfl (fun q => absurd q (by decide)) (fun _ => ?_)
  refine v_iload_n dX2_lineAt_8 rfl rfl ?_
  refine v_iconst (v := nI 4) dX2_lineAt_9 (by decide) rfl ?_
  refine v_csf dX2_lineAt_10 cw_X2_49 ts_X2_isBelow ((c_isBelow G hp (nI b) 4).yes (inR_nI hb (by decide))) (by rfl) (by rfl) (Nat.le_of_ble_eq_true rfl) (Nat.le_of_ble_eq_true rfl) (Nat.le_of_ble_eq_true rfl) (Nat.le_of_ble_eq_true rfl) (Nat.le_of_ble_eq_true rfl) rfl ?_
  refine v_if_eq (tgt := 29) dX2_lineAt_13 (by decide) rfl (fun q => absurd q (by decide)) (fun _ => ?_)
  refine v_aload_n dX2_lineAt_16 rfl rfl ?_
  refine v_getf dX2_lineAt_17 fl_X2_11 (by assumption) (by rfl) rfl ?_
  refine v_iload_n dX2_lineAt_20 rfl rfl ?_
  refine v_iconst (v := nI 4) dX2_lineAt_21 (by decide) rfl ?_
  refine v_imulN dX2_lineAt_22 rfl ?_
  refine v_iload_n dX2_lineAt_23 rfl rfl ?_
  refine v_iaddN dX2_lineAt_24 rfl ?_
  refine v_aaldL _ dX2_lineAt_25 (by assumption) rfl (by omega) (by decide) (by rw [hgl _ (by omega)]) rfl ?_
  refine v_goto (tgt := 30) dX2_lineAt_26 (by decide) ?_
  exact v_aret dX2_lineAt_30 rfl (Or.inr ⟨_, rfl⟩) ⟨Nat.le_of_ble_eq_true rfl, Nat.le_of_ble_eq_true rfl⟩ (⟨rfl, rfl⟩)
theorem c_lineAt_no {y z : Int32} (h : ¬ (InR y 2 ∧ InR z 4)) : Ct G mX2_lineAt 1 0 0 [.ref (G.2.2.2 + 0), .int y, .int z] hp (Qf (some .null) hp) := by
  refine Ct.start 0 (by decide) rfl (Nat.le_of_ble_eq_true rfl) ?_
  refine v_iload_n dX2_lineAt_0 rfl rfl ?_
  refine v_iconst (v := nI 2) dX2_lineAt_1 (by decide) rfl ?_
  by_cases q2 : InR y 2
  · refine v_csf dX2_lineAt_2 cw_X2_49 ts_X2_isBelow ((c_isBelow G hp y 2).yes ‹_›) (by rfl) (by rfl) (Nat.le_of_ble_eq_true rfl) (Nat.le_of_ble_eq_true rfl) (Nat.le_of_ble_eq_true rfl) (Nat.le_of_ble_eq_true rfl) (Nat.le_of_ble_eq_true rfl) rfl ?_
    refine v_if_eq (tgt := 29) dX2_lineAt_5 (by decide) rfl (fun q => absurd q (by decide)) (fun _ => ?_)
    refine v_iload_n dX2_lineAt_8 rfl rfl ?_
    refine v_iconst (v := nI 4) dX2_lineAt_9 (by decide) rfl ?_
    refine v_csf dX2_lineAt_10 cw_X2_49 ts_X2_isBelow ((c_isBelow G hp z 4).no (fun q => h ⟨‹_›, q⟩)) (by rfl) (by rfl) (Nat.le_of_ble_eq_true rfl) (Nat.le_of_ble_eq_true rfl) (Nat.le_of_ble_eq_true rfl) (Nat.le_of_ble_eq_true rfl) (Nat.le_of_ble_eq_true rfl) rfl ?_
    refine v_if_eq (tgt := 29) dX2_lineAt_13 (by decide) rfl (fun _ => ?_) (fun q => absurd (by decide) q)
    refine v_null dX2_lineAt_29 rfl ?_
    exact v_aret dX2_lineAt_30 rfl (Or.inl rfl) ⟨Nat.le_of_ble_eq_true rfl, Nat.le_of_ble_eq_true rfl⟩ (⟨rfl, rfl⟩)
  · refine v_csf dX2_lineAt_2 cw_X2_49 ts_X2_isBelow ((c_isBelow G hp y 2).no ‹_›) (by rfl) (by rfl) (Nat.le_of_ble_eq_true rfl) (Nat.le_of_ble_eq_true rfl) (Nat.le_of_ble_eq_true rfl) (Nat.le_of_ble_eq_true rfl) (Nat.le_of_ble_eq_true rfl) rfl ?_
    refine v_if_eq (tgt := 29) dX2_lineAt_5 (by decide) rfl (fun _ => ?_) (fun q => absurd (by decide) q)
    refine v_null dX2_lineAt_29 rfl ?_
    exact v_aret dX2_lineAt_30 rfl (Or.inl rfl) ⟨Nat.le_of_ble_eq_true rfl, Nat.le_of_ble_eq_true rfl⟩ (⟨rfl, rfl⟩)
theorem c_workAt (hX : PX G s x hp) {w : Nat} (hw : w < s.n) : Ct G mX2_workAt 1 0 0 [.ref (G.2.2.2 + 0), .int (nI w)] hp (Qf (some (.ref (G.2.2.2 + (42 + 3 * w)))) hp) := by
  obtain ⟨h0, h1, hgl, h2, hgw, h3, h4, h5, h6, hln, hwk, hn, hlen⟩ := hX
  refine Ct.start 0 (by decide) rfl (Nat.le_of_ble_eq_true rfl) ?_
  refine v_iload_n dX2_workAt_0 rfl rfl ?_
  refine v_aload_n dX2_workAt_1 rfl rfl ?_
  refine v_getf dX2_workAt_2 fl_X2_21 (by assumption) (by rfl) rfl ?_
  refine v_csf dX2_workAt_5 cw_X2_49 ts_X2_isBelow ((c_isBelow G hp (nI w) s.n).yes (inR_nI hw (by omega))) (by rfl) (by rfl) (Nat.le_of_ble_eq_true rfl) (Nat.le_of_ble_eq_true rfl) (Nat.le_of_ble_eq_true rfl) (Nat.le_of_ble_eq_true rfl) (Nat.le_of_ble_eq_true rfl) rfl ?_
  refine v_if_eq (tgt := 20) dX2_workAt_8 (by decide) rfl (fun q => absurd q (by decide)) (fun _ => ?_)
  refine v_aload_n dX2_workAt_11 rfl rfl ?_
  refine v_getf dX2_workAt_12 fl_X2_17 (by assumption) (by rfl) rfl ?_
  refine v_iload_n dX2_workAt_15 rfl rfl ?_
  refine v_aaldW _ dX2_workAt_16 (by assumption) rfl (by omega) (by decide) (by rw [hgw _ (by omega)]) rfl ?_
  refine v_goto (tgt := 21) dX2_workAt_17 (by decide) ?_
  exact v_aret dX2_workAt_21 rfl (Or.inr ⟨_, rfl⟩) ⟨Nat.le_of_ble_eq_true rfl, Nat.le_of_ble_eq_true rfl⟩ (⟨rfl, rfl⟩)
theorem c_workAt_no (hX : PX G s x hp) {y : Int32} (h : ¬ InR y s.n) : Ct G mX2_workAt 1 0 0 [.ref (G.2.2.2 + 0), .int y] hp (Qf (some .null) hp) := by
  obtain ⟨h0, h1, hgl, h2, hgw, h3, h4, h5, h6, hln, hwk, hn, hlen⟩ := hX
  refine Ct.start 0 (by decide) rfl (Nat.le_of_ble_eq_true rfl) ?_
  refine v_iload_n dX2_workAt_0 rfl rfl ?_
  refine v_aload_n dX2_workAt_1 rfl rfl ?_
  refine v_getf dX2_workAt_2 fl_X2_21 (by assumption) (by rfl) rfl ?_
  refine v_csf dX2_workAt_5 cw_X2_49 ts_X2_isBelow ((c_isBelow G hp y s.n).no h) (by rfl) (by rfl) (Nat.le_of_ble_eq_true rfl) (Nat.le_of_ble_eq_true rfl) (Nat.le_of_ble_eq_true rfl) (Nat.le_of_ble_eq_true rfl) (Nat.le_of_ble_eq_true rfl) rfl ?_
  refine v_if_eq (tgt := 20) dX2_workAt_8 (by decide) rfl (fun _ => ?_) (fun q => absurd (by decide) q)
  refine v_null dX2_workAt_20 rfl ?_
  exact v_aret dX2_workAt_21 rfl (Or.inl rfl) ⟨Nat.le_of_ble_eq_true rfl, Nat.le_of_ble_eq_true rfl⟩ (⟨rfl, rfl⟩)
/-- a state's bounds -/
def Inv (s : ST) : Prop := (∀ j, j < 8 → InR (s.kd j) 3 ∧ InR (s.fc j) 4 ∧ InR (s.wt j) 10) ∧ (∀ w, w < s.n → ∀ m, m < 3 → (s.mr w m = -900 ∨ InR (s.mr w m) 4)) ∧ (∀ w, w < s.n → (s.tr w = -900 ∨ InR (s.tr w) 4)) ∧ s.n ≤ 12
theorem fc_of {s : ST} (hI : Inv s) {j : Nat} (hj : j < 8) : ∃ c, c < 4 ∧ s.fc j = nI c ∧ (s.fc j).toNatClampNeg = c := by
  obtain ⟨c, hc, e⟩ := inR_of (by decide) (hI.1 j hj).2.1
  exact ⟨c, hc, e, by rw [e]; exact nI_clamp (by omega)⟩
/-- the LEVEL of a LINE for a WORK -/
def lvW (s : ST) (j w : Nat) : Option Nat := levelO (s.kd j) (s.fr j) (s.to j) (s.wf w (s.fc j).toNatClampNeg)
/-- POINTS of the first k LINES of a SHEET -/
def ptsI (s : ST) (sh w : Nat) : Nat → Int32
  | 0 => nI 0
  | k + 1 => if oI (lvW s (sh * 4 + k) w) = -900 then ptsI s sh w k else ptsI s sh w k + s.wt (sh * 4 + k) * oI (lvW s (sh * 4 + k) w)
theorem ptsI_t {s : ST} {sh w k : Nat} (h : oI (lvW s (sh * 4 + k) w) = -900) : ptsI s sh w (k + 1) = ptsI s sh w k := if_pos h
theorem ptsI_f {s : ST} {sh w k : Nat} (h : ¬ oI (lvW s (sh * 4 + k) w) = -900) : ptsI s sh w (k + 1) = ptsI s sh w k + s.wt (sh * 4 + k) * oI (lvW s (sh * 4 + k) w) := if_neg h
theorem c_pointsBy (hX : PX G s x hp) (hI : Inv s) {sh w : Nat} (hs : sh < 2) (hw : w < s.n) : Ct G mX2_pointsBy 5 0 0 [.ref (G.2.2.2 + 0), .int (nI sh), .ref (G.2.2.2 + (42 + 3 * w))] hp (Qf (some (.int (ptsI s sh w 4))) hp) := by
  obtain ⟨h0, h1, hgl, h2, hgw, h3, h4, h5, h6, hln, hwk, hn, hlen⟩ := hX
  obtain ⟨k1, k2, k3⟩ := hwk w hw
  have key : ∀ k, k ≤ 4 → ∀ (l5 l6 : Option Value), Vm G mX2_pointsBy 5 0 0 (Qf (some (.int (ptsI s sh w 4))) hp) 5 [some (.ref (G.2.2.2 + 0)), some (.int (nI sh)), some (.ref (G.2.2.2 + (42 + 3 * w))), some (.int (ptsI s sh w k)), some (.int (nI k)), l5, l6] [] hp 0 0 := by
    refine loop_up ?_ (fun k hk ih => ?_)
    · intro l5 l6
      refine v_iload dX2_pointsBy_5 rfl rfl ?_
      refine v_iconst (v := nI 4) dX2_pointsBy_7 (by decide) rfl ?_
      refine v_icmp_geN (tgt := 66) dX2_pointsBy_8 (by decide) rfl (by omega) (by omega) (fun c8 => ?_) (fun c8 => ?_)
      · refine v_iload_n dX2_pointsBy_66 rfl rfl ?_
        exact v_iret dX2_pointsBy_67 rfl ⟨Nat.le_of_ble_eq_true rfl, Nat.le_of_ble_eq_true rfl⟩ (⟨rfl, rfl⟩)
      · exact absurd c8 (by omega)
    · intro l5 l6
      have hL := hln (sh * 4 + k) (by omega)
      obtain ⟨l1, l2, l3⟩ := hln (sh * 4 + k) (by omega)
      obtain ⟨fc, hfc, efc, ec⟩ := fc_of hI (j := sh * 4 + k) (by omega)
      have hlv : oI (levelO (s.kd (sh * 4 + k)) (s.fr (sh * 4 + k)) (s.to (sh * 4 + k)) (s.wf w fc)) = oI (lvW s (sh * 4 + k) w) := by rw [lvW, ec]
      refine v_iload dX2_pointsBy_5 rfl rfl ?_
      refine v_iconst (v := nI 4) dX2_pointsBy_7 (by decide) rfl ?_
      refine v_icmp_geN (tgt := 66) dX2_pointsBy_8 (by decide) rfl (by omega) (by omega) (fun c8 => ?_) (fun c8 => ?_)
      · exact absurd c8 (by omega)
      · refine v_aload_n dX2_pointsBy_11 rfl rfl ?_
        refine v_getf dX2_pointsBy_12 fl_X2_11 (by assumption) (by rfl) rfl ?_
        refine v_iload_n dX2_pointsBy_15 rfl rfl ?_
        refine v_iconst (v := nI 4) dX2_pointsBy_16 (by decide) rfl ?_
        refine v_imulN dX2_pointsBy_17 rfl ?_
        refine v_iload dX2_pointsBy_18 rfl rfl ?_
        refine v_iaddN dX2_pointsBy_20 rfl ?_
        refine v_aaldL _ dX2_pointsBy_21 (by assumption) rfl (by omega) (by decide) (by rw [hgl _ (by omega)]) rfl ?_
        refine v_astore dX2_pointsBy_22 (Nat.le_of_ble_eq_true rfl) rfl ?_
        refine v_aload dX2_pointsBy_24 rfl rfl ?_
        refine v_aload_n dX2_pointsBy_26 rfl rfl ?_
        refine v_getf dX2_pointsBy_27 fl_X2_96 (by assumption) (by rfl) rfl ?_
        refine v_aload dX2_pointsBy_30 rfl rfl ?_
        refine v_getf dX2_pointsBy_32 fl_X2_59 (by assumption) (by rfl) rfl ?_
        refine v_iald fc dX2_pointsBy_35 (by assumption) efc hfc (by decide) rfl ?_
        refine v_cvf dX2_pointsBy_36 cw_X2_75 ⟨tn_X0_levelFor, tl_X0_levelFor⟩ rfl (by assumption) ((c_levelFor G hp hL (s.wf w fc)).is hlv) (by rfl) (by rfl) (Nat.le_of_ble_eq_true rfl) (Nat.le_of_ble_eq_true rfl) (Nat.le_of_ble_eq_true rfl) (Nat.le_of_ble_eq_true rfl) (Nat.le_of_ble_eq_true rfl) rfl ?_
        refine v_istore dX2_pointsBy_39 (Nat.le_of_ble_eq_true rfl) rfl ?_
        refine v_iload dX2_pointsBy_41 rfl rfl ?_
        refine v_sipush (v := (-900)) dX2_pointsBy_43 (by decide) rfl ?_
        refine v_icmp_eq (tgt := 60) dX2_pointsBy_46 (by decide) rfl (fun c46 => ?_) (fun c46 => ?_)
        · refine v_iinc1 dX2_pointsBy_60 rfl (Nat.le_of_ble_eq_true rfl) rfl ?_
          refine v_goto (tgt := 5) dX2_pointsBy_63 (by decide) ?_
          first | (rw [ptsI_t (k := k) ‹_›] at ih; exact ih _ _) | (rw [ptsI_f (k := k) ‹_›] at ih; exact ih _ _)
        · refine v_iload_n dX2_pointsBy_49 rfl rfl ?_
          refine v_aload dX2_pointsBy_50 rfl rfl ?_
          refine v_getf dX2_pointsBy_52 fl_X2_62 (by assumption) (by rfl) rfl ?_
          refine v_iload dX2_pointsBy_55 rfl rfl ?_
          refine v_imul dX2_pointsBy_57 rfl ?_
          refine v_iadd dX2_pointsBy_58 rfl ?_
          refine v_istore_n dX2_pointsBy_59 (Nat.le_of_ble_eq_true rfl) rfl ?_
          refine v_iinc1 dX2_pointsBy_60 rfl (Nat.le_of_ble_eq_true rfl) rfl ?_
          refine v_goto (tgt := 5) dX2_pointsBy_63 (by decide) ?_
          first | (rw [ptsI_t (k := k) ‹_›] at ih; exact ih _ _) | (rw [ptsI_f (k := k) ‹_›] at ih; exact ih _ _)
  refine Ct.start 4 (by decide) rfl (Nat.le_of_ble_eq_true rfl) ?_
  refine v_iconst (v := nI 0) dX2_pointsBy_0 (by decide) rfl ?_
  refine v_istore_n dX2_pointsBy_1 (Nat.le_of_ble_eq_true rfl) rfl ?_
  refine v_iconst (v := nI 0) dX2_pointsBy_2 (by decide) rfl ?_
  refine v_istore dX2_pointsBy_3 (Nat.le_of_ble_eq_true rfl) rfl ?_
  exact key 0 (by decide) _ _
end CLASS1
end
section
/-! THE CLASS COUNTS -/
abbrev ancP (s : ST) (w : Nat) : Prop := ¬ s.tr w = -900
abbrev mkdP (s : ST) (m w : Nat) : Prop := ¬ s.mr w m = -900
abbrev bothP (s : ST) (a b w : Nat) : Prop := ¬ s.mr w a = -900 ∧ ¬ s.mr w b = -900
abbrev alkP (s : ST) (a b w : Nat) : Prop := bothP s a b w ∧ s.mr w a = s.mr w b
abbrev gavP (s : ST) (a b v w : Nat) : Prop := bothP s a b w ∧ s.mr w a = nI v
abbrev offP (s : ST) (m w : Nat) : Prop := ¬ s.tr w = -900 ∧ ¬ s.mr w m = -900
abbrev senS (s : ST) (sh k : Nat) : Prop := senP (s.kd (sh * 4 + k)) (s.fr (sh * 4 + k)) (s.to (sh * 4 + k))
noncomputable def mksN (s : ST) : Nat → Nat
  | 0 => 0
  | w + 1 => mksN s w + cnt (fun m => mkdP s m w) 3
theorem mksN_le (s : ST) : ∀ w, mksN s w ≤ 3 * w
  | 0 => Nat.le_refl _
  | w + 1 => by
    have h1 := mksN_le s w
    have h2 := cnt_le (fun m => mkdP s m w) 3
    simp only [mksN]
    omega
def offS (s : ST) (m : Nat) : Nat → Int32
  | 0 => nI 0
  | w + 1 => if offP s m w then offS s m w + (s.mr w m - s.tr w) else offS s m w
theorem offS_t {s : ST} {m k : Nat} (h : offP s m k) : offS s m (k + 1) = offS s m k + (s.mr k m - s.tr k) := if_pos h
theorem offS_f {s : ST} {m k : Nat} (h : ¬ offP s m k) : offS s m (k + 1) = offS s m k := if_neg h
noncomputable def chN (s : ST) (a b : Nat) : Nat → Nat
  | 0 => 0
  | k + 1 => chN s a b k + cnt (gavP s a b k) s.n * cnt (gavP s b a k) s.n
section CLASS2
variable (G : GG) (hp : List va_E) {s : ST} {x : XT}
theorem c_countSensible (hX : PX G s x hp) {sh : Nat} (hs : sh < 2) : Ct G mX2_countSensible 7 0 0 [.ref (G.2.2.2 + 0), .int (nI sh)] hp (Qf (some (.int (nI (cnt (senS s sh) 4)))) hp) := by
  obtain ⟨h0, h1, hgl, h2, hgw, h3, h4, h5, h6, hln, hwk, hn, hlen⟩ := hX
  have key : ∀ k, k ≤ 4 → Vm G mX2_countSensible 7 0 0 (Qf (some (.int (nI (cnt (senS s sh) 4)))) hp) 4 [some (.ref (G.2.2.2 + 0)), some (.int (nI sh)), some (.int (nI (cnt (senS s sh) k))), some (.int (nI k))] [] hp 0 0 := by
    refine loop_up ?_ (fun k hk ih => ?_)
    · refine v_iload_n dX2_countSensible_4 rfl rfl ?_
      refine v_iconst (v := nI 4) dX2_countSensible_5 (by decide) rfl ?_
      refine v_icmp_geN (tgt := 34) dX2_countSensible_6 (by decide) rfl (by omega) (by omega) (fun c6 => ?_) (fun c6 => ?_)
      · refine v_iload_n dX2_countSensible_34 rfl rfl ?_
        exact v_iret dX2_countSensible_35 rfl ⟨Nat.le_of_ble_eq_true rfl, Nat.le_of_ble_eq_true rfl⟩ (⟨rfl, rfl⟩)
      · exact absurd c6 (by omega)
    · have hL := hln (sh * 4 + k) (by omega)
      have l1 := hL.1
      refine v_iload_n dX2_countSensible_4 rfl rfl ?_
      refine v_iconst (v := nI 4) dX2_countSensible_5 (by decide) rfl ?_
      refine v_icmp_geN (tgt := 34) dX2_countSensible_6 (by decide) rfl (by omega) (by omega) (fun c6 => ?_) (fun c6 => ?_)
      · exact absurd c6 (by omega)
      · refine v_aload_n dX2_countSensible_9 rfl rfl ?_
        refine v_getf dX2_countSensible_10 fl_X2_11 (by assumption) (by rfl) rfl ?_
        refine v_iload_n dX2_countSensible_13 rfl rfl ?_
        refine v_iconst (v := nI 4) dX2_countSensible_14 (by decide) rfl ?_
        refine v_imulN dX2_countSensible_15 rfl ?_
        refine v_iload_n dX2_countSensible_16 rfl rfl ?_
        refine v_iaddN dX2_countSensible_17 rfl ?_
        refine v_aaldL _ dX2_countSensible_18 (by assumption) rfl (by omega) (by decide) (by rw [hgl _ (by omega)]) rfl ?_
        by_cases q19 : senS s sh k
        · refine v_cvf dX2_countSensible_19 cw_X2_85 ⟨tn_X0_isSensible, tl_X0_isSensible⟩ rfl (by assumption) ((c_lineSensible G hp hL).yes ‹_›) (by rfl) (by rfl) (Nat.le_of_ble_eq_true rfl) (Nat.le_of_ble_eq_true rfl) (Nat.le_of_ble_eq_true rfl) (Nat.le_of_ble_eq_true rfl) (Nat.le_of_ble_eq_true rfl) rfl ?_
          refine v_if_eq (tgt := 28) dX2_countSensible_22 (by decide) rfl (fun q => absurd q (by decide)) (fun _ => ?_)
          refine v_iinc1 dX2_countSensible_25 rfl (Nat.le_of_ble_eq_true rfl) rfl ?_
          refine v_iinc1 dX2_countSensible_28 rfl (Nat.le_of_ble_eq_true rfl) rfl ?_
          refine v_goto (tgt := 4) dX2_countSensible_31 (by decide) ?_
          first | (rw [cnt_t (p := senS s sh) (n := k) ‹_›] at ih; exact ih) | (rw [cnt_f (p := senS s sh) (n := k) ‹_›] at ih; exact ih)
        · refine v_cvf dX2_countSensible_19 cw_X2_85 ⟨tn_X0_isSensible, tl_X0_isSensible⟩ rfl (by assumption) ((c_lineSensible G hp hL).no ‹_›) (by rfl) (by rfl) (Nat.le_of_ble_eq_true rfl) (Nat.le_of_ble_eq_true rfl) (Nat.le_of_ble_eq_true rfl) (Nat.le_of_ble_eq_true rfl) (Nat.le_of_ble_eq_true rfl) rfl ?_
          refine v_if_eq (tgt := 28) dX2_countSensible_22 (by decide) rfl (fun _ => ?_) (fun q => absurd (by decide) q)
          refine v_iinc1 dX2_countSensible_28 rfl (Nat.le_of_ble_eq_true rfl) rfl ?_
          refine v_goto (tgt := 4) dX2_countSensible_31 (by decide) ?_
          first | (rw [cnt_t (p := senS s sh) (n := k) ‹_›] at ih; exact ih) | (rw [cnt_f (p := senS s sh) (n := k) ‹_›] at ih; exact ih)
  refine Ct.start 2 (by decide) rfl (Nat.le_of_ble_eq_true rfl) ?_
  refine v_iconst (v := nI 0) dX2_countSensible_0 (by decide) rfl ?_
  refine v_istore_n dX2_countSensible_1 (Nat.le_of_ble_eq_true rfl) rfl ?_
  refine v_iconst (v := nI 0) dX2_countSensible_2 (by decide) rfl ?_
  refine v_istore_n dX2_countSensible_3 (Nat.le_of_ble_eq_true rfl) rfl ?_
  exact key 0 (by decide)
theorem c_countAnchors (hX : PX G s x hp) : Ct G mX2_countAnchors 1 0 0 [.ref (G.2.2.2 + 0)] hp (Qf (some (.int (nI (cnt (ancP s) s.n)))) hp) := by
  obtain ⟨h0, h1, hgl, h2, hgw, h3, h4, h5, h6, hln, hwk, hn, hlen⟩ := hX
  have key : ∀ k, k ≤ s.n → Vm G mX2_countAnchors 1 0 0 (Qf (some (.int (nI (cnt (ancP s) s.n)))) hp) 4 [some (.ref (G.2.2.2 + 0)), some (.int (nI (cnt (ancP s) k))), some (.int (nI k))] [] hp 0 0 := by
    refine loop_up ?_ (fun k hk ih => ?_)
    · refine v_iload_n dX2_countAnchors_4 rfl rfl ?_
      refine v_aload_n dX2_countAnchors_5 rfl rfl ?_
      refine v_getf dX2_countAnchors_6 fl_X2_21 (by assumption) (by rfl) rfl ?_
      refine v_icmp_geN (tgt := 33) dX2_countAnchors_9 (by decide) rfl (by omega) (by omega) (fun c9 => ?_) (fun c9 => ?_)
      · refine v_iload_n dX2_countAnchors_33 rfl rfl ?_
        exact v_iret dX2_countAnchors_34 rfl ⟨Nat.le_of_ble_eq_true rfl, Nat.le_of_ble_eq_true rfl⟩ (⟨rfl, rfl⟩)
      · exact absurd c9 (by omega)
    · have hW := hwk k hk
      have l1 := hW.1
      refine v_iload_n dX2_countAnchors_4 rfl rfl ?_
      refine v_aload_n dX2_countAnchors_5 rfl rfl ?_
      refine v_getf dX2_countAnchors_6 fl_X2_21 (by assumption) (by rfl) rfl ?_
      refine v_icmp_geN (tgt := 33) dX2_countAnchors_9 (by decide) rfl (by omega) (by omega) (fun c9 => ?_) (fun c9 => ?_)
      · exact absurd c9 (by omega)
      · refine v_aload_n dX2_countAnchors_12 rfl rfl ?_
        refine v_getf dX2_countAnchors_13 fl_X2_17 (by assumption) (by rfl) rfl ?_
        refine v_iload_n dX2_countAnchors_16 rfl rfl ?_
        refine v_aaldW _ dX2_countAnchors_17 (by assumption) rfl (by omega) (by decide) (by rw [hgw _ (by omega)]) rfl ?_
        by_cases q18 : ancP s k
        · refine v_cvf dX2_countAnchors_18 cw_X2_184 ⟨tn_X1_isAnchor, tl_X1_isAnchor⟩ rfl (by assumption) ((c_isAnchor G hp hW).yes ‹_›) (by rfl) (by rfl) (Nat.le_of_ble_eq_true rfl) (Nat.le_of_ble_eq_true rfl) (Nat.le_of_ble_eq_true rfl) (Nat.le_of_ble_eq_true rfl) (Nat.le_of_ble_eq_true rfl) rfl ?_
          refine v_if_eq (tgt := 27) dX2_countAnchors_21 (by decide) rfl (fun q => absurd q (by decide)) (fun _ => ?_)
          refine v_iinc1 dX2_countAnchors_24 rfl (Nat.le_of_ble_eq_true rfl) rfl ?_
          refine v_iinc1 dX2_countAnchors_27 rfl (Nat.le_of_ble_eq_true rfl) rfl ?_
          refine v_goto (tgt := 4) dX2_countAnchors_30 (by decide) ?_
          first | (rw [cnt_t (p := ancP s) (n := k) ‹_›] at ih; exact ih) | (rw [cnt_f (p := ancP s) (n := k) ‹_›] at ih; exact ih)
        · refine v_cvf dX2_countAnchors_18 cw_X2_184 ⟨tn_X1_isAnchor, tl_X1_isAnchor⟩ rfl (by assumption) ((c_isAnchor G hp hW).no ‹_›) (by rfl) (by rfl) (Nat.le_of_ble_eq_true rfl) (Nat.le_of_ble_eq_true rfl) (Nat.le_of_ble_eq_true rfl) (Nat.le_of_ble_eq_true rfl) (Nat.le_of_ble_eq_true rfl) rfl ?_
          refine v_if_eq (tgt := 27) dX2_countAnchors_21 (by decide) rfl (fun _ => ?_) (fun q => absurd (by decide) q)
          refine v_iinc1 dX2_countAnchors_27 rfl (Nat.le_of_ble_eq_true rfl) rfl ?_
          refine v_goto (tgt := 4) dX2_countAnchors_30 (by decide) ?_
          first | (rw [cnt_t (p := ancP s) (n := k) ‹_›] at ih; exact ih) | (rw [cnt_f (p := ancP s) (n := k) ‹_›] at ih; exact ih)
  refine Ct.start 2 (by decide) rfl (Nat.le_of_ble_eq_true rfl) ?_
  refine v_iconst (v := nI 0) dX2_countAnchors_0 (by decide) rfl ?_
  refine v_istore_n dX2_countAnchors_1 (Nat.le_of_ble_eq_true rfl) rfl ?_
  refine v_iconst (v := nI 0) dX2_countAnchors_2 (by decide) rfl ?_
  refine v_istore_n dX2_countAnchors_3 (Nat.le_of_ble_eq_true rfl) rfl ?_
  exact key 0 (Nat.zero_le _)
theorem c_countMarks (hX : PX G s x hp) : Ct G mX2_countMarks 1 0 0 [.ref (G.2.2.2 + 0)] hp (Qf (some (.int (nI (mksN s s.n)))) hp) := by
  obtain ⟨h0, h1, hgl, h2, hgw, h3, h4, h5, h6, hln, hwk, hn, hlen⟩ := hX
  have inner : ∀ w, w < s.n → (∀ l3 : Option Value, Vm G mX2_countMarks 1 0 0 (Qf (some (.int (nI (mksN s s.n)))) hp) 4 [some (.ref (G.2.2.2 + 0)), some (.int (nI (mksN s (w + 1)))), some (.int (nI (w + 1))), l3] [] hp 0 0) → ∀ k, k ≤ 3 → Vm G mX2_countMarks 1 0 0 (Qf (some (.int (nI (mksN s s.n)))) hp) 14 [some (.ref (G.2.2.2 + 0)), some (.int (nI (mksN s w + cnt (fun m => mkdP s m w) k))), some (.int (nI w)), some (.int (nI k))] [] hp 0 0 := by
    intro w hw hout
    have hW := hwk w hw
    have l1 := hW.1
    refine loop_up ?_ (fun k hk ih => ?_)
    · refine v_iload_n dX2_countMarks_14 rfl rfl ?_
      refine v_iconst (v := nI 3) dX2_countMarks_15 (by decide) rfl ?_
      refine v_icmp_geN (tgt := 41) dX2_countMarks_16 (by decide) rfl (by omega) (by omega) (fun c16 => ?_) (fun c16 => ?_)
      · refine v_iinc1 dX2_countMarks_41 rfl (Nat.le_of_ble_eq_true rfl) rfl ?_
        refine v_goto (tgt := 4) dX2_countMarks_44 (by decide) ?_
        exact hout _
      · exact absurd c16 (by omega)
    · refine v_iload_n dX2_countMarks_14 rfl rfl ?_
      refine v_iconst (v := nI 3) dX2_countMarks_15 (by decide) rfl ?_
      refine v_icmp_geN (tgt := 41) dX2_countMarks_16 (by decide) rfl (by omega) (by omega) (fun c16 => ?_) (fun c16 => ?_)
      · exact absurd c16 (by omega)
      · refine v_aload_n dX2_countMarks_19 rfl rfl ?_
        refine v_getf dX2_countMarks_20 fl_X2_17 (by assumption) (by rfl) rfl ?_
        refine v_iload_n dX2_countMarks_23 rfl rfl ?_
        refine v_aaldW _ dX2_countMarks_24 (by assumption) rfl (by omega) (by decide) (by rw [hgw _ (by omega)]) rfl ?_
        refine v_iload_n dX2_countMarks_25 rfl rfl ?_
        by_cases q26 : ¬ s.mr w k = -900
        · refine v_cvf dX2_countMarks_26 cw_X2_144 ⟨tn_X1_isMarkedBy, tl_X1_isMarkedBy⟩ rfl (by assumption) ((c_isMarkedBy G hp hW hk).yes ‹_›) (by rfl) (by rfl) (Nat.le_of_ble_eq_true rfl) (Nat.le_of_ble_eq_true rfl) (Nat.le_of_ble_eq_true rfl) (Nat.le_of_ble_eq_true rfl) (Nat.le_of_ble_eq_true rfl) rfl ?_
          refine v_if_eq (tgt := 35) dX2_countMarks_29 (by decide) rfl (fun q => absurd q (by decide)) (fun _ => ?_)
          refine v_iinc1 dX2_countMarks_32 rfl (Nat.le_of_ble_eq_true rfl) rfl ?_
          refine v_iinc1 dX2_countMarks_35 rfl (Nat.le_of_ble_eq_true rfl) rfl ?_
          refine v_goto (tgt := 14) dX2_countMarks_38 (by decide) ?_
          first | (rw [cnt_t (p := fun m => mkdP s m w) (n := k) ‹_›] at ih; exact ih) | (rw [cnt_f (p := fun m => mkdP s m w) (n := k) ‹_›] at ih; exact ih)
        · refine v_cvf dX2_countMarks_26 cw_X2_144 ⟨tn_X1_isMarkedBy, tl_X1_isMarkedBy⟩ rfl (by assumption) ((c_isMarkedBy G hp hW hk).no ‹_›) (by rfl) (by rfl) (Nat.le_of_ble_eq_true rfl) (Nat.le_of_ble_eq_true rfl) (Nat.le_of_ble_eq_true rfl) (Nat.le_of_ble_eq_true rfl) (Nat.le_of_ble_eq_true rfl) rfl ?_
          refine v_if_eq (tgt := 35) dX2_countMarks_29 (by decide) rfl (fun _ => ?_) (fun q => absurd (by decide) q)
          refine v_iinc1 dX2_countMarks_35 rfl (Nat.le_of_ble_eq_true rfl) rfl ?_
          refine v_goto (tgt := 14) dX2_countMarks_38 (by decide) ?_
          first | (rw [cnt_t (p := fun m => mkdP s m w) (n := k) ‹_›] at ih; exact ih) | (rw [cnt_f (p := fun m => mkdP s m w) (n := k) ‹_›] at ih; exact ih)
  have key : ∀ k, k ≤ s.n → ∀ (l3 : Option Value), Vm G mX2_countMarks 1 0 0 (Qf (some (.int (nI (mksN s s.n)))) hp) 4 [some (.ref (G.2.2.2 + 0)), some (.int (nI (mksN s k))), some (.int (nI k)), l3] [] hp 0 0 := by
    refine loop_up ?_ (fun k hk ih => ?_)
    · intro l3
      refine v_iload_n dX2_countMarks_4 rfl rfl ?_
      refine v_aload_n dX2_countMarks_5 rfl rfl ?_
      refine v_getf dX2_countMarks_6 fl_X2_21 (by assumption) (by rfl) rfl ?_
      refine v_icmp_geN (tgt := 47) dX2_countMarks_9 (by decide) rfl (by omega) (by omega) (fun c9 => ?_) (fun c9 => ?_)
      · refine v_iload_n dX2_countMarks_47 rfl rfl ?_
        exact v_iret dX2_countMarks_48 rfl ⟨Nat.le_of_ble_eq_true rfl, Nat.le_of_ble_eq_true rfl⟩ (⟨rfl, rfl⟩)
      · exact absurd c9 (by omega)
    · intro l3
      refine v_iload_n dX2_countMarks_4 rfl rfl ?_
      refine v_aload_n dX2_countMarks_5 rfl rfl ?_
      refine v_getf dX2_countMarks_6 fl_X2_21 (by assumption) (by rfl) rfl ?_
      refine v_icmp_geN (tgt := 47) dX2_countMarks_9 (by decide) rfl (by omega) (by omega) (fun c9 => ?_) (fun c9 => ?_)
      · exact absurd c9 (by omega)
      · refine v_iconst (v := nI 0) dX2_countMarks_12 (by decide) rfl ?_
        refine v_istore_n dX2_countMarks_13 (Nat.le_of_ble_eq_true rfl) rfl ?_
        exact inner k hk ih 0 (by decide)
  refine Ct.start 3 (by decide) rfl (Nat.le_of_ble_eq_true rfl) ?_
  refine v_iconst (v := nI 0) dX2_countMarks_0 (by decide) rfl ?_
  refine v_istore_n dX2_countMarks_1 (Nat.le_of_ble_eq_true rfl) rfl ?_
  refine v_iconst (v := nI 0) dX2_countMarks_2 (by decide) rfl ?_
  refine v_istore_n dX2_countMarks_3 (Nat.le_of_ble_eq_true rfl) rfl ?_
  exact key 0 (Nat.zero_le _) _
theorem c_countMoved (hX : PX G s x hp) : Ct G mX2_countMoved 0 0 0 [.ref (G.2.2.2 + 0)] hp (Qf (some (.int (nI (cnt (fun w => ¬ x.2.2.2.2.2.1 w = x.2.2.2.2.2.2 w) s.n)))) hp) := by
  obtain ⟨h0, h1, hgl, h2, hgw, h3, h4, h5, h6, hln, hwk, hn, hlen⟩ := hX
  have key : ∀ k, k ≤ s.n → Vm G mX2_countMoved 0 0 0 (Qf (some (.int (nI (cnt (fun w => ¬ x.2.2.2.2.2.1 w = x.2.2.2.2.2.2 w) s.n)))) hp) 4 [some (.ref (G.2.2.2 + 0)), some (.int (nI (cnt (fun w => ¬ x.2.2.2.2.2.1 w = x.2.2.2.2.2.2 w) k))), some (.int (nI k))] [] hp 0 0 := by
    refine loop_up ?_ (fun k hk ih => ?_)
    · refine v_iload_n dX2_countMoved_4 rfl rfl ?_
      refine v_aload_n dX2_countMoved_5 rfl rfl ?_
      refine v_getf dX2_countMoved_6 fl_X2_21 (by assumption) (by rfl) rfl ?_
      refine v_icmp_geN (tgt := 36) dX2_countMoved_9 (by decide) rfl (by omega) (by omega) (fun c9 => ?_) (fun c9 => ?_)
      · refine v_iload_n dX2_countMoved_36 rfl rfl ?_
        exact v_iret dX2_countMoved_37 rfl ⟨Nat.le_of_ble_eq_true rfl, Nat.le_of_ble_eq_true rfl⟩ (⟨rfl, rfl⟩)
      · exact absurd c9 (by omega)
    · refine v_iload_n dX2_countMoved_4 rfl rfl ?_
      refine v_aload_n dX2_countMoved_5 rfl rfl ?_
      refine v_getf dX2_countMoved_6 fl_X2_21 (by assumption) (by rfl) rfl ?_
      refine v_icmp_geN (tgt := 36) dX2_countMoved_9 (by decide) rfl (by omega) (by omega) (fun c9 => ?_) (fun c9 => ?_)
      · exact absurd c9 (by omega)
      · refine v_aload_n dX2_countMoved_12 rfl rfl ?_
        refine v_getf dX2_countMoved_13 fl_X2_36 (by assumption) (by rfl) rfl ?_
        refine v_iload_n dX2_countMoved_16 rfl rfl ?_
        refine v_iald _ dX2_countMoved_17 (by assumption) rfl (by omega) (by decide) rfl ?_
        refine v_aload_n dX2_countMoved_18 rfl rfl ?_
        refine v_getf dX2_countMoved_19 fl_X2_39 (by assumption) (by rfl) rfl ?_
        refine v_iload_n dX2_countMoved_22 rfl rfl ?_
        refine v_iald _ dX2_countMoved_23 (by assumption) rfl (by omega) (by decide) rfl ?_
        refine v_icmp_eq (tgt := 30) dX2_countMoved_24 (by decide) rfl (fun c24 => ?_) (fun c24 => ?_)
        · refine v_iinc1 dX2_countMoved_30 rfl (Nat.le_of_ble_eq_true rfl) rfl ?_
          refine v_goto (tgt := 4) dX2_countMoved_33 (by decide) ?_
          first | (rw [cnt_t (p := fun w => ¬ x.2.2.2.2.2.1 w = x.2.2.2.2.2.2 w) (n := k) ‹_›] at ih; exact ih) | (rw [cnt_f (p := fun w => ¬ x.2.2.2.2.2.1 w = x.2.2.2.2.2.2 w) (n := k) (fun h => h ‹_›)] at ih; exact ih)
        · refine v_iinc1 dX2_countMoved_27 rfl (Nat.le_of_ble_eq_true rfl) rfl ?_
          refine v_iinc1 dX2_countMoved_30 rfl (Nat.le_of_ble_eq_true rfl) rfl ?_
          refine v_goto (tgt := 4) dX2_countMoved_33 (by decide) ?_
          first | (rw [cnt_t (p := fun w => ¬ x.2.2.2.2.2.1 w = x.2.2.2.2.2.2 w) (n := k) ‹_›] at ih; exact ih) | (rw [cnt_f (p := fun w => ¬ x.2.2.2.2.2.1 w = x.2.2.2.2.2.2 w) (n := k) (fun h => h ‹_›)] at ih; exact ih)
  refine Ct.start 2 (by decide) rfl (Nat.le_of_ble_eq_true rfl) ?_
  refine v_iconst (v := nI 0) dX2_countMoved_0 (by decide) rfl ?_
  refine v_istore_n dX2_countMoved_1 (Nat.le_of_ble_eq_true rfl) rfl ?_
  refine v_iconst (v := nI 0) dX2_countMoved_2 (by decide) rfl ?_
  refine v_istore_n dX2_countMoved_3 (Nat.le_of_ble_eq_true rfl) rfl ?_
  exact key 0 (Nat.zero_le _)
noncomputable def trnN (p q : Nat → Int32) (n : Nat) : Nat → Nat
  | 0 => 0
  | i + 1 => trnN p q n i + cnt (fun j => ¬ p i ≤ p j ∧ ¬ q j ≤ q i) n
theorem trnN_le (p q : Nat → Int32) (n : Nat) : ∀ i, trnN p q n i ≤ n * i
  | 0 => Nat.le_refl _
  | i + 1 => by
    have h1 := trnN_le p q n i
    have h2 := cnt_le (fun j => ¬ p i ≤ p j ∧ ¬ q j ≤ q i) n
    simp only [trnN, Nat.mul_add]
    omega
theorem c_countTurned (hX : PX G s x hp) : Ct G mX2_countTurned 0 0 0 [.ref (G.2.2.2 + 0)] hp (Qf (some (.int (nI (trnN x.2.2.2.2.2.1 x.2.2.2.2.2.2 s.n s.n)))) hp) := by
  obtain ⟨h0, h1, hgl, h2, hgw, h3, h4, h5, h6, hln, hwk, hn, hlen⟩ := hX
  generalize x.2.2.2.2.2.1 = p at *
  generalize x.2.2.2.2.2.2 = q at *
  have inner : ∀ i, i < s.n → (∀ l3 : Option Value, Vm G mX2_countTurned 0 0 0 (Qf (some (.int (nI (trnN p q s.n s.n)))) hp) 4 [some (.ref (G.2.2.2 + 0)), some (.int (nI (trnN p q s.n (i + 1)))), some (.int (nI (i + 1))), l3] [] hp 0 0) → ∀ k, k ≤ s.n → Vm G mX2_countTurned 0 0 0 (Qf (some (.int (nI (trnN p q s.n s.n)))) hp) 14 [some (.ref (G.2.2.2 + 0)), some (.int (nI (trnN p q s.n i + cnt (fun j => ¬ p i ≤ p j ∧ ¬ q j ≤ q i) k))), some (.int (nI i)), some (.int (nI k))] [] hp 0 0 := by
    intro i hi hout
    refine loop_up ?_ (fun k hk ih => ?_)
    · refine v_iload_n dX2_countTurned_14 rfl rfl ?_
      refine v_aload_n dX2_countTurned_15 rfl rfl ?_
      refine v_getf dX2_countTurned_16 fl_X2_21 (by assumption) (by rfl) rfl ?_
      refine v_icmp_geN (tgt := 61) dX2_countTurned_19 (by decide) rfl (by omega) (by omega) (fun c19 => ?_) (fun c19 => ?_)
      · refine v_iinc1 dX2_countTurned_61 rfl (Nat.le_of_ble_eq_true rfl) rfl ?_
        refine v_goto (tgt := 4) dX2_countTurned_64 (by decide) ?_
        exact hout _
      · exact absurd c19 (by omega)
    · refine v_iload_n dX2_countTurned_14 rfl rfl ?_
      refine v_aload_n dX2_countTurned_15 rfl rfl ?_
      refine v_getf dX2_countTurned_16 fl_X2_21 (by assumption) (by rfl) rfl ?_
      refine v_icmp_geN (tgt := 61) dX2_countTurned_19 (by decide) rfl (by omega) (by omega) (fun c19 => ?_) (fun c19 => ?_)
      · exact absurd c19 (by omega)
      · refine v_aload_n dX2_countTurned_22 rfl rfl ?_
        refine v_getf dX2_countTurned_23 fl_X2_36 (by assumption) (by rfl) rfl ?_
        refine v_iload_n dX2_countTurned_26 rfl rfl ?_
        refine v_iald _ dX2_countTurned_27 (by assumption) rfl (by omega) (by decide) rfl ?_
        refine v_aload_n dX2_countTurned_28 rfl rfl ?_
        refine v_getf dX2_countTurned_29 fl_X2_36 (by assumption) (by rfl) rfl ?_
        refine v_iload_n dX2_countTurned_32 rfl rfl ?_
        refine v_iald _ dX2_countTurned_33 (by assumption) rfl (by omega) (by decide) rfl ?_
        refine v_icmp_le (tgt := 55) dX2_countTurned_34 (by decide) rfl (fun c34 => ?_) (fun c34 => ?_)
        · refine v_iinc1 dX2_countTurned_55 rfl (Nat.le_of_ble_eq_true rfl) rfl ?_
          refine v_goto (tgt := 14) dX2_countTurned_58 (by decide) ?_
          first | (rw [cnt_t (p := fun j => ¬ p i ≤ p j ∧ ¬ q j ≤ q i) (n := k) ⟨‹_›, ‹_›⟩] at ih; exact ih) | (rw [cnt_f (p := fun j => ¬ p i ≤ p j ∧ ¬ q j ≤ q i) (n := k) (fun h => absurd ‹_› h.1)] at ih; exact ih) | (rw [cnt_f (p := fun j => ¬ p i ≤ p j ∧ ¬ q j ≤ q i) (n := k) (fun h => absurd ‹_› h.2)] at ih; exact ih)
        · refine v_aload_n dX2_countTurned_37 rfl rfl ?_
          refine v_getf dX2_countTurned_38 fl_X2_39 (by assumption) (by rfl) rfl ?_
          refine v_iload_n dX2_countTurned_41 rfl rfl ?_
          refine v_iald _ dX2_countTurned_42 (by assumption) rfl (by omega) (by decide) rfl ?_
          refine v_aload_n dX2_countTurned_43 rfl rfl ?_
          refine v_getf dX2_countTurned_44 fl_X2_39 (by assumption) (by rfl) rfl ?_
          refine v_iload_n dX2_countTurned_47 rfl rfl ?_
          refine v_iald _ dX2_countTurned_48 (by assumption) rfl (by omega) (by decide) rfl ?_
          refine v_icmp_ge (tgt := 55) dX2_countTurned_49 (by decide) rfl (fun c49 => ?_) (fun c49 => ?_)
          · refine v_iinc1 dX2_countTurned_55 rfl (Nat.le_of_ble_eq_true rfl) rfl ?_
            refine v_goto (tgt := 14) dX2_countTurned_58 (by decide) ?_
            first | (rw [cnt_t (p := fun j => ¬ p i ≤ p j ∧ ¬ q j ≤ q i) (n := k) ⟨‹_›, ‹_›⟩] at ih; exact ih) | (rw [cnt_f (p := fun j => ¬ p i ≤ p j ∧ ¬ q j ≤ q i) (n := k) (fun h => absurd ‹_› h.1)] at ih; exact ih) | (rw [cnt_f (p := fun j => ¬ p i ≤ p j ∧ ¬ q j ≤ q i) (n := k) (fun h => absurd ‹_› h.2)] at ih; exact ih)
          · refine v_iinc1 dX2_countTurned_52 rfl (Nat.le_of_ble_eq_true rfl) rfl ?_
            refine v_iinc1 dX2_countTurned_55 rfl (Nat.le_of_ble_eq_true rfl) rfl ?_
            refine v_goto (tgt := 14) dX2_countTurned_58 (by decide) ?_
            first | (rw [cnt_t (p := fun j => ¬ p i ≤ p j ∧ ¬ q j ≤ q i) (n := k) ⟨‹_›, ‹_›⟩] at ih; exact ih) | (rw [cnt_f (p := fun j => ¬ p i ≤ p j ∧ ¬ q j ≤ q i) (n := k) (fun h => absurd ‹_› h.1)] at ih; exact ih) | (rw [cnt_f (p := fun j => ¬ p i ≤ p j ∧ ¬ q j ≤ q i) (n := k) (fun h => absurd ‹_› h.2)] at ih; exact ih)
  have key : ∀ k, k ≤ s.n → ∀ (l3 : Option Value), Vm G mX2_countTurned 0 0 0 (Qf (some (.int (nI (trnN p q s.n s.n)))) hp) 4 [some (.ref (G.2.2.2 + 0)), some (.int (nI (trnN p q s.n k))), some (.int (nI k)), l3] [] hp 0 0 := by
    refine loop_up ?_ (fun k hk ih => ?_)
    · intro l3
      refine v_iload_n dX2_countTurned_4 rfl rfl ?_
      refine v_aload_n dX2_countTurned_5 rfl rfl ?_
      refine v_getf dX2_countTurned_6 fl_X2_21 (by assumption) (by rfl) rfl ?_
      refine v_icmp_geN (tgt := 67) dX2_countTurned_9 (by decide) rfl (by omega) (by omega) (fun c9 => ?_) (fun c9 => ?_)
      · refine v_iload_n dX2_countTurned_67 rfl rfl ?_
        exact v_iret dX2_countTurned_68 rfl ⟨Nat.le_of_ble_eq_true rfl, Nat.le_of_ble_eq_true rfl⟩ (⟨rfl, rfl⟩)
      · exact absurd c9 (by omega)
    · intro l3
      refine v_iload_n dX2_countTurned_4 rfl rfl ?_
      refine v_aload_n dX2_countTurned_5 rfl rfl ?_
      refine v_getf dX2_countTurned_6 fl_X2_21 (by assumption) (by rfl) rfl ?_
      refine v_icmp_geN (tgt := 67) dX2_countTurned_9 (by decide) rfl (by omega) (by omega) (fun c9 => ?_) (fun c9 => ?_)
      · exact absurd c9 (by omega)
      · refine v_iconst (v := nI 0) dX2_countTurned_12 (by decide) rfl ?_
        refine v_istore_n dX2_countTurned_13 (Nat.le_of_ble_eq_true rfl) rfl ?_
        exact inner k hk ih 0 (Nat.zero_le _)
  refine Ct.start 3 (by decide) rfl (Nat.le_of_ble_eq_true rfl) ?_
  refine v_iconst (v := nI 0) dX2_countTurned_0 (by decide) rfl ?_
  refine v_istore_n dX2_countTurned_1 (Nat.le_of_ble_eq_true rfl) rfl ?_
  refine v_iconst (v := nI 0) dX2_countTurned_2 (by decide) rfl ?_
  refine v_istore_n dX2_countTurned_3 (Nat.le_of_ble_eq_true rfl) rfl ?_
  exact key 0 (Nat.zero_le _) _
theorem c_countBothMarked (hX : PX G s x hp) {a b : Nat} (ha : a < 3) (hb : b < 3) : Ct G mX2_countBothMarked 2 0 0 [.ref (G.2.2.2 + 0), .int (nI a), .int (nI b)] hp (Qf (some (.int (nI (cnt (bothP s a b) s.n)))) hp) := by
  obtain ⟨h0, h1, hgl, h2, hgw, h3, h4, h5, h6, hln, hwk, hn, hlen⟩ := hX
  have key : ∀ k, k ≤ s.n → Vm G mX2_countBothMarked 2 0 0 (Qf (some (.int (nI (cnt (bothP s a b) s.n)))) hp) 5 [some (.ref (G.2.2.2 + 0)), some (.int (nI a)), some (.int (nI b)), some (.int (nI (cnt (bothP s a b) k))), some (.int (nI k))] [] hp 0 0 := by
    refine loop_up ?_ (fun k hk ih => ?_)
    · refine v_iload dX2_countBothMarked_5 rfl rfl ?_
      refine v_aload_n dX2_countBothMarked_7 rfl rfl ?_
      refine v_getf dX2_countBothMarked_8 fl_X2_21 (by assumption) (by rfl) rfl ?_
      refine v_icmp_geN (tgt := 38) dX2_countBothMarked_11 (by decide) rfl (by omega) (by omega) (fun c11 => ?_) (fun c11 => ?_)
      · refine v_iload_n dX2_countBothMarked_38 rfl rfl ?_
        exact v_iret dX2_countBothMarked_39 rfl ⟨Nat.le_of_ble_eq_true rfl, Nat.le_of_ble_eq_true rfl⟩ (⟨rfl, rfl⟩)
      · exact absurd c11 (by omega)
    · have hW := hwk k hk
      have l1 := hW.1
      refine v_iload dX2_countBothMarked_5 rfl rfl ?_
      refine v_aload_n dX2_countBothMarked_7 rfl rfl ?_
      refine v_getf dX2_countBothMarked_8 fl_X2_21 (by assumption) (by rfl) rfl ?_
      refine v_icmp_geN (tgt := 38) dX2_countBothMarked_11 (by decide) rfl (by omega) (by omega) (fun c11 => ?_) (fun c11 => ?_)
      · exact absurd c11 (by omega)
      · refine v_aload_n dX2_countBothMarked_14 rfl rfl ?_
        refine v_getf dX2_countBothMarked_15 fl_X2_17 (by assumption) (by rfl) rfl ?_
        refine v_iload dX2_countBothMarked_18 rfl rfl ?_
        refine v_aaldW _ dX2_countBothMarked_20 (by assumption) rfl (by omega) (by decide) (by rw [hgw _ (by omega)]) rfl ?_
        refine v_iload_n dX2_countBothMarked_21 rfl rfl ?_
        refine v_iload_n dX2_countBothMarked_22 rfl rfl ?_
        by_cases q23 : bothP s a b k
        · refine v_cvf dX2_countBothMarked_23 cw_X2_127 ⟨tn_X1_isMarkedByBoth, tl_X1_isMarkedByBoth⟩ rfl (by assumption) ((c_isMarkedByBoth G hp hW ha hb).yes ‹_›) (by rfl) (by rfl) (Nat.le_of_ble_eq_true rfl) (Nat.le_of_ble_eq_true rfl) (Nat.le_of_ble_eq_true rfl) (Nat.le_of_ble_eq_true rfl) (Nat.le_of_ble_eq_true rfl) rfl ?_
          refine v_if_eq (tgt := 32) dX2_countBothMarked_26 (by decide) rfl (fun q => absurd q (by decide)) (fun _ => ?_)
          refine v_iinc1 dX2_countBothMarked_29 rfl (Nat.le_of_ble_eq_true rfl) rfl ?_
          refine v_iinc1 dX2_countBothMarked_32 rfl (Nat.le_of_ble_eq_true rfl) rfl ?_
          refine v_goto (tgt := 5) dX2_countBothMarked_35 (by decide) ?_
          first | (rw [cnt_t (p := bothP s a b) (n := k) ‹_›] at ih; exact ih) | (rw [cnt_f (p := bothP s a b) (n := k) ‹_›] at ih; exact ih)
        · refine v_cvf dX2_countBothMarked_23 cw_X2_127 ⟨tn_X1_isMarkedByBoth, tl_X1_isMarkedByBoth⟩ rfl (by assumption) ((c_isMarkedByBoth G hp hW ha hb).no ‹_›) (by rfl) (by rfl) (Nat.le_of_ble_eq_true rfl) (Nat.le_of_ble_eq_true rfl) (Nat.le_of_ble_eq_true rfl) (Nat.le_of_ble_eq_true rfl) (Nat.le_of_ble_eq_true rfl) rfl ?_
          refine v_if_eq (tgt := 32) dX2_countBothMarked_26 (by decide) rfl (fun _ => ?_) (fun q => absurd (by decide) q)
          refine v_iinc1 dX2_countBothMarked_32 rfl (Nat.le_of_ble_eq_true rfl) rfl ?_
          refine v_goto (tgt := 5) dX2_countBothMarked_35 (by decide) ?_
          first | (rw [cnt_t (p := bothP s a b) (n := k) ‹_›] at ih; exact ih) | (rw [cnt_f (p := bothP s a b) (n := k) ‹_›] at ih; exact ih)
  refine Ct.start 2 (by decide) rfl (Nat.le_of_ble_eq_true rfl) ?_
  refine v_iconst (v := nI 0) dX2_countBothMarked_0 (by decide) rfl ?_
  refine v_istore_n dX2_countBothMarked_1 (Nat.le_of_ble_eq_true rfl) rfl ?_
  refine v_iconst (v := nI 0) dX2_countBothMarked_2 (by decide) rfl ?_
  refine v_istore dX2_countBothMarked_3 (Nat.le_of_ble_eq_true rfl) rfl ?_
  exact key 0 (Nat.zero_le _)
theorem c_countAlike (hX : PX G s x hp) {a b : Nat} (ha : a < 3) (hb : b < 3) : Ct G mX2_countAlike 2 0 0 [.ref (G.2.2.2 + 0), .int (nI a), .int (nI b)] hp (Qf (some (.int (nI (cnt (alkP s a b) s.n)))) hp) := by
  obtain ⟨h0, h1, hgl, h2, hgw, h3, h4, h5, h6, hln, hwk, hn, hlen⟩ := hX
  have key : ∀ k, k ≤ s.n → Vm G mX2_countAlike 2 0 0 (Qf (some (.int (nI (cnt (alkP s a b) s.n)))) hp) 5 [some (.ref (G.2.2.2 + 0)), some (.int (nI a)), some (.int (nI b)), some (.int (nI (cnt (alkP s a b) k))), some (.int (nI k))] [] hp 0 0 := by
    refine loop_up ?_ (fun k hk ih => ?_)
    · refine v_iload dX2_countAlike_5 rfl rfl ?_
      refine v_aload_n dX2_countAlike_7 rfl rfl ?_
      refine v_getf dX2_countAlike_8 fl_X2_21 (by assumption) (by rfl) rfl ?_
      refine v_icmp_geN (tgt := 65) dX2_countAlike_11 (by decide) rfl (by omega) (by omega) (fun c11 => ?_) (fun c11 => ?_)
      · refine v_iload_n dX2_countAlike_65 rfl rfl ?_
        exact v_iret dX2_countAlike_66 rfl ⟨Nat.le_of_ble_eq_true rfl, Nat.le_of_ble_eq_true rfl⟩ (⟨rfl, rfl⟩)
      · exact absurd c11 (by omega)
    · have hW := hwk k hk
      obtain ⟨l1, l2, l3⟩ := hwk k hk
      refine v_iload dX2_countAlike_5 rfl rfl ?_
      refine v_aload_n dX2_countAlike_7 rfl rfl ?_
      refine v_getf dX2_countAlike_8 fl_X2_21 (by assumption) (by rfl) rfl ?_
      refine v_icmp_geN (tgt := 65) dX2_countAlike_11 (by decide) rfl (by omega) (by omega) (fun c11 => ?_) (fun c11 => ?_)
      · exact absurd c11 (by omega)
      · refine v_aload_n dX2_countAlike_14 rfl rfl ?_
        refine v_getf dX2_countAlike_15 fl_X2_17 (by assumption) (by rfl) rfl ?_
        refine v_iload dX2_countAlike_18 rfl rfl ?_
        refine v_aaldW _ dX2_countAlike_20 (by assumption) rfl (by omega) (by decide) (by rw [hgw _ (by omega)]) rfl ?_
        refine v_iload_n dX2_countAlike_21 rfl rfl ?_
        refine v_iload_n dX2_countAlike_22 rfl rfl ?_
        by_cases q23 : bothP s a b k
        · refine v_cvf dX2_countAlike_23 cw_X2_127 ⟨tn_X1_isMarkedByBoth, tl_X1_isMarkedByBoth⟩ rfl (by assumption) ((c_isMarkedByBoth G hp hW ha hb).yes ‹_›) (by rfl) (by rfl) (Nat.le_of_ble_eq_true rfl) (Nat.le_of_ble_eq_true rfl) (Nat.le_of_ble_eq_true rfl) (Nat.le_of_ble_eq_true rfl) (Nat.le_of_ble_eq_true rfl) rfl ?_
          refine v_if_eq (tgt := 59) dX2_countAlike_26 (by decide) rfl (fun q => absurd q (by decide)) (fun _ => ?_)
          refine v_aload_n dX2_countAlike_29 rfl rfl ?_
          refine v_getf dX2_countAlike_30 fl_X2_17 (by assumption) (by rfl) rfl ?_
          refine v_iload dX2_countAlike_33 rfl rfl ?_
          refine v_aaldW _ dX2_countAlike_35 (by assumption) rfl (by omega) (by decide) (by rw [hgw _ (by omega)]) rfl ?_
          refine v_getf dX2_countAlike_36 fl_X2_107 (by assumption) (by rfl) rfl ?_
          refine v_iload_n dX2_countAlike_39 rfl rfl ?_
          refine v_iald _ dX2_countAlike_40 (by assumption) rfl (by omega) (by decide) rfl ?_
          refine v_aload_n dX2_countAlike_41 rfl rfl ?_
          refine v_getf dX2_countAlike_42 fl_X2_17 (by assumption) (by rfl) rfl ?_
          refine v_iload dX2_countAlike_45 rfl rfl ?_
          refine v_aaldW _ dX2_countAlike_47 (by assumption) rfl (by omega) (by decide) (by rw [hgw _ (by omega)]) rfl ?_
          refine v_getf dX2_countAlike_48 fl_X2_107 (by assumption) (by rfl) rfl ?_
          refine v_iload_n dX2_countAlike_51 rfl rfl ?_
          refine v_iald _ dX2_countAlike_52 (by assumption) rfl (by omega) (by decide) rfl ?_
          refine v_icmp_ne (tgt := 59) dX2_countAlike_53 (by decide) rfl (fun c53 => ?_) (fun c53 => ?_)
          · refine v_iinc1 dX2_countAlike_59 rfl (Nat.le_of_ble_eq_true rfl) rfl ?_
            refine v_goto (tgt := 5) dX2_countAlike_62 (by decide) ?_
            first | (rw [cnt_t (p := alkP s a b) (n := k) ⟨‹_›, ‹_›⟩] at ih; exact ih) | (rw [cnt_f (p := alkP s a b) (n := k) (fun h => absurd h.1 ‹_›)] at ih; exact ih) | (rw [cnt_f (p := alkP s a b) (n := k) (fun h => absurd h.2 ‹_›)] at ih; exact ih)
          · refine v_iinc1 dX2_countAlike_56 rfl (Nat.le_of_ble_eq_true rfl) rfl ?_
            refine v_iinc1 dX2_countAlike_59 rfl (Nat.le_of_ble_eq_true rfl) rfl ?_
            refine v_goto (tgt := 5) dX2_countAlike_62 (by decide) ?_
            first | (rw [cnt_t (p := alkP s a b) (n := k) ⟨‹_›, ‹_›⟩] at ih; exact ih) | (rw [cnt_f (p := alkP s a b) (n := k) (fun h => absurd h.1 ‹_›)] at ih; exact ih) | (rw [cnt_f (p := alkP s a b) (n := k) (fun h => absurd h.2 ‹_›)] at ih; exact ih)
        · refine v_cvf dX2_countAlike_23 cw_X2_127 ⟨tn_X1_isMarkedByBoth, tl_X1_isMarkedByBoth⟩ rfl (by assumption) ((c_isMarkedByBoth G hp hW ha hb).no ‹_›) (by rfl) (by rfl) (Nat.le_of_ble_eq_true rfl) (Nat.le_of_ble_eq_true rfl) (Nat.le_of_ble_eq_true rfl) (Nat.le_of_ble_eq_true rfl) (Nat.le_of_ble_eq_true rfl) rfl ?_
          refine v_if_eq (tgt := 59) dX2_countAlike_26 (by decide) rfl (fun _ => ?_) (fun q => absurd (by decide) q)
          refine v_iinc1 dX2_countAlike_59 rfl (Nat.le_of_ble_eq_true rfl) rfl ?_
          refine v_goto (tgt := 5) dX2_countAlike_62 (by decide) ?_
          first | (rw [cnt_t (p := alkP s a b) (n := k) ⟨‹_›, ‹_›⟩] at ih; exact ih) | (rw [cnt_f (p := alkP s a b) (n := k) (fun h => absurd h.1 ‹_›)] at ih; exact ih) | (rw [cnt_f (p := alkP s a b) (n := k) (fun h => absurd h.2 ‹_›)] at ih; exact ih)
  refine Ct.start 2 (by decide) rfl (Nat.le_of_ble_eq_true rfl) ?_
  refine v_iconst (v := nI 0) dX2_countAlike_0 (by decide) rfl ?_
  refine v_istore_n dX2_countAlike_1 (Nat.le_of_ble_eq_true rfl) rfl ?_
  refine v_iconst (v := nI 0) dX2_countAlike_2 (by decide) rfl ?_
  refine v_istore dX2_countAlike_3 (Nat.le_of_ble_eq_true rfl) rfl ?_
  exact key 0 (Nat.zero_le _)
theorem c_countGave (hX : PX G s x hp) {a b : Nat} (ha : a < 3) (hb : b < 3) (v : Nat) : Ct G mX2_countGave 2 0 0 [.ref (G.2.2.2 + 0), .int (nI a), .int (nI b), .int (nI v)] hp (Qf (some (.int (nI (cnt (gavP s a b v) s.n)))) hp) := by
  obtain ⟨h0, h1, hgl, h2, hgw, h3, h4, h5, h6, hln, hwk, hn, hlen⟩ := hX
  have key : ∀ k, k ≤ s.n → Vm G mX2_countGave 2 0 0 (Qf (some (.int (nI (cnt (gavP s a b v) s.n)))) hp) 6 [some (.ref (G.2.2.2 + 0)), some (.int (nI a)), some (.int (nI b)), some (.int (nI v)), some (.int (nI (cnt (gavP s a b v) k))), some (.int (nI k))] [] hp 0 0 := by
    refine loop_up ?_ (fun k hk ih => ?_)
    · refine v_iload dX2_countGave_6 rfl rfl ?_
      refine v_aload_n dX2_countGave_8 rfl rfl ?_
      refine v_getf dX2_countGave_9 fl_X2_21 (by assumption) (by rfl) rfl ?_
      refine v_icmp_geN (tgt := 55) dX2_countGave_12 (by decide) rfl (by omega) (by omega) (fun c12 => ?_) (fun c12 => ?_)
      · refine v_iload dX2_countGave_55 rfl rfl ?_
        exact v_iret dX2_countGave_57 rfl ⟨Nat.le_of_ble_eq_true rfl, Nat.le_of_ble_eq_true rfl⟩ (⟨rfl, rfl⟩)
      · exact absurd c12 (by omega)
    · have hW := hwk k hk
      obtain ⟨l1, l2, l3⟩ := hwk k hk
      refine v_iload dX2_countGave_6 rfl rfl ?_
      refine v_aload_n dX2_countGave_8 rfl rfl ?_
      refine v_getf dX2_countGave_9 fl_X2_21 (by assumption) (by rfl) rfl ?_
      refine v_icmp_geN (tgt := 55) dX2_countGave_12 (by decide) rfl (by omega) (by omega) (fun c12 => ?_) (fun c12 => ?_)
      · exact absurd c12 (by omega)
      · refine v_aload_n dX2_countGave_15 rfl rfl ?_
        refine v_getf dX2_countGave_16 fl_X2_17 (by assumption) (by rfl) rfl ?_
        refine v_iload dX2_countGave_19 rfl rfl ?_
        refine v_aaldW _ dX2_countGave_21 (by assumption) rfl (by omega) (by decide) (by rw [hgw _ (by omega)]) rfl ?_
        refine v_iload_n dX2_countGave_22 rfl rfl ?_
        refine v_iload_n dX2_countGave_23 rfl rfl ?_
        by_cases q24 : bothP s a b k
        · refine v_cvf dX2_countGave_24 cw_X2_127 ⟨tn_X1_isMarkedByBoth, tl_X1_isMarkedByBoth⟩ rfl (by assumption) ((c_isMarkedByBoth G hp hW ha hb).yes ‹_›) (by rfl) (by rfl) (Nat.le_of_ble_eq_true rfl) (Nat.le_of_ble_eq_true rfl) (Nat.le_of_ble_eq_true rfl) (Nat.le_of_ble_eq_true rfl) (Nat.le_of_ble_eq_true rfl) rfl ?_
          refine v_if_eq (tgt := 49) dX2_countGave_27 (by decide) rfl (fun q => absurd q (by decide)) (fun _ => ?_)
          refine v_aload_n dX2_countGave_30 rfl rfl ?_
          refine v_getf dX2_countGave_31 fl_X2_17 (by assumption) (by rfl) rfl ?_
          refine v_iload dX2_countGave_34 rfl rfl ?_
          refine v_aaldW _ dX2_countGave_36 (by assumption) rfl (by omega) (by decide) (by rw [hgw _ (by omega)]) rfl ?_
          refine v_getf dX2_countGave_37 fl_X2_107 (by assumption) (by rfl) rfl ?_
          refine v_iload_n dX2_countGave_40 rfl rfl ?_
          refine v_iald _ dX2_countGave_41 (by assumption) rfl (by omega) (by decide) rfl ?_
          refine v_iload_n dX2_countGave_42 rfl rfl ?_
          refine v_icmp_ne (tgt := 49) dX2_countGave_43 (by decide) rfl (fun c43 => ?_) (fun c43 => ?_)
          · refine v_iinc1 dX2_countGave_49 rfl (Nat.le_of_ble_eq_true rfl) rfl ?_
            refine v_goto (tgt := 6) dX2_countGave_52 (by decide) ?_
            first | (rw [cnt_t (p := gavP s a b v) (n := k) ⟨‹_›, ‹_›⟩] at ih; exact ih) | (rw [cnt_f (p := gavP s a b v) (n := k) (fun h => absurd h.1 ‹_›)] at ih; exact ih) | (rw [cnt_f (p := gavP s a b v) (n := k) (fun h => absurd h.2 ‹_›)] at ih; exact ih)
          · refine v_iinc1 dX2_countGave_46 rfl (Nat.le_of_ble_eq_true rfl) rfl ?_
            refine v_iinc1 dX2_countGave_49 rfl (Nat.le_of_ble_eq_true rfl) rfl ?_
            refine v_goto (tgt := 6) dX2_countGave_52 (by decide) ?_
            first | (rw [cnt_t (p := gavP s a b v) (n := k) ⟨‹_›, ‹_›⟩] at ih; exact ih) | (rw [cnt_f (p := gavP s a b v) (n := k) (fun h => absurd h.1 ‹_›)] at ih; exact ih) | (rw [cnt_f (p := gavP s a b v) (n := k) (fun h => absurd h.2 ‹_›)] at ih; exact ih)
        · refine v_cvf dX2_countGave_24 cw_X2_127 ⟨tn_X1_isMarkedByBoth, tl_X1_isMarkedByBoth⟩ rfl (by assumption) ((c_isMarkedByBoth G hp hW ha hb).no ‹_›) (by rfl) (by rfl) (Nat.le_of_ble_eq_true rfl) (Nat.le_of_ble_eq_true rfl) (Nat.le_of_ble_eq_true rfl) (Nat.le_of_ble_eq_true rfl) (Nat.le_of_ble_eq_true rfl) rfl ?_
          refine v_if_eq (tgt := 49) dX2_countGave_27 (by decide) rfl (fun _ => ?_) (fun q => absurd (by decide) q)
          refine v_iinc1 dX2_countGave_49 rfl (Nat.le_of_ble_eq_true rfl) rfl ?_
          refine v_goto (tgt := 6) dX2_countGave_52 (by decide) ?_
          first | (rw [cnt_t (p := gavP s a b v) (n := k) ⟨‹_›, ‹_›⟩] at ih; exact ih) | (rw [cnt_f (p := gavP s a b v) (n := k) (fun h => absurd h.1 ‹_›)] at ih; exact ih) | (rw [cnt_f (p := gavP s a b v) (n := k) (fun h => absurd h.2 ‹_›)] at ih; exact ih)
  refine Ct.start 2 (by decide) rfl (Nat.le_of_ble_eq_true rfl) ?_
  refine v_iconst (v := nI 0) dX2_countGave_0 (by decide) rfl ?_
  refine v_istore dX2_countGave_1 (Nat.le_of_ble_eq_true rfl) rfl ?_
  refine v_iconst (v := nI 0) dX2_countGave_3 (by decide) rfl ?_
  refine v_istore dX2_countGave_4 (Nat.le_of_ble_eq_true rfl) rfl ?_
  exact key 0 (Nat.zero_le _)
theorem c_chanceOfAlike (hX : PX G s x hp) {a b : Nat} (ha : a < 3) (hb : b < 3) : Ct G mX2_chanceOfAlike 3 0 0 [.ref (G.2.2.2 + 0), .int (nI a), .int (nI b)] hp (Qf (some (.int (nI (chN s a b 4)))) hp) := by
  have h0 := hX.1
  have key : ∀ k, k ≤ 4 → Vm G mX2_chanceOfAlike 3 0 0 (Qf (some (.int (nI (chN s a b 4)))) hp) 5 [some (.ref (G.2.2.2 + 0)), some (.int (nI a)), some (.int (nI b)), some (.int (nI (chN s a b k))), some (.int (nI k))] [] hp 0 0 := by
    refine loop_up ?_ (fun k hk ih => ?_)
    · refine v_iload dX2_chanceOfAlike_5 rfl rfl ?_
      refine v_iconst (v := nI 4) dX2_chanceOfAlike_7 (by decide) rfl ?_
      refine v_icmp_geN (tgt := 37) dX2_chanceOfAlike_8 (by decide) rfl (by omega) (by omega) (fun c8 => ?_) (fun c8 => ?_)
      · refine v_iload_n dX2_chanceOfAlike_37 rfl rfl ?_
        exact v_iret dX2_chanceOfAlike_38 rfl ⟨Nat.le_of_ble_eq_true rfl, Nat.le_of_ble_eq_true rfl⟩ (⟨rfl, rfl⟩)
      · exact absurd c8 (by omega)
    · refine v_iload dX2_chanceOfAlike_5 rfl rfl ?_
      refine v_iconst (v := nI 4) dX2_chanceOfAlike_7 (by decide) rfl ?_
      refine v_icmp_geN (tgt := 37) dX2_chanceOfAlike_8 (by decide) rfl (by omega) (by omega) (fun c8 => ?_) (fun c8 => ?_)
      · exact absurd c8 (by omega)
      · refine v_iload_n dX2_chanceOfAlike_11 rfl rfl ?_
        refine v_aload_n dX2_chanceOfAlike_12 rfl rfl ?_
        refine v_iload_n dX2_chanceOfAlike_13 rfl rfl ?_
        refine v_iload_n dX2_chanceOfAlike_14 rfl rfl ?_
        refine v_iload dX2_chanceOfAlike_15 rfl rfl ?_
        refine v_cvf dX2_chanceOfAlike_17 cw_X2_187 ⟨tn_X2_countGave, tl_X2_countGave⟩ rfl (by assumption) (c_countGave G hp hX ha hb k) (by rfl) (by rfl) (Nat.le_of_ble_eq_true rfl) (Nat.le_of_ble_eq_true rfl) (Nat.le_of_ble_eq_true rfl) (Nat.le_of_ble_eq_true rfl) (Nat.le_of_ble_eq_true rfl) rfl ?_
        refine v_aload_n dX2_chanceOfAlike_20 rfl rfl ?_
        refine v_iload_n dX2_chanceOfAlike_21 rfl rfl ?_
        refine v_iload_n dX2_chanceOfAlike_22 rfl rfl ?_
        refine v_iload dX2_chanceOfAlike_23 rfl rfl ?_
        refine v_cvf dX2_chanceOfAlike_25 cw_X2_187 ⟨tn_X2_countGave, tl_X2_countGave⟩ rfl (by assumption) (c_countGave G hp hX hb ha k) (by rfl) (by rfl) (Nat.le_of_ble_eq_true rfl) (Nat.le_of_ble_eq_true rfl) (Nat.le_of_ble_eq_true rfl) (Nat.le_of_ble_eq_true rfl) (Nat.le_of_ble_eq_true rfl) rfl ?_
        refine v_imulN dX2_chanceOfAlike_28 rfl ?_
        refine v_iaddN dX2_chanceOfAlike_29 rfl ?_
        refine v_istore_n dX2_chanceOfAlike_30 (Nat.le_of_ble_eq_true rfl) rfl ?_
        refine v_iinc1 dX2_chanceOfAlike_31 rfl (Nat.le_of_ble_eq_true rfl) rfl ?_
        refine v_goto (tgt := 5) dX2_chanceOfAlike_34 (by decide) ?_
        exact ih
  refine Ct.start 2 (by decide) rfl (Nat.le_of_ble_eq_true rfl) ?_
  refine v_iconst (v := nI 0) dX2_chanceOfAlike_0 (by decide) rfl ?_
  refine v_istore_n dX2_chanceOfAlike_1 (Nat.le_of_ble_eq_true rfl) rfl ?_
  refine v_iconst (v := nI 0) dX2_chanceOfAlike_2 (by decide) rfl ?_
  refine v_istore dX2_chanceOfAlike_3 (Nat.le_of_ble_eq_true rfl) rfl ?_
  exact key 0 (by decide)
theorem c_countMarkedAnchors (hX : PX G s x hp) {m : Nat} (hm : m < 3) : Ct G mX2_countMarkedAnchors 1 0 0 [.ref (G.2.2.2 + 0), .int (nI m)] hp (Qf (some (.int (nI (cnt (offP s m) s.n)))) hp) := by
  obtain ⟨h0, h1, hgl, h2, hgw, h3, h4, h5, h6, hln, hwk, hn, hlen⟩ := hX
  have key : ∀ k, k ≤ s.n → Vm G mX2_countMarkedAnchors 1 0 0 (Qf (some (.int (nI (cnt (offP s m) s.n)))) hp) 4 [some (.ref (G.2.2.2 + 0)), some (.int (nI m)), some (.int (nI (cnt (offP s m) k))), some (.int (nI k))] [] hp 0 0 := by
    refine loop_up ?_ (fun k hk ih => ?_)
    · refine v_iload_n dX2_countMarkedAnchors_4 rfl rfl ?_
      refine v_aload_n dX2_countMarkedAnchors_5 rfl rfl ?_
      refine v_getf dX2_countMarkedAnchors_6 fl_X2_21 (by assumption) (by rfl) rfl ?_
      refine v_icmp_geN (tgt := 46) dX2_countMarkedAnchors_9 (by decide) rfl (by omega) (by omega) (fun c9 => ?_) (fun c9 => ?_)
      · refine v_iload_n dX2_countMarkedAnchors_46 rfl rfl ?_
        exact v_iret dX2_countMarkedAnchors_47 rfl ⟨Nat.le_of_ble_eq_true rfl, Nat.le_of_ble_eq_true rfl⟩ (⟨rfl, rfl⟩)
      · exact absurd c9 (by omega)
    · have hW := hwk k hk
      have l1 := hW.1
      refine v_iload_n dX2_countMarkedAnchors_4 rfl rfl ?_
      refine v_aload_n dX2_countMarkedAnchors_5 rfl rfl ?_
      refine v_getf dX2_countMarkedAnchors_6 fl_X2_21 (by assumption) (by rfl) rfl ?_
      refine v_icmp_geN (tgt := 46) dX2_countMarkedAnchors_9 (by decide) rfl (by omega) (by omega) (fun c9 => ?_) (fun c9 => ?_)
      · exact absurd c9 (by omega)
      · refine v_aload_n dX2_countMarkedAnchors_12 rfl rfl ?_
        refine v_getf dX2_countMarkedAnchors_13 fl_X2_17 (by assumption) (by rfl) rfl ?_
        refine v_iload_n dX2_countMarkedAnchors_16 rfl rfl ?_
        refine v_aaldW _ dX2_countMarkedAnchors_17 (by assumption) rfl (by omega) (by decide) (by rw [hgw _ (by omega)]) rfl ?_
        by_cases q18 : ancP s k
        · refine v_cvf dX2_countMarkedAnchors_18 cw_X2_184 ⟨tn_X1_isAnchor, tl_X1_isAnchor⟩ rfl (by assumption) ((c_isAnchor G hp hW).yes ‹_›) (by rfl) (by rfl) (Nat.le_of_ble_eq_true rfl) (Nat.le_of_ble_eq_true rfl) (Nat.le_of_ble_eq_true rfl) (Nat.le_of_ble_eq_true rfl) (Nat.le_of_ble_eq_true rfl) rfl ?_
          refine v_if_eq (tgt := 40) dX2_countMarkedAnchors_21 (by decide) rfl (fun q => absurd q (by decide)) (fun _ => ?_)
          refine v_aload_n dX2_countMarkedAnchors_24 rfl rfl ?_
          refine v_getf dX2_countMarkedAnchors_25 fl_X2_17 (by assumption) (by rfl) rfl ?_
          refine v_iload_n dX2_countMarkedAnchors_28 rfl rfl ?_
          refine v_aaldW _ dX2_countMarkedAnchors_29 (by assumption) rfl (by omega) (by decide) (by rw [hgw _ (by omega)]) rfl ?_
          refine v_iload_n dX2_countMarkedAnchors_30 rfl rfl ?_
          by_cases q31 : mkdP s m k
          · refine v_cvf dX2_countMarkedAnchors_31 cw_X2_144 ⟨tn_X1_isMarkedBy, tl_X1_isMarkedBy⟩ rfl (by assumption) ((c_isMarkedBy G hp hW hm).yes ‹_›) (by rfl) (by rfl) (Nat.le_of_ble_eq_true rfl) (Nat.le_of_ble_eq_true rfl) (Nat.le_of_ble_eq_true rfl) (Nat.le_of_ble_eq_true rfl) (Nat.le_of_ble_eq_true rfl) rfl ?_
            refine v_if_eq (tgt := 40) dX2_countMarkedAnchors_34 (by decide) rfl (fun q => absurd q (by decide)) (fun _ => ?_)
            refine v_iinc1 dX2_countMarkedAnchors_37 rfl (Nat.le_of_ble_eq_true rfl) rfl ?_
            refine v_iinc1 dX2_countMarkedAnchors_40 rfl (Nat.le_of_ble_eq_true rfl) rfl ?_
            refine v_goto (tgt := 4) dX2_countMarkedAnchors_43 (by decide) ?_
            first | (rw [cnt_t (p := offP s m) (n := k) ⟨‹_›, ‹_›⟩] at ih; exact ih) | (rw [cnt_f (p := offP s m) (n := k) (fun h => absurd h.1 ‹_›)] at ih; exact ih) | (rw [cnt_f (p := offP s m) (n := k) (fun h => absurd h.2 ‹_›)] at ih; exact ih)
          · refine v_cvf dX2_countMarkedAnchors_31 cw_X2_144 ⟨tn_X1_isMarkedBy, tl_X1_isMarkedBy⟩ rfl (by assumption) ((c_isMarkedBy G hp hW hm).no ‹_›) (by rfl) (by rfl) (Nat.le_of_ble_eq_true rfl) (Nat.le_of_ble_eq_true rfl) (Nat.le_of_ble_eq_true rfl) (Nat.le_of_ble_eq_true rfl) (Nat.le_of_ble_eq_true rfl) rfl ?_
            refine v_if_eq (tgt := 40) dX2_countMarkedAnchors_34 (by decide) rfl (fun _ => ?_) (fun q => absurd (by decide) q)
            refine v_iinc1 dX2_countMarkedAnchors_40 rfl (Nat.le_of_ble_eq_true rfl) rfl ?_
            refine v_goto (tgt := 4) dX2_countMarkedAnchors_43 (by decide) ?_
            first | (rw [cnt_t (p := offP s m) (n := k) ⟨‹_›, ‹_›⟩] at ih; exact ih) | (rw [cnt_f (p := offP s m) (n := k) (fun h => absurd h.1 ‹_›)] at ih; exact ih) | (rw [cnt_f (p := offP s m) (n := k) (fun h => absurd h.2 ‹_›)] at ih; exact ih)
        · refine v_cvf dX2_countMarkedAnchors_18 cw_X2_184 ⟨tn_X1_isAnchor, tl_X1_isAnchor⟩ rfl (by assumption) ((c_isAnchor G hp hW).no ‹_›) (by rfl) (by rfl) (Nat.le_of_ble_eq_true rfl) (Nat.le_of_ble_eq_true rfl) (Nat.le_of_ble_eq_true rfl) (Nat.le_of_ble_eq_true rfl) (Nat.le_of_ble_eq_true rfl) rfl ?_
          refine v_if_eq (tgt := 40) dX2_countMarkedAnchors_21 (by decide) rfl (fun _ => ?_) (fun q => absurd (by decide) q)
          refine v_iinc1 dX2_countMarkedAnchors_40 rfl (Nat.le_of_ble_eq_true rfl) rfl ?_
          refine v_goto (tgt := 4) dX2_countMarkedAnchors_43 (by decide) ?_
          first | (rw [cnt_t (p := offP s m) (n := k) ⟨‹_›, ‹_›⟩] at ih; exact ih) | (rw [cnt_f (p := offP s m) (n := k) (fun h => absurd h.1 ‹_›)] at ih; exact ih) | (rw [cnt_f (p := offP s m) (n := k) (fun h => absurd h.2 ‹_›)] at ih; exact ih)
  refine Ct.start 2 (by decide) rfl (Nat.le_of_ble_eq_true rfl) ?_
  refine v_iconst (v := nI 0) dX2_countMarkedAnchors_0 (by decide) rfl ?_
  refine v_istore_n dX2_countMarkedAnchors_1 (Nat.le_of_ble_eq_true rfl) rfl ?_
  refine v_iconst (v := nI 0) dX2_countMarkedAnchors_2 (by decide) rfl ?_
  refine v_istore_n dX2_countMarkedAnchors_3 (Nat.le_of_ble_eq_true rfl) rfl ?_
  exact key 0 (Nat.zero_le _)
theorem c_sumOffAnchors (hX : PX G s x hp) {m : Nat} (hm : m < 3) : Ct G mX2_sumOffAnchors 1 0 0 [.ref (G.2.2.2 + 0), .int (nI m)] hp (Qf (some (.int (offS s m s.n))) hp) := by
  obtain ⟨h0, h1, hgl, h2, hgw, h3, h4, h5, h6, hln, hwk, hn, hlen⟩ := hX
  have key : ∀ k, k ≤ s.n → Vm G mX2_sumOffAnchors 1 0 0 (Qf (some (.int (offS s m s.n))) hp) 4 [some (.ref (G.2.2.2 + 0)), some (.int (nI m)), some (.int (offS s m k)), some (.int (nI k))] [] hp 0 0 := by
    refine loop_up ?_ (fun k hk ih => ?_)
    · refine v_iload_n dX2_sumOffAnchors_4 rfl rfl ?_
      refine v_aload_n dX2_sumOffAnchors_5 rfl rfl ?_
      refine v_getf dX2_sumOffAnchors_6 fl_X2_21 (by assumption) (by rfl) rfl ?_
      refine v_icmp_geN (tgt := 67) dX2_sumOffAnchors_9 (by decide) rfl (by omega) (by omega) (fun c9 => ?_) (fun c9 => ?_)
      · refine v_iload_n dX2_sumOffAnchors_67 rfl rfl ?_
        exact v_iret dX2_sumOffAnchors_68 rfl ⟨Nat.le_of_ble_eq_true rfl, Nat.le_of_ble_eq_true rfl⟩ (⟨rfl, rfl⟩)
      · exact absurd c9 (by omega)
    · have hW := hwk k hk
      obtain ⟨l1, l2, l3⟩ := hwk k hk
      refine v_iload_n dX2_sumOffAnchors_4 rfl rfl ?_
      refine v_aload_n dX2_sumOffAnchors_5 rfl rfl ?_
      refine v_getf dX2_sumOffAnchors_6 fl_X2_21 (by assumption) (by rfl) rfl ?_
      refine v_icmp_geN (tgt := 67) dX2_sumOffAnchors_9 (by decide) rfl (by omega) (by omega) (fun c9 => ?_) (fun c9 => ?_)
      · exact absurd c9 (by omega)
      · refine v_aload_n dX2_sumOffAnchors_12 rfl rfl ?_
        refine v_getf dX2_sumOffAnchors_13 fl_X2_17 (by assumption) (by rfl) rfl ?_
        refine v_iload_n dX2_sumOffAnchors_16 rfl rfl ?_
        refine v_aaldW _ dX2_sumOffAnchors_17 (by assumption) rfl (by omega) (by decide) (by rw [hgw _ (by omega)]) rfl ?_
        by_cases q18 : ancP s k
        · refine v_cvf dX2_sumOffAnchors_18 cw_X2_184 ⟨tn_X1_isAnchor, tl_X1_isAnchor⟩ rfl (by assumption) ((c_isAnchor G hp hW).yes ‹_›) (by rfl) (by rfl) (Nat.le_of_ble_eq_true rfl) (Nat.le_of_ble_eq_true rfl) (Nat.le_of_ble_eq_true rfl) (Nat.le_of_ble_eq_true rfl) (Nat.le_of_ble_eq_true rfl) rfl ?_
          refine v_if_eq (tgt := 61) dX2_sumOffAnchors_21 (by decide) rfl (fun q => absurd q (by decide)) (fun _ => ?_)
          refine v_aload_n dX2_sumOffAnchors_24 rfl rfl ?_
          refine v_getf dX2_sumOffAnchors_25 fl_X2_17 (by assumption) (by rfl) rfl ?_
          refine v_iload_n dX2_sumOffAnchors_28 rfl rfl ?_
          refine v_aaldW _ dX2_sumOffAnchors_29 (by assumption) rfl (by omega) (by decide) (by rw [hgw _ (by omega)]) rfl ?_
          refine v_iload_n dX2_sumOffAnchors_30 rfl rfl ?_
          by_cases q31 : mkdP s m k
          · refine v_cvf dX2_sumOffAnchors_31 cw_X2_144 ⟨tn_X1_isMarkedBy, tl_X1_isMarkedBy⟩ rfl (by assumption) ((c_isMarkedBy G hp hW hm).yes ‹_›) (by rfl) (by rfl) (Nat.le_of_ble_eq_true rfl) (Nat.le_of_ble_eq_true rfl) (Nat.le_of_ble_eq_true rfl) (Nat.le_of_ble_eq_true rfl) (Nat.le_of_ble_eq_true rfl) rfl ?_
            refine v_if_eq (tgt := 61) dX2_sumOffAnchors_34 (by decide) rfl (fun q => absurd q (by decide)) (fun _ => ?_)
            refine v_iload_n dX2_sumOffAnchors_37 rfl rfl ?_
            refine v_aload_n dX2_sumOffAnchors_38 rfl rfl ?_
            refine v_getf dX2_sumOffAnchors_39 fl_X2_17 (by assumption) (by rfl) rfl ?_
            refine v_iload_n dX2_sumOffAnchors_42 rfl rfl ?_
            refine v_aaldW _ dX2_sumOffAnchors_43 (by assumption) rfl (by omega) (by decide) (by rw [hgw _ (by omega)]) rfl ?_
            refine v_getf dX2_sumOffAnchors_44 fl_X2_107 (by assumption) (by rfl) rfl ?_
            refine v_iload_n dX2_sumOffAnchors_47 rfl rfl ?_
            refine v_iald _ dX2_sumOffAnchors_48 (by assumption) rfl (by omega) (by decide) rfl ?_
            refine v_aload_n dX2_sumOffAnchors_49 rfl rfl ?_
            refine v_getf dX2_sumOffAnchors_50 fl_X2_17 (by assumption) (by rfl) rfl ?_
            refine v_iload_n dX2_sumOffAnchors_53 rfl rfl ?_
            refine v_aaldW _ dX2_sumOffAnchors_54 (by assumption) rfl (by omega) (by decide) (by rw [hgw _ (by omega)]) rfl ?_
            refine v_getf dX2_sumOffAnchors_55 fl_X2_135 (by assumption) (by rfl) rfl ?_
            refine v_isub dX2_sumOffAnchors_58 rfl ?_
            refine v_iadd dX2_sumOffAnchors_59 rfl ?_
            refine v_istore_n dX2_sumOffAnchors_60 (Nat.le_of_ble_eq_true rfl) rfl ?_
            refine v_iinc1 dX2_sumOffAnchors_61 rfl (Nat.le_of_ble_eq_true rfl) rfl ?_
            refine v_goto (tgt := 4) dX2_sumOffAnchors_64 (by decide) ?_
            first | (rw [offS_t (k := k) ⟨‹_›, ‹_›⟩] at ih; exact ih) | (rw [offS_f (k := k) (fun h => absurd h.1 ‹_›)] at ih; exact ih) | (rw [offS_f (k := k) (fun h => absurd h.2 ‹_›)] at ih; exact ih)
          · refine v_cvf dX2_sumOffAnchors_31 cw_X2_144 ⟨tn_X1_isMarkedBy, tl_X1_isMarkedBy⟩ rfl (by assumption) ((c_isMarkedBy G hp hW hm).no ‹_›) (by rfl) (by rfl) (Nat.le_of_ble_eq_true rfl) (Nat.le_of_ble_eq_true rfl) (Nat.le_of_ble_eq_true rfl) (Nat.le_of_ble_eq_true rfl) (Nat.le_of_ble_eq_true rfl) rfl ?_
            refine v_if_eq (tgt := 61) dX2_sumOffAnchors_34 (by decide) rfl (fun _ => ?_) (fun q => absurd (by decide) q)
            refine v_iinc1 dX2_sumOffAnchors_61 rfl (Nat.le_of_ble_eq_true rfl) rfl ?_
            refine v_goto (tgt := 4) dX2_sumOffAnchors_64 (by decide) ?_
            first | (rw [offS_t (k := k) ⟨‹_›, ‹_›⟩] at ih; exact ih) | (rw [offS_f (k := k) (fun h => absurd h.1 ‹_›)] at ih; exact ih) | (rw [offS_f (k := k) (fun h => absurd h.2 ‹_›)] at ih; exact ih)
        · refine v_cvf dX2_sumOffAnchors_18 cw_X2_184 ⟨tn_X1_isAnchor, tl_X1_isAnchor⟩ rfl (by assumption) ((c_isAnchor G hp hW).no ‹_›) (by rfl) (by rfl) (Nat.le_of_ble_eq_true rfl) (Nat.le_of_ble_eq_true rfl) (Nat.le_of_ble_eq_true rfl) (Nat.le_of_ble_eq_true rfl) (Nat.le_of_ble_eq_true rfl) rfl ?_
          refine v_if_eq (tgt := 61) dX2_sumOffAnchors_21 (by decide) rfl (fun _ => ?_) (fun q => absurd (by decide) q)
          refine v_iinc1 dX2_sumOffAnchors_61 rfl (Nat.le_of_ble_eq_true rfl) rfl ?_
          refine v_goto (tgt := 4) dX2_sumOffAnchors_64 (by decide) ?_
          first | (rw [offS_t (k := k) ⟨‹_›, ‹_›⟩] at ih; exact ih) | (rw [offS_f (k := k) (fun h => absurd h.1 ‹_›)] at ih; exact ih) | (rw [offS_f (k := k) (fun h => absurd h.2 ‹_›)] at ih; exact ih)
  refine Ct.start 2 (by decide) rfl (Nat.le_of_ble_eq_true rfl) ?_
  refine v_iconst (v := nI 0) dX2_sumOffAnchors_0 (by decide) rfl ?_
  refine v_istore_n dX2_sumOffAnchors_1 (Nat.le_of_ble_eq_true rfl) rfl ?_
  refine v_iconst (v := nI 0) dX2_sumOffAnchors_2 (by decide) rfl ?_
  refine v_istore_n dX2_sumOffAnchors_3 (Nat.le_of_ble_eq_true rfl) rfl ?_
  exact key 0 (Nat.zero_le _)
end CLASS2
end
section
/-! THE CLASS: a ratio in least form; the pile, its drift and odds -/
theorem rem0 (u : Int32) {d : Nat} (hd : d < 2 ^ 31) : u - u / nI d * nI d = 0 ↔ d ∣ u.toInt.natAbs := by
  rw [← Int32.toInt_inj, rem_toInt, nI_toInt hd, ← Int.ofNat_dvd_left]
  exact ⟨fun h => Int.dvd_of_tmod_eq_zero h, fun h => Int.tmod_eq_zero_of_dvd h⟩
/-- the upper (part 0) or lower part of a ratio in least form -/
def ratI (u : Int32) (l : Nat) (part : Int32) : Int32 := if l = 0 then -200 else if part = 0 then u / nI (Nat.gcd u.toInt.natAbs l) else nI (l / Nat.gcd u.toInt.natAbs l)
theorem upd_back (u : Nat → Int32) (k : Nat) (y : Int32) : upd (upd u k y) k (u k) = u := by
  funext j
  by_cases h : j = k
  · subst h; simp [upd]
  · simp [upd, h]
theorem set_same {hp : List va_E} {i : Nat} {e : va_E} (h : hp[i]? = some e) : hp.set i e = hp := by
  apply List.ext_getElem?
  intro j
  by_cases hj : i = j
  · subst hj
    rw [List.getElem?_set_self (List.getElem?_eq_some_iff.mp h).1, h]
  · rw [List.getElem?_set_ne hj]
theorem set_get {hp : List va_E} {i : Nat} {e e' : va_E} (h : hp[i]? = some e) : (hp.set i e')[i]? = some e' := List.getElem?_set_self (List.getElem?_eq_some_iff.mp h).1
section CLASS3
variable (G : GG) (hp : List va_E) {s : ST} {x : XT}
theorem c_partOfRatio (u part : Int32) {l : Nat} (hl : l < 2 ^ 31) : Ct G mX2_partOfRatio 0 0 0 [.int u, .int (nI l), .int part] hp (Qf (some (.int (ratI u l part))) hp) := by
  have key : 0 < l → ∀ j d, d = Nat.gcd u.toInt.natAbs l + j → d ≤ l → Vm G mX2_partOfRatio 0 0 0 (Qf (some (.int (ratI u l part))) hp) 10 [some (.int u), some (.int (nI l)), some (.int part), some (.int (nI d))] [] hp 0 0 := by
    intro hl0
    have hg0 : 0 < Nat.gcd u.toInt.natAbs l := Nat.gcd_pos_of_pos_right _ hl0
    have hgu := Nat.gcd_dvd_left u.toInt.natAbs l
    have hgl := Nat.gcd_dvd_right u.toInt.natAbs l
    have hgd : ∀ d, d ∣ u.toInt.natAbs → d ∣ l → d ≤ Nat.gcd u.toInt.natAbs l := fun d h1 h2 => Nat.le_of_dvd hg0 (Nat.dvd_gcd h1 h2)
    have hend : ∀ q : Int32, ratI u l q = if q = 0 then u / nI (Nat.gcd u.toInt.natAbs l) else nI (l / Nat.gcd u.toInt.natAbs l) := fun q => by rw [ratI, if_neg (by omega)]
    generalize Nat.gcd u.toInt.natAbs l = g at *
    intro j
    induction j with
    | zero =>
      intro d hd hdl
      obtain rfl : d = g := by omega
      refine v_iload_n dX2_partOfRatio_10 rfl rfl ?_
      refine v_iconst (v := nI 1) dX2_partOfRatio_11 (by decide) rfl ?_
      refine v_icmp_leN (tgt := 33) dX2_partOfRatio_12 (by decide) rfl (by omega) (by omega) (fun c12 => ?_) (fun c12 => ?_)
      · refine v_iload_n dX2_partOfRatio_33 rfl rfl ?_
        refine v_if_ne (tgt := 41) dX2_partOfRatio_34 (by decide) rfl (fun c34 => ?_) (fun c34 => ?_)
        · refine v_iload_n dX2_partOfRatio_41 rfl rfl ?_
          refine v_iload_n dX2_partOfRatio_42 rfl rfl ?_
          refine v_idivN dX2_partOfRatio_43 (by omega) (by omega) (by omega) rfl ?_
          exact v_iret dX2_partOfRatio_44 rfl ⟨Nat.le_of_ble_eq_true rfl, Nat.le_of_ble_eq_true rfl⟩ (⟨by first | (rw [hend, if_pos ‹_›]; done) | (rw [hend, if_neg ‹_›]; done), rfl⟩)
        · refine v_iload_n dX2_partOfRatio_37 rfl rfl ?_
          refine v_goto (tgt := 42) dX2_partOfRatio_38 (by decide) ?_
          refine v_iload_n dX2_partOfRatio_42 rfl rfl ?_
          refine v_idiv dX2_partOfRatio_43 (nI_ne0 (by omega) (by omega)) rfl ?_
          exact v_iret dX2_partOfRatio_44 rfl ⟨Nat.le_of_ble_eq_true rfl, Nat.le_of_ble_eq_true rfl⟩ (⟨by first | (rw [hend, if_pos ‹_›]; done) | (rw [hend, if_neg ‹_›]; done), rfl⟩)
      · refine v_iload_n dX2_partOfRatio_15 rfl rfl ?_
        refine v_iload_n dX2_partOfRatio_16 rfl rfl ?_
        refine v_irem dX2_partOfRatio_17 (nI_ne0 (by omega) (by omega)) rfl ?_
        refine v_if_ne (tgt := 27) dX2_partOfRatio_18 (by decide) rfl (fun c18 => ?_) (fun c18 => ?_)
        · first | exact absurd ((rem0 u (by omega)).mpr hgu) c18 | exact absurd (Nat.mod_eq_zero_of_dvd hgl) c24
        · refine v_iload_n dX2_partOfRatio_21 rfl rfl ?_
          refine v_iload_n dX2_partOfRatio_22 rfl rfl ?_
          refine v_iremN dX2_partOfRatio_23 (by omega) (by omega) (by omega) rfl ?_
          refine v_if_eqN (tgt := 33) dX2_partOfRatio_24 (by decide) rfl (by omega) (fun c24 => ?_) (fun c24 => ?_)
          · refine v_iload_n dX2_partOfRatio_33 rfl rfl ?_
            refine v_if_ne (tgt := 41) dX2_partOfRatio_34 (by decide) rfl (fun c34 => ?_) (fun c34 => ?_)
            · refine v_iload_n dX2_partOfRatio_41 rfl rfl ?_
              refine v_iload_n dX2_partOfRatio_42 rfl rfl ?_
              refine v_idivN dX2_partOfRatio_43 (by omega) (by omega) (by omega) rfl ?_
              exact v_iret dX2_partOfRatio_44 rfl ⟨Nat.le_of_ble_eq_true rfl, Nat.le_of_ble_eq_true rfl⟩ (⟨by first | (rw [hend, if_pos ‹_›]; done) | (rw [hend, if_neg ‹_›]; done), rfl⟩)
            · refine v_iload_n dX2_partOfRatio_37 rfl rfl ?_
              refine v_goto (tgt := 42) dX2_partOfRatio_38 (by decide) ?_
              refine v_iload_n dX2_partOfRatio_42 rfl rfl ?_
              refine v_idiv dX2_partOfRatio_43 (nI_ne0 (by omega) (by omega)) rfl ?_
              exact v_iret dX2_partOfRatio_44 rfl ⟨Nat.le_of_ble_eq_true rfl, Nat.le_of_ble_eq_true rfl⟩ (⟨by first | (rw [hend, if_pos ‹_›]; done) | (rw [hend, if_neg ‹_›]; done), rfl⟩)
          · first | exact absurd ((rem0 u (by omega)).mpr hgu) c18 | exact absurd (Nat.mod_eq_zero_of_dvd hgl) c24
    | succ j ih =>
      intro d hd hdl
      obtain ⟨d, rfl⟩ : ∃ e, d = e + 1 := ⟨d - 1, by omega⟩
      refine v_iload_n dX2_partOfRatio_10 rfl rfl ?_
      refine v_iconst (v := nI 1) dX2_partOfRatio_11 (by decide) rfl ?_
      refine v_icmp_leN (tgt := 33) dX2_partOfRatio_12 (by decide) rfl (by omega) (by omega) (fun c12 => ?_) (fun c12 => ?_)
      · exact absurd c12 (by omega)
      · refine v_iload_n dX2_partOfRatio_15 rfl rfl ?_
        refine v_iload_n dX2_partOfRatio_16 rfl rfl ?_
        refine v_irem dX2_partOfRatio_17 (nI_ne0 (by omega) (by omega)) rfl ?_
        refine v_if_ne (tgt := 27) dX2_partOfRatio_18 (by decide) rfl (fun c18 => ?_) (fun c18 => ?_)
        · refine v_iincM dX2_partOfRatio_27 rfl (Nat.le_of_ble_eq_true rfl) rfl ?_
          refine v_goto (tgt := 10) dX2_partOfRatio_30 (by decide) ?_
          exact ih d (by omega) (by omega)
        · have hm : l % (d + 1) < d + 1 := Nat.mod_lt _ (by omega)
          refine v_iload_n dX2_partOfRatio_21 rfl rfl ?_
          refine v_iload_n dX2_partOfRatio_22 rfl rfl ?_
          refine v_iremN dX2_partOfRatio_23 (by omega) (by omega) (by omega) rfl ?_
          refine v_if_eqN (tgt := 33) dX2_partOfRatio_24 (by decide) rfl (by omega) (fun c24 => ?_) (fun c24 => ?_)
          · exact absurd (hgd _ ((rem0 u (by omega)).mp c18) (Nat.dvd_of_mod_eq_zero c24)) (by omega)
          · refine v_iincM dX2_partOfRatio_27 rfl (Nat.le_of_ble_eq_true rfl) rfl ?_
            refine v_goto (tgt := 10) dX2_partOfRatio_30 (by decide) ?_
            exact ih d (by omega) (by omega)
  refine Ct.start 1 (by decide) rfl (Nat.le_of_ble_eq_true rfl) ?_
  refine v_iload_n dX2_partOfRatio_0 rfl rfl ?_
  refine v_if_gtN (tgt := 8) dX2_partOfRatio_1 (by decide) rfl (by omega) (fun c1 => ?_) (fun c1 => ?_)
  · refine v_iload_n dX2_partOfRatio_8 rfl rfl ?_
    refine v_istore_n dX2_partOfRatio_9 (Nat.le_of_ble_eq_true rfl) rfl ?_
    exact key c1 (l - Nat.gcd u.toInt.natAbs l) l (by have := Nat.le_of_dvd c1 (Nat.gcd_dvd_right u.toInt.natAbs l); omega) (Nat.le_refl _)
  · refine v_sipush (v := (-200)) dX2_partOfRatio_4 (by decide) rfl ?_
    exact v_iret dX2_partOfRatio_7 rfl ⟨Nat.le_of_ble_eq_true rfl, Nat.le_of_ble_eq_true rfl⟩ (⟨by rw [ratI, if_pos ‹_›], rfl⟩)
theorem c_countInPile (hX : PX G s x hp) {z : Nat} (hz : z ≤ 6) (v : Nat) : Ct G mX2_countInPile 0 0 0 [.ref (G.2.2.2 + 0), .int (nI z), .int (nI v)] hp (Qf (some (.int (nI (cnt (fun i => x.2.2.2.1 i = nI v) z)))) hp) := by
  obtain ⟨h0, h1, hgl, h2, hgw, h3, h4, h5, h6, hln, hwk, hn, hlen⟩ := hX
  have key : ∀ k, k ≤ z → Vm G mX2_countInPile 0 0 0 (Qf (some (.int (nI (cnt (fun i => x.2.2.2.1 i = nI v) z)))) hp) 5 [some (.ref (G.2.2.2 + 0)), some (.int (nI z)), some (.int (nI v)), some (.int (nI (cnt (fun i => x.2.2.2.1 i = nI v) k))), some (.int (nI k))] [] hp 0 0 := by
    refine loop_up ?_ (fun k hk ih => ?_)
    · refine v_iload dX2_countInPile_5 rfl rfl ?_
      refine v_iload_n dX2_countInPile_7 rfl rfl ?_
      refine v_icmp_geN (tgt := 31) dX2_countInPile_8 (by decide) rfl (by omega) (by omega) (fun c8 => ?_) (fun c8 => ?_)
      · refine v_iload_n dX2_countInPile_31 rfl rfl ?_
        exact v_iret dX2_countInPile_32 rfl ⟨Nat.le_of_ble_eq_true rfl, Nat.le_of_ble_eq_true rfl⟩ (⟨rfl, rfl⟩)
      · exact absurd c8 (by omega)
    · refine v_iload dX2_countInPile_5 rfl rfl ?_
      refine v_iload_n dX2_countInPile_7 rfl rfl ?_
      refine v_icmp_geN (tgt := 31) dX2_countInPile_8 (by decide) rfl (by omega) (by omega) (fun c8 => ?_) (fun c8 => ?_)
      · exact absurd c8 (by omega)
      · refine v_aload_n dX2_countInPile_11 rfl rfl ?_
        refine v_getf dX2_countInPile_12 fl_X2_29 (by assumption) (by rfl) rfl ?_
        refine v_iload dX2_countInPile_15 rfl rfl ?_
        refine v_iald _ dX2_countInPile_17 (by assumption) rfl (by omega) (by decide) rfl ?_
        refine v_iload_n dX2_countInPile_18 rfl rfl ?_
        refine v_icmp_ne (tgt := 25) dX2_countInPile_19 (by decide) rfl (fun c19 => ?_) (fun c19 => ?_)
        · refine v_iinc1 dX2_countInPile_25 rfl (Nat.le_of_ble_eq_true rfl) rfl ?_
          refine v_goto (tgt := 5) dX2_countInPile_28 (by decide) ?_
          first | (rw [cnt_t (p := fun i => x.2.2.2.1 i = nI v) (n := k) ‹_›] at ih; exact ih) | (rw [cnt_f (p := fun i => x.2.2.2.1 i = nI v) (n := k) ‹_›] at ih; exact ih)
        · refine v_iinc1 dX2_countInPile_22 rfl (Nat.le_of_ble_eq_true rfl) rfl ?_
          refine v_iinc1 dX2_countInPile_25 rfl (Nat.le_of_ble_eq_true rfl) rfl ?_
          refine v_goto (tgt := 5) dX2_countInPile_28 (by decide) ?_
          first | (rw [cnt_t (p := fun i => x.2.2.2.1 i = nI v) (n := k) ‹_›] at ih; exact ih) | (rw [cnt_f (p := fun i => x.2.2.2.1 i = nI v) (n := k) ‹_›] at ih; exact ih)
  refine Ct.start 2 (by decide) rfl (Nat.le_of_ble_eq_true rfl) ?_
  refine v_iconst (v := nI 0) dX2_countInPile_0 (by decide) rfl ?_
  refine v_istore_n dX2_countInPile_1 (Nat.le_of_ble_eq_true rfl) rfl ?_
  refine v_iconst (v := nI 0) dX2_countInPile_2 (by decide) rfl ?_
  refine v_istore dX2_countInPile_3 (Nat.le_of_ble_eq_true rfl) rfl ?_
  exact key 0 (Nat.zero_le _)
/-- RISES less FALLS -/
def innI (a : Int32) (p : Nat → Int32) (l : Nat) : Nat → Int32
  | 0 => a
  | e + 1 => innI a p l e + cmpI (p l) (p e)
def drI (p : Nat → Int32) : Nat → Int32
  | 0 => nI 0
  | l + 1 => innI (drI p l) p l l
theorem c_driftOfPile (hX : PX G s x hp) {z : Nat} (hz : z ≤ 6) : Ct G mX2_driftOfPile 1 0 0 [.ref (G.2.2.2 + 0), .int (nI z)] hp (Qf (some (.int (drI x.2.2.2.1 z))) hp) := by
  obtain ⟨h0, h1, hgl, h2, hgw, h3, h4, h5, h6, hln, hwk, hn, hlen⟩ := hX
  generalize x.2.2.2.1 = p at *
  have inner : ∀ l, l < z → (∀ l4 : Option Value, Vm G mX2_driftOfPile 1 0 0 (Qf (some (.int (drI p z))) hp) 4 [some (.ref (G.2.2.2 + 0)), some (.int (nI z)), some (.int (drI p (l + 1))), some (.int (nI (l + 1))), l4] [] hp 0 0) → ∀ k, k ≤ l → Vm G mX2_driftOfPile 1 0 0 (Qf (some (.int (drI p z))) hp) 12 [some (.ref (G.2.2.2 + 0)), some (.int (nI z)), some (.int (innI (drI p l) p l k)), some (.int (nI l)), some (.int (nI k))] [] hp 0 0 := by
    intro l hl hout
    refine loop_up ?_ (fun k hk ih => ?_)
    · refine v_iload dX2_driftOfPile_12 rfl rfl ?_
      refine v_iload_n dX2_driftOfPile_14 rfl rfl ?_
      refine v_icmp_geN (tgt := 43) dX2_driftOfPile_15 (by decide) rfl (by omega) (by omega) (fun c15 => ?_) (fun c15 => ?_)
      · refine v_iinc1 dX2_driftOfPile_43 rfl (Nat.le_of_ble_eq_true rfl) rfl ?_
        refine v_goto (tgt := 4) dX2_driftOfPile_46 (by decide) ?_
        exact hout _
      · exact absurd c15 (by omega)
    · refine v_iload dX2_driftOfPile_12 rfl rfl ?_
      refine v_iload_n dX2_driftOfPile_14 rfl rfl ?_
      refine v_icmp_geN (tgt := 43) dX2_driftOfPile_15 (by decide) rfl (by omega) (by omega) (fun c15 => ?_) (fun c15 => ?_)
      · exact absurd c15 (by omega)
      · refine v_iload_n dX2_driftOfPile_18 rfl rfl ?_
        refine v_aload_n dX2_driftOfPile_19 rfl rfl ?_
        refine v_getf dX2_driftOfPile_20 fl_X2_29 (by assumption) (by rfl) rfl ?_
        refine v_iload_n dX2_driftOfPile_23 rfl rfl ?_
        refine v_iald _ dX2_driftOfPile_24 (by assumption) rfl (by omega) (by decide) rfl ?_
        refine v_aload_n dX2_driftOfPile_25 rfl rfl ?_
        refine v_getf dX2_driftOfPile_26 fl_X2_29 (by assumption) (by rfl) rfl ?_
        refine v_iload dX2_driftOfPile_29 rfl rfl ?_
        refine v_iald _ dX2_driftOfPile_31 (by assumption) rfl (by omega) (by decide) rfl ?_
        refine v_csf dX2_driftOfPile_32 cw_X2_190 ts_J6_compare_7cf53 (c_compare G hp (p l) (p k)) (by rfl) (by rfl) (Nat.le_of_ble_eq_true rfl) (Nat.le_of_ble_eq_true rfl) (Nat.le_of_ble_eq_true rfl) (Nat.le_of_ble_eq_true rfl) (Nat.le_of_ble_eq_true rfl) rfl ?_
        refine v_iadd dX2_driftOfPile_35 rfl ?_
        refine v_istore_n dX2_driftOfPile_36 (Nat.le_of_ble_eq_true rfl) rfl ?_
        refine v_iinc1 dX2_driftOfPile_37 rfl (Nat.le_of_ble_eq_true rfl) rfl ?_
        refine v_goto (tgt := 12) dX2_driftOfPile_40 (by decide) ?_
        exact ih
  cases z with
  | zero =>
    refine Ct.start 3 (by decide) rfl (Nat.le_of_ble_eq_true rfl) ?_
    refine v_iconst (v := nI 0) dX2_driftOfPile_0 (by decide) rfl ?_
    refine v_istore_n dX2_driftOfPile_1 (Nat.le_of_ble_eq_true rfl) rfl ?_
    refine v_iconst (v := nI 1) dX2_driftOfPile_2 (by decide) rfl ?_
    refine v_istore_n dX2_driftOfPile_3 (Nat.le_of_ble_eq_true rfl) rfl ?_
    refine v_iload_n dX2_driftOfPile_4 rfl rfl ?_
    refine v_iload_n dX2_driftOfPile_5 rfl rfl ?_
    refine v_icmp_ge (tgt := 49) dX2_driftOfPile_6 (by decide) rfl (fun _ => ?_) (fun q => absurd (by decide) q)
    refine v_iload_n dX2_driftOfPile_49 rfl rfl ?_
    exact v_iret dX2_driftOfPile_50 rfl ⟨Nat.le_of_ble_eq_true rfl, Nat.le_of_ble_eq_true rfl⟩ (⟨rfl, rfl⟩)
  | succ z =>
    have key : ∀ k, k ≤ z → ∀ (l4 : Option Value), Vm G mX2_driftOfPile 1 0 0 (Qf (some (.int (drI p (z + 1)))) hp) 4 [some (.ref (G.2.2.2 + 0)), some (.int (nI (z + 1))), some (.int (drI p (k + 1))), some (.int (nI (k + 1))), l4] [] hp 0 0 := by
      refine loop_up ?_ (fun k hk ih => ?_)
      · intro l4
        refine v_iload_n dX2_driftOfPile_4 rfl rfl ?_
        refine v_iload_n dX2_driftOfPile_5 rfl rfl ?_
        refine v_icmp_geN (tgt := 49) dX2_driftOfPile_6 (by decide) rfl (by omega) (by omega) (fun c6 => ?_) (fun c6 => ?_)
        · refine v_iload_n dX2_driftOfPile_49 rfl rfl ?_
          exact v_iret dX2_driftOfPile_50 rfl ⟨Nat.le_of_ble_eq_true rfl, Nat.le_of_ble_eq_true rfl⟩ (⟨rfl, rfl⟩)
        · exact absurd c6 (by omega)
      · intro l4
        refine v_iload_n dX2_driftOfPile_4 rfl rfl ?_
        refine v_iload_n dX2_driftOfPile_5 rfl rfl ?_
        refine v_icmp_geN (tgt := 49) dX2_driftOfPile_6 (by decide) rfl (by omega) (by omega) (fun c6 => ?_) (fun c6 => ?_)
        · exact absurd c6 (by omega)
        · refine v_iconst (v := nI 0) dX2_driftOfPile_9 (by decide) rfl ?_
          refine v_istore dX2_driftOfPile_10 (Nat.le_of_ble_eq_true rfl) rfl ?_
          exact inner (k + 1) (by omega) ih 0 (Nat.zero_le _)
    refine Ct.start 3 (by decide) rfl (Nat.le_of_ble_eq_true rfl) ?_
    refine v_iconst (v := nI 0) dX2_driftOfPile_0 (by decide) rfl ?_
    refine v_istore_n dX2_driftOfPile_1 (Nat.le_of_ble_eq_true rfl) rfl ?_
    refine v_iconst (v := nI 1) dX2_driftOfPile_2 (by decide) rfl ?_
    refine v_istore_n dX2_driftOfPile_3 (Nat.le_of_ble_eq_true rfl) rfl ?_
    exact key 0 (Nat.zero_le _) _
def dbI (m : Nat) (u : Nat → Int32) : Nat → Int32
  | 0 => nI 0
  | l + 1 => dbI m u l + u l * cmpI (nI l) (nI m)
theorem c_driftBehind {b : Nat} {u : Nat → Int32} (hu : hp[b]? = some (aI G 4 u)) (m : Nat) : Ct G mX2_driftBehind 1 0 0 [.int (nI m), .ref (G.2.2.2 + b)] hp (Qf (some (.int (dbI m u 4))) hp) := by
  have key : ∀ k, k ≤ 4 → Vm G mX2_driftBehind 1 0 0 (Qf (some (.int (dbI m u 4))) hp) 4 [some (.int (nI m)), some (.ref (G.2.2.2 + b)), some (.int (dbI m u k)), some (.int (nI k))] [] hp 0 0 := by
    refine loop_up ?_ (fun k hk ih => ?_)
    · refine v_iload_n dX2_driftBehind_4 rfl rfl ?_
      refine v_aload_n dX2_driftBehind_5 rfl rfl ?_
      refine v_alen dX2_driftBehind_6 (by assumption) rfl ?_
      refine v_icmp_geN (tgt := 28) dX2_driftBehind_7 (by decide) rfl (by omega) (by omega) (fun c7 => ?_) (fun c7 => ?_)
      · refine v_iload_n dX2_driftBehind_28 rfl rfl ?_
        exact v_iret dX2_driftBehind_29 rfl ⟨Nat.le_of_ble_eq_true rfl, Nat.le_of_ble_eq_true rfl⟩ (⟨rfl, rfl⟩)
      · exact absurd c7 (by omega)
    · refine v_iload_n dX2_driftBehind_4 rfl rfl ?_
      refine v_aload_n dX2_driftBehind_5 rfl rfl ?_
      refine v_alen dX2_driftBehind_6 (by assumption) rfl ?_
      refine v_icmp_geN (tgt := 28) dX2_driftBehind_7 (by decide) rfl (by omega) (by omega) (fun c7 => ?_) (fun c7 => ?_)
      · exact absurd c7 (by omega)
      · refine v_iload_n dX2_driftBehind_10 rfl rfl ?_
        refine v_aload_n dX2_driftBehind_11 rfl rfl ?_
        refine v_iload_n dX2_driftBehind_12 rfl rfl ?_
        refine v_iald _ dX2_driftBehind_13 (by assumption) rfl (by omega) (by decide) rfl ?_
        refine v_iload_n dX2_driftBehind_14 rfl rfl ?_
        refine v_iload_n dX2_driftBehind_15 rfl rfl ?_
        refine v_csf dX2_driftBehind_16 cw_X2_190 ts_J6_compare_7cf53 (c_compare G hp (nI k) (nI m)) (by rfl) (by rfl) (Nat.le_of_ble_eq_true rfl) (Nat.le_of_ble_eq_true rfl) (Nat.le_of_ble_eq_true rfl) (Nat.le_of_ble_eq_true rfl) (Nat.le_of_ble_eq_true rfl) rfl ?_
        refine v_imul dX2_driftBehind_19 rfl ?_
        refine v_iadd dX2_driftBehind_20 rfl ?_
        refine v_istore_n dX2_driftBehind_21 (Nat.le_of_ble_eq_true rfl) rfl ?_
        refine v_iinc1 dX2_driftBehind_22 rfl (Nat.le_of_ble_eq_true rfl) rfl ?_
        refine v_goto (tgt := 4) dX2_driftBehind_25 (by decide) ?_
        exact ih
  refine Ct.start 2 (by decide) rfl (Nat.le_of_ble_eq_true rfl) ?_
  refine v_iconst (v := nI 0) dX2_driftBehind_0 (by decide) rfl ?_
  refine v_istore_n dX2_driftBehind_1 (Nat.le_of_ble_eq_true rfl) rfl ?_
  refine v_iconst (v := nI 0) dX2_driftBehind_2 (by decide) rfl ?_
  refine v_istore_n dX2_driftBehind_3 (Nat.le_of_ble_eq_true rfl) rfl ?_
  exact key 0 (by decide)
def coT (rec : (Nat → Int32) → Int32 → Int32) (u : Nat → Int32) (w : Int32) : Nat → Int32
  | 0 => nI 0
  | k + 1 => if u k ≤ 0 then coT rec u w k else coT rec u w k + u k * rec (upd u k (u k - nI 1)) (w - dbI k (upd u k (u k - nI 1)) 4)
theorem coT_t {rec : (Nat → Int32) → Int32 → Int32} {u : Nat → Int32} {w : Int32} {k : Nat} (h : u k ≤ 0) : coT rec u w (k + 1) = coT rec u w k := if_pos h
theorem coT_f {rec : (Nat → Int32) → Int32 → Int32} {u : Nat → Int32} {w : Int32} {k : Nat} (h : ¬ u k ≤ 0) : coT rec u w (k + 1) = coT rec u w k + u k * rec (upd u k (u k - nI 1)) (w - dbI k (upd u k (u k - nI 1)) 4) := if_neg h
def coI : Nat → (Nat → Int32) → Int32 → Int32
  | 0, _, w => if w ≤ 0 then nI 1 else nI 0
  | t + 1, u, w => coT (coI t) u w 4
theorem c_countOrders {b : Nat} : ∀ (t : Nat) (hp : List va_E) (u : Nat → Int32) (w : Int32), t < 1000 → hp[b]? = some (aI G 4 u) → Ct G mX2_countOrders (t + 2) 0 0 [.ref (G.2.2.2 + b), .int (nI t), .int w] hp (Qf (some (.int (coI t u w))) hp) := by
  intro t
  induction t with
  | zero =>
    intro hp u w ht hu
    refine Ct.start 3 (by decide) rfl (Nat.le_of_ble_eq_true rfl) ?_
    refine v_iload_n dX2_countOrders_0 rfl rfl ?_
    refine v_if_gt (tgt := 14) dX2_countOrders_1 (by decide) rfl (fun q => absurd q (by decide)) (fun _ => ?_)
    refine v_iload_n dX2_countOrders_4 rfl rfl ?_
    refine v_if_gtA (tgt := 12) dX2_countOrders_5 (by decide) rfl (fun c5 => ?_) (fun c5 => ?_)
    · refine v_iconst (v := nI 0) dX2_countOrders_12 (by decide) rfl ?_
      exact v_iret dX2_countOrders_13 rfl ⟨Nat.le_of_ble_eq_true rfl, Nat.le_of_ble_eq_true rfl⟩ (⟨by first | (rw [coI, if_pos ‹_›]; done) | (rw [coI, if_neg ‹_›]; done), rfl⟩)
    · refine v_iconst (v := nI 1) dX2_countOrders_8 (by decide) rfl ?_
      refine v_goto (tgt := 13) dX2_countOrders_9 (by decide) ?_
      exact v_iret dX2_countOrders_13 rfl ⟨Nat.le_of_ble_eq_true rfl, Nat.le_of_ble_eq_true rfl⟩ (⟨by first | (rw [coI, if_pos ‹_›]; done) | (rw [coI, if_neg ‹_›]; done), rfl⟩)
  | succ t rih =>
    intro hp u w ht hu
    have key : ∀ k, k ≤ 4 → ∀ l5 : Option Value, Vm G mX2_countOrders (t + 1 + 2) 0 0 (Qf (some (.int (coI (t + 1) u w))) hp) 19 [some (.ref (G.2.2.2 + b)), some (.int (nI (t + 1))), some (.int w), some (.int (coT (coI t) u w k)), some (.int (nI k)), l5] [] hp 0 0 := by
      refine loop_up ?_ (fun k hk ih => ?_)
      · intro l5
        refine v_iload dX2_countOrders_19 rfl rfl ?_
        refine v_aload_n dX2_countOrders_21 rfl rfl ?_
        refine v_alen dX2_countOrders_22 (by assumption) rfl ?_
        refine v_icmp_geN (tgt := 78) dX2_countOrders_23 (by decide) rfl (by omega) (by omega) (fun c23 => ?_) (fun c23 => ?_)
        · refine v_iload_n dX2_countOrders_78 rfl rfl ?_
          exact v_iret dX2_countOrders_79 rfl ⟨Nat.le_of_ble_eq_true rfl, Nat.le_of_ble_eq_true rfl⟩ (⟨rfl, rfl⟩)
        · exact absurd c23 (by omega)
      · intro l5
        refine v_iload dX2_countOrders_19 rfl rfl ?_
        refine v_aload_n dX2_countOrders_21 rfl rfl ?_
        refine v_alen dX2_countOrders_22 (by assumption) rfl ?_
        refine v_icmp_geN (tgt := 78) dX2_countOrders_23 (by decide) rfl (by omega) (by omega) (fun c23 => ?_) (fun c23 => ?_)
        · exact absurd c23 (by omega)
        · refine v_aload_n dX2_countOrders_26 rfl rfl ?_
          refine v_iload dX2_countOrders_27 rfl rfl ?_
          refine v_iald _ dX2_countOrders_29 (by assumption) rfl (by omega) (by decide) rfl ?_
          refine v_istore dX2_countOrders_30 (Nat.le_of_ble_eq_true rfl) rfl ?_
          refine v_iload dX2_countOrders_32 rfl rfl ?_
          refine v_if_le (tgt := 72) dX2_countOrders_34 (by decide) rfl (fun c34 => ?_) (fun c34 => ?_)
          · first | (refine v_hp (hp' := hp) (by rw [List.set_set, upd_back]; exact set_same hu) ?_) | skip
            refine v_iinc1 dX2_countOrders_72 rfl (Nat.le_of_ble_eq_true rfl) rfl ?_
            refine v_goto (tgt := 19) dX2_countOrders_75 (by decide) ?_
            first | (rw [coT_t (k := k) ‹_›] at ih; exact ih _) | (rw [coT_f (k := k) ‹_›] at ih; exact ih _)
          · refine v_aload_n dX2_countOrders_37 rfl rfl ?_
            refine v_iload dX2_countOrders_38 rfl rfl ?_
            refine v_iload dX2_countOrders_40 rfl rfl ?_
            refine v_iconst (v := nI 1) dX2_countOrders_42 (by decide) rfl ?_
            refine v_isub dX2_countOrders_43 rfl ?_
            refine v_iast _ dX2_countOrders_44 (by assumption) rfl (by omega) (by decide) rfl ?_
            have hu' := set_get (e' := aI G 4 (upd u k (u k - nI 1))) hu
            refine v_iload_n dX2_countOrders_45 rfl rfl ?_
            refine v_iload dX2_countOrders_46 rfl rfl ?_
            refine v_aload_n dX2_countOrders_48 rfl rfl ?_
            refine v_iload_n dX2_countOrders_49 rfl rfl ?_
            refine v_iconst (v := nI 1) dX2_countOrders_50 (by decide) rfl ?_
            refine v_isubN dX2_countOrders_51 (by omega) rfl ?_
            refine v_iload_n dX2_countOrders_52 rfl rfl ?_
            refine v_iload dX2_countOrders_53 rfl rfl ?_
            refine v_aload_n dX2_countOrders_55 rfl rfl ?_
            refine v_csf dX2_countOrders_56 cw_X2_202 ts_X2_driftBehind (c_driftBehind G _ hu' k) (by rfl) (by rfl) (Nat.le_of_ble_eq_true rfl) (by simp only [rmOf]; omega) (by simp only [rmOf]; omega) (by simp only [rmOf]; omega) (by simp only [rmOf]; omega) rfl ?_
            refine v_isub dX2_countOrders_59 rfl ?_
            refine v_csf dX2_countOrders_60 cw_X2_198 ts_X2_countOrders (rih _ _ _ (by omega) hu') (by rfl) (by rfl) (Nat.le_of_ble_eq_true rfl) (by simp only [rmOf]; omega) (by simp only [rmOf]; omega) (by simp only [rmOf]; omega) (by simp only [rmOf]; omega) rfl ?_
            refine v_imul dX2_countOrders_63 rfl ?_
            refine v_iadd dX2_countOrders_64 rfl ?_
            refine v_istore_n dX2_countOrders_65 (Nat.le_of_ble_eq_true rfl) rfl ?_
            refine v_aload_n dX2_countOrders_66 rfl rfl ?_
            refine v_iload dX2_countOrders_67 rfl rfl ?_
            refine v_iload dX2_countOrders_69 rfl rfl ?_
            refine v_iast _ dX2_countOrders_71 (by assumption) rfl (by omega) (by decide) rfl ?_
            first | (refine v_hp (hp' := hp) (by rw [List.set_set, upd_back]; exact set_same hu) ?_) | skip
            refine v_iinc1 dX2_countOrders_72 rfl (Nat.le_of_ble_eq_true rfl) rfl ?_
            refine v_goto (tgt := 19) dX2_countOrders_75 (by decide) ?_
            first | (rw [coT_t (k := k) ‹_›] at ih; exact ih _) | (rw [coT_f (k := k) ‹_›] at ih; exact ih _)
    refine Ct.start 3 (by decide) rfl (Nat.le_of_ble_eq_true rfl) ?_
    refine v_iload_n dX2_countOrders_0 rfl rfl ?_
    refine v_if_gtN (tgt := 14) dX2_countOrders_1 (by decide) rfl (by omega) (fun c1 => ?_) (fun c1 => ?_)
    · refine v_iconst (v := nI 0) dX2_countOrders_14 (by decide) rfl ?_
      refine v_istore_n dX2_countOrders_15 (Nat.le_of_ble_eq_true rfl) rfl ?_
      refine v_iconst (v := nI 0) dX2_countOrders_16 (by decide) rfl ?_
      refine v_istore dX2_countOrders_17 (Nat.le_of_ble_eq_true rfl) rfl ?_
      exact key 0 (by decide) _
    · exact absurd c1 (by omega)
end CLASS3
end
section
/-! THE CLASS: what a write leaves of the picture; the pile gathered, its odds -/
theorem LN.frame {G : GG} {hp h : List va_E} {a : Nat} {kd fc wt : Int32} {f t : Nat → Int32} (hL : LN G hp a kd fc wt f t) (he : ∀ i, a ≤ i → i ≤ a + 2 → h[i]? = hp[i]?) : LN G h a kd fc wt f t := ⟨(he a (by omega) (by omega)).trans hL.1, (he (a + 1) (by omega) (by omega)).trans hL.2.1, (he (a + 2) (by omega) (by omega)).trans hL.2.2⟩
theorem WK.frame {G : GG} {hp h : List va_E} {a : Nat} {f m : Nat → Int32} {tr : Int32} (hL : WK G hp a f m tr) (he : ∀ i, a ≤ i → i ≤ a + 2 → h[i]? = hp[i]?) : WK G h a f m tr := ⟨(he a (by omega) (by omega)).trans hL.1, (he (a + 1) (by omega) (by omega)).trans hL.2.1, (he (a + 2) (by omega) (by omega)).trans hL.2.2⟩
theorem la_in (sw : Bool) {j : Nat} (hj : j < 8) : 7 ≤ la sw j ∧ la sw j + 2 < 31 := by
  unfold la
  split
  · split
    · omega
    · omega
  · omega
theorem la_apart (sw : Bool) {i j : Nat} (hi : i < 8) (hj : j < 8) (h : i ≠ j) : la sw i + 3 ≤ la sw j ∨ la sw j + 3 ≤ la sw i := by
  unfold la
  split
  · split
    · split
      · omega
      · omega
    · split
      · omega
      · omega
  · omega
theorem set_ne {hp : List va_E} {i j : Nat} {e : va_E} (h : j ≠ i) : (hp.set i e)[j]? = hp[j]? := List.getElem?_set_ne (Ne.symm h)
def FrX (hp h : List va_E) : Prop := ∀ i, 31 ≤ i → i < 42 → h[i]? = hp[i]?
theorem FrX.rf {hp : List va_E} : FrX hp hp := fun _ _ _ => rfl
theorem FrX.set {hp h : List va_E} (hF : FrX hp h) {i : Nat} {e : va_E} (hi : i < 31 ∨ 42 ≤ i) : FrX hp (h.set i e) := fun j h1 h2 => (set_ne (by omega)).trans (hF j h1 h2)
theorem FrX.trans {a b c : List va_E} (h1 : FrX a b) (h2 : FrX b c) : FrX a c := fun i q1 q2 => (h2 i q1 q2).trans (h1 i q1 q2)
section PXS
variable {G : GG} {hp : List va_E} {s : ST} {x : XT}
theorem PX.setPl (hX : PX G s x hp) (f : Nat → Int32) : PX G s (x.1, x.2.1, x.2.2.1, f, x.2.2.2.2) (hp.set 3 (aI G 6 f)) := by
  obtain ⟨h0, h1, hgl, h2, hgw, h3, h4, h5, h6, hln, hwk, hn, hlen⟩ := hX
  exact ⟨(set_ne (by decide)).trans h0, (set_ne (by decide)).trans h1, hgl, (set_ne (by decide)).trans h2, hgw, set_get h3, (set_ne (by decide)).trans h4, (set_ne (by decide)).trans h5, (set_ne (by decide)).trans h6, fun j hj => (hln j hj).frame (fun i q1 q2 => set_ne (by have := la_in x.1 hj; omega)), fun w hw => (hwk w hw).frame (fun i q1 q2 => set_ne (by omega)), hn, by rw [List.length_set]; exact hlen⟩
theorem PX.setUn (hX : PX G s x hp) (f : Nat → Int32) : PX G s (x.1, x.2.1, x.2.2.1, x.2.2.2.1, f, x.2.2.2.2.2) (hp.set 4 (aI G 4 f)) := by
  obtain ⟨h0, h1, hgl, h2, hgw, h3, h4, h5, h6, hln, hwk, hn, hlen⟩ := hX
  exact ⟨(set_ne (by decide)).trans h0, (set_ne (by decide)).trans h1, hgl, (set_ne (by decide)).trans h2, hgw, (set_ne (by decide)).trans h3, set_get h4, (set_ne (by decide)).trans h5, (set_ne (by decide)).trans h6, fun j hj => (hln j hj).frame (fun i q1 q2 => set_ne (by have := la_in x.1 hj; omega)), fun w hw => (hwk w hw).frame (fun i q1 q2 => set_ne (by omega)), hn, by rw [List.length_set]; exact hlen⟩
theorem PX.setOp (hX : PX G s x hp) (f : Nat → Int32) : PX G s (x.1, x.2.1, x.2.2.1, x.2.2.2.1, x.2.2.2.2.1, f, x.2.2.2.2.2.2) (hp.set 5 (aI G 12 f)) := by
  obtain ⟨h0, h1, hgl, h2, hgw, h3, h4, h5, h6, hln, hwk, hn, hlen⟩ := hX
  exact ⟨(set_ne (by decide)).trans h0, (set_ne (by decide)).trans h1, hgl, (set_ne (by decide)).trans h2, hgw, (set_ne (by decide)).trans h3, (set_ne (by decide)).trans h4, set_get h5, (set_ne (by decide)).trans h6, fun j hj => (hln j hj).frame (fun i q1 q2 => set_ne (by have := la_in x.1 hj; omega)), fun w hw => (hwk w hw).frame (fun i q1 q2 => set_ne (by omega)), hn, by rw [List.length_set]; exact hlen⟩
theorem PX.setNp (hX : PX G s x hp) (f : Nat → Int32) : PX G s (x.1, x.2.1, x.2.2.1, x.2.2.2.1, x.2.2.2.2.1, x.2.2.2.2.2.1, f) (hp.set 6 (aI G 12 f)) := by
  obtain ⟨h0, h1, hgl, h2, hgw, h3, h4, h5, h6, hln, hwk, hn, hlen⟩ := hX
  exact ⟨(set_ne (by decide)).trans h0, (set_ne (by decide)).trans h1, hgl, (set_ne (by decide)).trans h2, hgw, (set_ne (by decide)).trans h3, (set_ne (by decide)).trans h4, (set_ne (by decide)).trans h5, set_get h6, fun j hj => (hln j hj).frame (fun i q1 q2 => set_ne (by have := la_in x.1 hj; omega)), fun w hw => (hwk w hw).frame (fun i q1 q2 => set_ne (by omega)), hn, by rw [List.length_set]; exact hlen⟩
end PXS
/-- a MARKER's first marks, six at most -/
noncomputable def pilL (s : ST) (m : Nat) : Nat → List Int32
  | 0 => []
  | k + 1 => @ite _ (mkdP s m k ∧ (pilL s m k).length < 6) (Classical.propDecidable _) (pilL s m k ++ [s.mr k m]) (pilL s m k)
theorem pilL_t {s : ST} {m k : Nat} (h : mkdP s m k ∧ (pilL s m k).length < 6) : pilL s m (k + 1) = pilL s m k ++ [s.mr k m] := if_pos h
theorem pilL_f {s : ST} {m k : Nat} (h : ¬ (mkdP s m k ∧ (pilL s m k).length < 6)) : pilL s m (k + 1) = pilL s m k := if_neg h
theorem pilL_le (s : ST) (m : Nat) : ∀ k, (pilL s m k).length ≤ 6
  | 0 => by simp [pilL]
  | k + 1 => by
    have h1 := pilL_le s m k
    by_cases h : mkdP s m k ∧ (pilL s m k).length < 6
    · rw [pilL_t h, List.length_append]; have := h.2; simp; omega
    · rw [pilL_f h]; exact h1
theorem pilL_full {s : ST} {m k : Nat} (h : 6 ≤ (pilL s m k).length) : ∀ j, pilL s m (k + j) = pilL s m k
  | 0 => rfl
  | j + 1 => by
    have h1 := pilL_full h j
    rw [show k + (j + 1) = (k + j) + 1 from rfl, pilL_f (fun q => by have := q.2; rw [h1] at this; omega), h1]
def PilP (p : Nat → Int32) (L : List Int32) : Prop := ∀ j, j < L.length → p j = L.getD j 0
theorem PilP.push {p : Nat → Int32} {L : List Int32} (h : PilP p L) (v : Int32) : PilP (upd p L.length v) (L ++ [v]) := by
  intro j hj
  rw [List.length_append] at hj
  by_cases e : j = L.length
  · subst e
    simp [upd]
  · have hl : j < L.length := by simp at hj; omega
    rw [show upd p L.length v j = p j from if_neg e, h j hl, List.getD_eq_getElem?_getD, List.getD_eq_getElem?_getD, List.getElem?_append_left hl]
section CLASS4
variable (G : GG) (hp : List va_E) {s : ST} {x : XT}
theorem c_gatherPile (hX : PX G s x hp) {m : Nat} (hm : m < 3) : Ct G mX2_gatherPile 1 0 0 [.ref (G.2.2.2 + 0), .int (nI m)] hp (fun r h => r = some (.int (nI (pilL s m s.n).length)) ∧ ∃ p, h = hp.set 3 (aI G 6 p) ∧ PilP p (pilL s m s.n)) := by
  have key : ∀ k, k ≤ s.n → ∀ p, PilP p (pilL s m k) → Vm G mX2_gatherPile 1 0 0 (fun r h => r = some (.int (nI (pilL s m s.n).length)) ∧ ∃ p, h = hp.set 3 (aI G 6 p) ∧ PilP p (pilL s m s.n)) 4 [some (.ref (G.2.2.2 + 0)), some (.int (nI m)), some (.int (nI (pilL s m k).length)), some (.int (nI k))] [] (hp.set 3 (aI G 6 p)) 0 0 := by
    refine loop_up ?_ (fun k hk ih => ?_)
    · intro p hp0
      obtain ⟨h0, h1, hgl, h2, hgw, h3, h4, h5, h6, hln, hwk, hn, hlen⟩ := hX.setPl p
      refine v_iload_n dX2_gatherPile_4 rfl rfl ?_
      refine v_aload_n dX2_gatherPile_5 rfl rfl ?_
      refine v_getf dX2_gatherPile_6 fl_X2_21 (by assumption) (by rfl) rfl ?_
      refine v_icmp_geN (tgt := 57) dX2_gatherPile_9 (by decide) rfl (by omega) (by omega) (fun c9 => ?_) (fun c9 => ?_)
      · refine v_iload_n dX2_gatherPile_57 rfl rfl ?_
        exact v_iret dX2_gatherPile_58 rfl ⟨Nat.le_of_ble_eq_true rfl, Nat.le_of_ble_eq_true rfl⟩ (⟨rfl, p, rfl, hp0⟩)
      · exact absurd c9 (by omega)
    · intro p hp0
      have hX' := hX.setPl p
      obtain ⟨h0, h1, hgl, h2, hgw, h3, h4, h5, h6, hln, hwk, hn, hlen⟩ := hX.setPl p
      have hW := hwk k hk
      obtain ⟨l1, l2, l3⟩ := hwk k hk
      have hle := pilL_le s m k
      have hfull : 6 ≤ (pilL s m k).length → pilL s m s.n = pilL s m k := fun q => by
        have := pilL_full q (s.n - k)
        rwa [show k + (s.n - k) = s.n by omega] at this
      refine v_iload_n dX2_gatherPile_4 rfl rfl ?_
      refine v_aload_n dX2_gatherPile_5 rfl rfl ?_
      refine v_getf dX2_gatherPile_6 fl_X2_21 (by assumption) (by rfl) rfl ?_
      refine v_icmp_geN (tgt := 57) dX2_gatherPile_9 (by decide) rfl (by omega) (by omega) (fun c9 => ?_) (fun c9 => ?_)
      · exact absurd c9 (by omega)
      · refine v_iload_n dX2_gatherPile_12 rfl rfl ?_
        refine v_bipush (v := nI 6) dX2_gatherPile_13 (by decide) rfl ?_
        refine v_icmp_geN (tgt := 57) dX2_gatherPile_15 (by decide) rfl (by omega) (by omega) (fun c15 => ?_) (fun c15 => ?_)
        · refine v_iload_n dX2_gatherPile_57 rfl rfl ?_
          exact v_iret dX2_gatherPile_58 rfl ⟨Nat.le_of_ble_eq_true rfl, Nat.le_of_ble_eq_true rfl⟩ (⟨by rw [hfull c15], p, rfl, by rw [hfull c15]; exact hp0⟩)
        · refine v_aload_n dX2_gatherPile_18 rfl rfl ?_
          refine v_getf dX2_gatherPile_19 fl_X2_17 (by assumption) (by rfl) rfl ?_
          refine v_iload_n dX2_gatherPile_22 rfl rfl ?_
          refine v_aaldW _ dX2_gatherPile_23 (by assumption) rfl (by omega) (by decide) (by rw [hgw _ (by omega)]) rfl ?_
          refine v_iload_n dX2_gatherPile_24 rfl rfl ?_
          by_cases q25 : mkdP s m k
          · refine v_cvf dX2_gatherPile_25 cw_X2_144 ⟨tn_X1_isMarkedBy, tl_X1_isMarkedBy⟩ rfl (by assumption) ((c_isMarkedBy G _ hW hm).yes ‹_›) (by rfl) (by rfl) (Nat.le_of_ble_eq_true rfl) (Nat.le_of_ble_eq_true rfl) (Nat.le_of_ble_eq_true rfl) (Nat.le_of_ble_eq_true rfl) (Nat.le_of_ble_eq_true rfl) rfl ?_
            refine v_if_eq (tgt := 51) dX2_gatherPile_28 (by decide) rfl (fun q => absurd q (by decide)) (fun _ => ?_)
            refine v_aload_n dX2_gatherPile_31 rfl rfl ?_
            refine v_getf dX2_gatherPile_32 fl_X2_29 (by assumption) (by rfl) rfl ?_
            refine v_iload_n dX2_gatherPile_35 rfl rfl ?_
            refine v_aload_n dX2_gatherPile_36 rfl rfl ?_
            refine v_getf dX2_gatherPile_37 fl_X2_17 (by assumption) (by rfl) rfl ?_
            refine v_iload_n dX2_gatherPile_40 rfl rfl ?_
            refine v_aaldW _ dX2_gatherPile_41 (by assumption) rfl (by omega) (by decide) (by rw [hgw _ (by omega)]) rfl ?_
            refine v_getf dX2_gatherPile_42 fl_X2_107 (by assumption) (by rfl) rfl ?_
            refine v_iload_n dX2_gatherPile_45 rfl rfl ?_
            refine v_iald _ dX2_gatherPile_46 (by assumption) rfl (by omega) (by decide) rfl ?_
            refine v_iast _ dX2_gatherPile_47 (by assumption) rfl (by omega) (by decide) rfl ?_
            refine v_iinc1 dX2_gatherPile_48 rfl (Nat.le_of_ble_eq_true rfl) rfl ?_
            refine v_iinc1 dX2_gatherPile_51 rfl (Nat.le_of_ble_eq_true rfl) rfl ?_
            refine v_goto (tgt := 4) dX2_gatherPile_54 (by decide) ?_
            first | (rw [pilL_f (k := k) (fun h => absurd h.1 q25)] at ih; exact ih p hp0) | (rw [pilL_t (k := k) ⟨q25, c15⟩, List.length_append] at ih; refine v_hp (List.set_set ..) ?_; exact ih _ (hp0.push _))
          · refine v_cvf dX2_gatherPile_25 cw_X2_144 ⟨tn_X1_isMarkedBy, tl_X1_isMarkedBy⟩ rfl (by assumption) ((c_isMarkedBy G _ hW hm).no ‹_›) (by rfl) (by rfl) (Nat.le_of_ble_eq_true rfl) (Nat.le_of_ble_eq_true rfl) (Nat.le_of_ble_eq_true rfl) (Nat.le_of_ble_eq_true rfl) (Nat.le_of_ble_eq_true rfl) rfl ?_
            refine v_if_eq (tgt := 51) dX2_gatherPile_28 (by decide) rfl (fun _ => ?_) (fun q => absurd (by decide) q)
            refine v_iinc1 dX2_gatherPile_51 rfl (Nat.le_of_ble_eq_true rfl) rfl ?_
            refine v_goto (tgt := 4) dX2_gatherPile_54 (by decide) ?_
            first | (rw [pilL_f (k := k) (fun h => absurd h.1 q25)] at ih; exact ih p hp0) | (rw [pilL_t (k := k) ⟨q25, c15⟩, List.length_append] at ih; refine v_hp (List.set_set ..) ?_; exact ih _ (hp0.push _))
  refine Ct.start 2 (by decide) rfl (Nat.le_of_ble_eq_true rfl) ?_
  refine v_iconst (v := nI 0) dX2_gatherPile_0 (by decide) rfl ?_
  refine v_istore_n dX2_gatherPile_1 (Nat.le_of_ble_eq_true rfl) rfl ?_
  refine v_iconst (v := nI 0) dX2_gatherPile_2 (by decide) rfl ?_
  refine v_istore_n dX2_gatherPile_3 (Nat.le_of_ble_eq_true rfl) rfl ?_
  exact v_hp (set_same hX.2.2.2.2.2.1).symm (key 0 (Nat.zero_le _) _ (fun j hj => absurd hj (by simp [pilL])))
theorem dbI_congr {m : Nat} {u v : Nat → Int32} (h : ∀ j, j < 4 → u j = v j) : ∀ k, k ≤ 4 → dbI m u k = dbI m v k
  | 0, _ => rfl
  | k + 1, hk => by rw [dbI, dbI, dbI_congr h k (by omega), h k (by omega)]
theorem coI_congr : ∀ (t : Nat) (u v : Nat → Int32) (w : Int32), (∀ j, j < 4 → u j = v j) → coI t u w = coI t v w
  | 0, _, _, _, _ => rfl
  | t + 1, u, v, w, h => by
    have hk : ∀ k, k ≤ 4 → coT (coI t) u w k = coT (coI t) v w k := by
      intro k
      induction k with
      | zero => intro _; rfl
      | succ k ih =>
        intro hk
        have e : ∀ j, j < 4 → upd u k (u k - nI 1) j = upd v k (v k - nI 1) j := fun j hj => by
          unfold upd
          split
          · rw [h k (by omega)]
          · exact h j hj
        rw [coT, coT, ih (by omega), dbI_congr e 4 (by omega), coI_congr t _ _ _ e, h k (by omega)]
    exact hk 4 (by omega)
theorem innI_congr {a : Int32} {p q : Nat → Int32} {l : Nat} : ∀ e, p l = q l → (∀ j, j < e → p j = q j) → innI a p l e = innI a q l e
  | 0, _, _ => rfl
  | e + 1, hl, h => by rw [innI, innI, innI_congr e hl (fun j hj => h j (by omega)), hl, h e (by omega)]
theorem drI_congr {p q : Nat → Int32} : ∀ z, (∀ j, j < z → p j = q j) → drI p z = drI q z
  | 0, _ => rfl
  | z + 1, h => by rw [drI, drI, drI_congr z (fun j hj => h j (by omega)), innI_congr z (h z (by omega)) (fun j hj => h j (by omega))]
/-- how often each mark lies in the pile -/
noncomputable def unI (p : Nat → Int32) (z : Nat) (v : Nat) : Int32 := nI (cnt (fun i => p i = nI v) z)
theorem c_oddsOfPile (hX : PX G s x hp) {z : Nat} (hz : z ≤ 6) (w : Int32) : Ct G mX2_oddsOfPile 9 0 0 [.ref (G.2.2.2 + 0), .int (nI z), .int w] hp (fun r h => r = some (.int (coI z (unI x.2.2.2.1 z) w)) ∧ ∃ u, h = hp.set 4 (aI G 4 u)) := by
  have key : ∀ k, k ≤ 4 → ∀ u, (∀ j, j < k → u j = unI x.2.2.2.1 z j) → Vm G mX2_oddsOfPile 9 0 0 (fun r h => r = some (.int (coI z (unI x.2.2.2.1 z) w)) ∧ ∃ u, h = hp.set 4 (aI G 4 u)) 2 [some (.ref (G.2.2.2 + 0)), some (.int (nI z)), some (.int w), some (.int (nI k))] [] (hp.set 4 (aI G 4 u)) 0 0 := by
    refine loop_up ?_ (fun k hk ih => ?_)
    · intro u hu
      obtain ⟨h0, h1, hgl, h2, hgw, h3, h4, h5, h6, hln, hwk, hn, hlen⟩ := hX.setUn u
      refine v_iload_n dX2_oddsOfPile_2 rfl rfl ?_
      refine v_iconst (v := nI 4) dX2_oddsOfPile_3 (by decide) rfl ?_
      refine v_icmp_geN (tgt := 25) dX2_oddsOfPile_4 (by decide) rfl (by omega) (by omega) (fun c4 => ?_) (fun c4 => ?_)
      · refine v_aload_n dX2_oddsOfPile_25 rfl rfl ?_
        refine v_getf dX2_oddsOfPile_26 fl_X2_33 (by assumption) (by rfl) rfl ?_
        refine v_iload_n dX2_oddsOfPile_29 rfl rfl ?_
        refine v_iload_n dX2_oddsOfPile_30 rfl rfl ?_
        refine v_csf dX2_oddsOfPile_31 cw_X2_198 ts_X2_countOrders (c_countOrders G z _ u w (by omega) h4) (by rfl) (by rfl) (Nat.le_of_ble_eq_true rfl) (by simp only [rmOf]; omega) (by simp only [rmOf]; omega) (by simp only [rmOf]; omega) (by simp only [rmOf]; omega) rfl ?_
        exact v_iret dX2_oddsOfPile_34 rfl ⟨Nat.le_of_ble_eq_true rfl, Nat.le_of_ble_eq_true rfl⟩ (⟨by rw [coI_congr z u _ w hu], u, rfl⟩)
      · exact absurd c4 (by omega)
    · intro u hu
      have hX' := hX.setUn u
      obtain ⟨h0, h1, hgl, h2, hgw, h3, h4, h5, h6, hln, hwk, hn, hlen⟩ := hX.setUn u
      refine v_iload_n dX2_oddsOfPile_2 rfl rfl ?_
      refine v_iconst (v := nI 4) dX2_oddsOfPile_3 (by decide) rfl ?_
      refine v_icmp_geN (tgt := 25) dX2_oddsOfPile_4 (by decide) rfl (by omega) (by omega) (fun c4 => ?_) (fun c4 => ?_)
      · exact absurd c4 (by omega)
      · refine v_aload_n dX2_oddsOfPile_7 rfl rfl ?_
        refine v_getf dX2_oddsOfPile_8 fl_X2_33 (by assumption) (by rfl) rfl ?_
        refine v_iload_n dX2_oddsOfPile_11 rfl rfl ?_
        refine v_aload_n dX2_oddsOfPile_12 rfl rfl ?_
        refine v_iload_n dX2_oddsOfPile_13 rfl rfl ?_
        refine v_iload_n dX2_oddsOfPile_14 rfl rfl ?_
        refine v_cvf dX2_oddsOfPile_15 cw_X2_195 ⟨tn_X2_countInPile, tl_X2_countInPile⟩ rfl (by assumption) (c_countInPile G _ hX' hz k) (by rfl) (by rfl) (Nat.le_of_ble_eq_true rfl) (Nat.le_of_ble_eq_true rfl) (Nat.le_of_ble_eq_true rfl) (Nat.le_of_ble_eq_true rfl) (Nat.le_of_ble_eq_true rfl) rfl ?_
        refine v_iast _ dX2_oddsOfPile_18 (by assumption) rfl (by omega) (by decide) rfl ?_
        refine v_iinc1 dX2_oddsOfPile_19 rfl (Nat.le_of_ble_eq_true rfl) rfl ?_
        refine v_goto (tgt := 2) dX2_oddsOfPile_22 (by decide) ?_
        exact v_hp (List.set_set ..) (ih _ (fun j hj => by
                  by_cases e : j = k
                  · subst e; exact if_pos rfl
                  · exact (if_neg e).trans (hu j (by omega))))
  refine Ct.start 1 (by decide) rfl (Nat.le_of_ble_eq_true rfl) ?_
  refine v_iconst (v := nI 0) dX2_oddsOfPile_0 (by decide) rfl ?_
  refine v_istore_n dX2_oddsOfPile_1 (Nat.le_of_ble_eq_true rfl) rfl ?_
  exact v_hp (set_same hX.2.2.2.2.2.2.1).symm (key 0 (Nat.zero_le _) _ (fun j hj => absurd hj (by omega)))
end CLASS4
end
section
-- LOOK: by first | assumption | exact set_get (by assumption) | exact set_get (set_get (by assumption))
/-! THE CLASS'S FACE: sheets -/
abbrev QX (G : GG) (hp : List va_E) (r0 : Int32) (s : ST) : QQ := fun r h => r = some (.int r0) ∧ (∃ x, PX G s x h) ∧ FrX hp h
theorem inR2 {y z : Int32} {m n : Nat} (hm : m < 2 ^ 31) (hn : n < 2 ^ 31) (h : InR y m ∧ InR z n) : (∃ a, a < m ∧ y = nI a) ∧ ∃ b, b < n ∧ z = nI b := ⟨inR_of hm h.1, inR_of hn h.2⟩
def setLine (s : ST) (j : Nat) (k c w : Int32) : ST := (upd s.1 j k, upd s.2.1 j c, upd s.2.2.1 j w, s.2.2.2)
def updF (f : Nat → Nat → Int32) (j : Nat) (g : Nat → Int32) : Nat → Nat → Int32 := fun i => if i = j then g else f i
def setSpan (s : ST) (j k : Nat) (a b : Int32) : ST := (s.1, s.2.1, s.2.2.1, updF s.2.2.2.1 j (upd (s.2.2.2.1 j) k a), updF s.2.2.2.2.1 j (upd (s.2.2.2.2.1 j) k b), s.2.2.2.2.2)
def setTc (s : ST) (v : Int64) : ST := (s.1, s.2.1, s.2.2.1, s.2.2.2.1, s.2.2.2.2.1, s.2.2.2.2.2.1, s.2.2.2.2.2.2.1, s.2.2.2.2.2.2.2.1, s.2.2.2.2.2.2.2.2.1, v)
theorem upd_s (f : Nat → Int32) (j : Nat) (v : Int32) : upd f j v j = v := if_pos rfl
theorem upd_n {f : Nat → Int32} {i j : Nat} {v : Int32} (h : i ≠ j) : upd f j v i = f i := if_neg h
theorem updF_s (f : Nat → Nat → Int32) (j : Nat) (g : Nat → Int32) : updF f j g j = g := if_pos rfl
theorem updF_n {f : Nat → Nat → Int32} {i j : Nat} {g : Nat → Int32} (h : i ≠ j) : updF f j g i = f i := if_neg h
section PXL
variable {G : GG} {hp : List va_E} {s : ST} {x : XT}
theorem PX.setLine (hX : PX G s x hp) {j : Nat} (hj : j < 8) (k c w : Int32) : PX G (setLine s j k c w) x (hp.set (la x.1 j) (ob 0 [.int k, .int c, .int w, .ref (G.2.2.2 + (la x.1 j + 1)), .ref (G.2.2.2 + (la x.1 j + 2))])) := by
  obtain ⟨h0, h1, hgl, h2, hgw, h3, h4, h5, h6, hln, hwk, hn, hlen⟩ := hX
  have hla := la_in x.1 hj
  refine ⟨(set_ne (by omega)).trans h0, (set_ne (by omega)).trans h1, hgl, (set_ne (by omega)).trans h2, hgw, (set_ne (by omega)).trans h3, (set_ne (by omega)).trans h4, (set_ne (by omega)).trans h5, (set_ne (by omega)).trans h6, fun i hi => ?_, fun w hw => (hwk w hw).frame (fun i q1 q2 => set_ne (by omega)), hn, by rw [List.length_set]; exact hlen⟩
  by_cases e : i = j
  · subst e
    obtain ⟨l1, l2, l3⟩ := hln i hi
    show LN G _ _ (upd s.kd i k i) (upd s.fc i c i) (upd s.wt i w i) (s.fr i) (s.to i)
    rw [upd_s, upd_s, upd_s]
    exact ⟨set_get l1, (set_ne (by omega)).trans l2, (set_ne (by omega)).trans l3⟩
  · show LN G _ _ (upd s.kd j k i) (upd s.fc j c i) (upd s.wt j w i) (s.fr i) (s.to i)
    rw [upd_n e, upd_n e, upd_n e]
    exact (hln i hi).frame (fun q q1 q2 => set_ne (by have := la_apart x.1 hi hj e; omega))
theorem PX.setSpan (hX : PX G s x hp) {j : Nat} (hj : j < 8) (k : Nat) (a b : Int32) : PX G (setSpan s j k a b) x ((hp.set (la x.1 j + 1) (aI G 4 (upd (s.fr j) k a))).set (la x.1 j + 2) (aI G 4 (upd (s.to j) k b))) := by
  obtain ⟨h0, h1, hgl, h2, hgw, h3, h4, h5, h6, hln, hwk, hn, hlen⟩ := hX
  have hla := la_in x.1 hj
  have hne : ∀ i, i ≠ la x.1 j + 1 → i ≠ la x.1 j + 2 → ((hp.set (la x.1 j + 1) (aI G 4 (upd (s.fr j) k a))).set (la x.1 j + 2) (aI G 4 (upd (s.to j) k b)))[i]? = hp[i]? := fun i q1 q2 => (set_ne q2).trans (set_ne q1)
  refine ⟨(hne _ (by omega) (by omega)).trans h0, (hne _ (by omega) (by omega)).trans h1, hgl, (hne _ (by omega) (by omega)).trans h2, hgw, (hne _ (by omega) (by omega)).trans h3, (hne _ (by omega) (by omega)).trans h4, (hne _ (by omega) (by omega)).trans h5, (hne _ (by omega) (by omega)).trans h6, fun i hi => ?_, fun w hw => (hwk w hw).frame (fun i q1 q2 => hne _ (by omega) (by omega)), hn, by rw [List.length_set, List.length_set]; exact hlen⟩
  by_cases e : i = j
  · subst e
    obtain ⟨l1, l2, l3⟩ := hln i hi
    show LN G _ _ (s.kd i) (s.fc i) (s.wt i) (updF s.fr i (upd (s.fr i) k a) i) (updF s.to i (upd (s.to i) k b) i)
    rw [updF_s, updF_s]
    exact ⟨(hne _ (by omega) (by omega)).trans l1, (set_ne (by omega)).trans (set_get l2), set_get ((set_ne (by omega)).trans l3)⟩
  · show LN G _ _ (s.kd i) (s.fc i) (s.wt i) (updF s.fr j (upd (s.fr j) k a) i) (updF s.to j (upd (s.to j) k b) i)
    rw [updF_n e, updF_n e]
    exact (hln i hi).frame (fun q q1 q2 => hne _ (by have := la_apart x.1 hi hj e; omega) (by have := la_apart x.1 hi hj e; omega))
theorem PX.setTc (hX : PX G s x hp) (v : Int64) : PX G (setTc s v) x (hp.set 0 (ob 2 [.ref (G.2.2.2 + 1), .ref (G.2.2.2 + 2), .int (nI s.n), .long v, .ref (G.2.2.2 + 3), .ref (G.2.2.2 + 4), .ref (G.2.2.2 + 5), .ref (G.2.2.2 + 6)])) := by
  obtain ⟨h0, h1, hgl, h2, hgw, h3, h4, h5, h6, hln, hwk, hn, hlen⟩ := hX
  exact ⟨set_get h0, (set_ne (by decide)).trans h1, hgl, (set_ne (by decide)).trans h2, hgw, (set_ne (by decide)).trans h3, (set_ne (by decide)).trans h4, (set_ne (by decide)).trans h5, (set_ne (by decide)).trans h6, fun j hj => (hln j hj).frame (fun i q1 q2 => set_ne (by have := la_in x.1 hj; omega)), fun w hw => (hwk w hw).frame (fun i q1 q2 => set_ne (by omega)), hn, by rw [List.length_set]; exact hlen⟩
end PXL
section FACE1
variable (G : GG) (hp : List va_E) {s : ST} {x : XT}
theorem x_line_y (hX : PX G s x hp) {a b : Nat} (ha : a < 2) (hb : b < 4) {k c w : Int32} (hk : InR k 3) (hc : InR c 4) (hw : InR w 10) : Ct G mX2_line 2 0 0 [.ref (G.2.2.2 + 0), .int (nI a), .int (nI b), .int k, .int c, .int w] hp (QX G hp (nI 1) (setLine s (a * 4 + b) k c w)) := by
  have h0 := hX.1
  have hj : a * 4 + b < 8 := by omega
  obtain ⟨l1, l2, l3⟩ := hX.2.2.2.2.2.2.2.2.2.1 (a * 4 + b) hj
  have hla := la_in x.1 hj
  refine Ct.start 1 (by decide) rfl (Nat.le_of_ble_eq_true rfl) ?_
  refine v_aload_n dX2_line_0 rfl rfl ?_
  refine v_iload_n dX2_line_1 rfl rfl ?_
  refine v_iload_n dX2_line_2 rfl rfl ?_
  refine v_cvf dX2_line_3 cw_X2_45 ⟨tn_X2_lineAt, tl_X2_lineAt⟩ rfl (by first | assumption | exact set_get (by assumption) | exact set_get (set_get (by assumption))) (c_lineAt G hp hX ha hb) (by rfl) (by rfl) (Nat.le_of_ble_eq_true rfl) (Nat.le_of_ble_eq_true rfl) (Nat.le_of_ble_eq_true rfl) (Nat.le_of_ble_eq_true rfl) (Nat.le_of_ble_eq_true rfl) rfl ?_
  refine v_astore dX2_line_6 (Nat.le_of_ble_eq_true rfl) rfl ?_
  refine v_aload dX2_line_8 rfl rfl ?_
  refine v_ifnull dX2_line_10 rfl ?_
  refine v_iload_n dX2_line_13 rfl rfl ?_
  refine v_iconst (v := nI 3) dX2_line_14 (by decide) rfl ?_
  refine v_csf dX2_line_15 cw_X2_49 ts_X2_isBelow ((c_isBelow G hp k 3).yes hk) (by rfl) (by rfl) (Nat.le_of_ble_eq_true rfl) (Nat.le_of_ble_eq_true rfl) (Nat.le_of_ble_eq_true rfl) (Nat.le_of_ble_eq_true rfl) (Nat.le_of_ble_eq_true rfl) rfl ?_
  refine v_if_eq (tgt := 40) dX2_line_18 (by decide) rfl (fun q => absurd q (by decide)) (fun _ => ?_)
  refine v_iload dX2_line_21 rfl rfl ?_
  refine v_iconst (v := nI 4) dX2_line_23 (by decide) rfl ?_
  refine v_csf dX2_line_24 cw_X2_49 ts_X2_isBelow ((c_isBelow G hp c 4).yes hc) (by rfl) (by rfl) (Nat.le_of_ble_eq_true rfl) (Nat.le_of_ble_eq_true rfl) (Nat.le_of_ble_eq_true rfl) (Nat.le_of_ble_eq_true rfl) (Nat.le_of_ble_eq_true rfl) rfl ?_
  refine v_if_eq (tgt := 40) dX2_line_27 (by decide) rfl (fun q => absurd q (by decide)) (fun _ => ?_)
  refine v_iload dX2_line_30 rfl rfl ?_
  refine v_bipush (v := nI 9) dX2_line_32 (by decide) rfl ?_
  refine v_csf dX2_line_34 cw_X2_53 ts_X2_isUpTo ((c_isUpTo G hp w 9 (by decide)).yes hw) (by rfl) (by rfl) (Nat.le_of_ble_eq_true rfl) (Nat.le_of_ble_eq_true rfl) (Nat.le_of_ble_eq_true rfl) (Nat.le_of_ble_eq_true rfl) (Nat.le_of_ble_eq_true rfl) rfl ?_
  refine v_if_ne (tgt := 43) dX2_line_37 (by decide) rfl (fun _ => ?_) (fun q => absurd q (by decide))
  refine v_aload dX2_line_43 rfl rfl ?_
  refine v_iload_n dX2_line_45 rfl rfl ?_
  refine v_putf dX2_line_46 fl_X2_56 (by first | assumption | exact set_get (by assumption) | exact set_get (set_get (by assumption))) (by rfl) (by rfl) (by exact Nat.le_of_ble_eq_true rfl) rfl ?_
  refine v_aload dX2_line_49 rfl rfl ?_
  refine v_iload dX2_line_51 rfl rfl ?_
  refine v_putf dX2_line_53 fl_X2_59 (by first | assumption | exact set_get (by assumption) | exact set_get (set_get (by assumption))) (by rfl) (by rfl) (by exact Nat.le_of_ble_eq_true rfl) rfl ?_
  refine v_aload dX2_line_56 rfl rfl ?_
  refine v_iload dX2_line_58 rfl rfl ?_
  refine v_putf dX2_line_60 fl_X2_62 (by first | assumption | exact set_get (by assumption) | exact set_get (set_get (by assumption))) (by rfl) (by rfl) (by exact Nat.le_of_ble_eq_true rfl) rfl ?_
  refine v_iconst (v := nI 1) dX2_line_63 (by decide) rfl ?_
  exact v_iret dX2_line_64 rfl ⟨Nat.le_of_ble_eq_true rfl, Nat.le_of_ble_eq_true rfl⟩ (⟨rfl, ⟨x, by rw [List.set_set, List.set_set]; exact hX.setLine hj k c w⟩, ((FrX.rf.set (by omega)).set (by omega)).set (by omega)⟩)
theorem x_line_n (hX : PX G s x hp) {y z k c w : Int32} (h : ¬ ((InR y 2 ∧ InR z 4) ∧ InR k 3 ∧ InR c 4 ∧ InR w 10)) : Ct G mX2_line 2 0 0 [.ref (G.2.2.2 + 0), .int y, .int z, .int k, .int c, .int w] hp (Qf (some (.int (-100))) hp) := by
  have h0 := hX.1
  refine Ct.start 1 (by decide) rfl (Nat.le_of_ble_eq_true rfl) ?_
  refine v_aload_n dX2_line_0 rfl rfl ?_
  refine v_iload_n dX2_line_1 rfl rfl ?_
  refine v_iload_n dX2_line_2 rfl rfl ?_
  by_cases q3 : InR y 2 ∧ InR z 4
  · obtain ⟨⟨a, ha, rfl⟩, ⟨b, hb, rfl⟩⟩ := inR2 (by decide) (by decide) q3
    refine v_cvf dX2_line_3 cw_X2_45 ⟨tn_X2_lineAt, tl_X2_lineAt⟩ rfl (by first | assumption | exact set_get (by assumption) | exact set_get (set_get (by assumption))) (c_lineAt G hp hX ha hb) (by rfl) (by rfl) (Nat.le_of_ble_eq_true rfl) (Nat.le_of_ble_eq_true rfl) (Nat.le_of_ble_eq_true rfl) (Nat.le_of_ble_eq_true rfl) (Nat.le_of_ble_eq_true rfl) rfl ?_
    refine v_astore dX2_line_6 (Nat.le_of_ble_eq_true rfl) rfl ?_
    refine v_aload dX2_line_8 rfl rfl ?_
    refine v_ifnull dX2_line_10 rfl ?_
    refine v_iload_n dX2_line_13 rfl rfl ?_
    refine v_iconst (v := nI 3) dX2_line_14 (by decide) rfl ?_
    by_cases q15 : InR k 3
    · refine v_csf dX2_line_15 cw_X2_49 ts_X2_isBelow ((c_isBelow G hp k 3).yes ‹_›) (by rfl) (by rfl) (Nat.le_of_ble_eq_true rfl) (Nat.le_of_ble_eq_true rfl) (Nat.le_of_ble_eq_true rfl) (Nat.le_of_ble_eq_true rfl) (Nat.le_of_ble_eq_true rfl) rfl ?_
      refine v_if_eq (tgt := 40) dX2_line_18 (by decide) rfl (fun q => absurd q (by decide)) (fun _ => ?_)
      refine v_iload dX2_line_21 rfl rfl ?_
      refine v_iconst (v := nI 4) dX2_line_23 (by decide) rfl ?_
      by_cases q24 : InR c 4
      · refine v_csf dX2_line_24 cw_X2_49 ts_X2_isBelow ((c_isBelow G hp c 4).yes ‹_›) (by rfl) (by rfl) (Nat.le_of_ble_eq_true rfl) (Nat.le_of_ble_eq_true rfl) (Nat.le_of_ble_eq_true rfl) (Nat.le_of_ble_eq_true rfl) (Nat.le_of_ble_eq_true rfl) rfl ?_
        refine v_if_eq (tgt := 40) dX2_line_27 (by decide) rfl (fun q => absurd q (by decide)) (fun _ => ?_)
        refine v_iload dX2_line_30 rfl rfl ?_
        refine v_bipush (v := nI 9) dX2_line_32 (by decide) rfl ?_
        by_cases q34 : InR w 10
        · refine v_csf dX2_line_34 cw_X2_53 ts_X2_isUpTo ((c_isUpTo G hp w 9 (by decide)).yes ‹_›) (by rfl) (by rfl) (Nat.le_of_ble_eq_true rfl) (Nat.le_of_ble_eq_true rfl) (Nat.le_of_ble_eq_true rfl) (Nat.le_of_ble_eq_true rfl) (Nat.le_of_ble_eq_true rfl) rfl ?_
          refine v_if_ne (tgt := 43) dX2_line_37 (by decide) rfl (fun _ => ?_) (fun q => absurd q (by decide))
          exact absurd ⟨q3, q15, q24, q34⟩ h
        · refine v_csf dX2_line_34 cw_X2_53 ts_X2_isUpTo ((c_isUpTo G hp w 9 (by decide)).no ‹_›) (by rfl) (by rfl) (Nat.le_of_ble_eq_true rfl) (Nat.le_of_ble_eq_true rfl) (Nat.le_of_ble_eq_true rfl) (Nat.le_of_ble_eq_true rfl) (Nat.le_of_ble_eq_true rfl) rfl ?_
          refine v_if_ne (tgt := 43) dX2_line_37 (by decide) rfl (fun q => absurd (by decide) q) (fun _ => ?_)
          refine v_bipush (v := (-100)) dX2_line_40 (by decide) rfl ?_
          exact v_iret dX2_line_42 rfl ⟨Nat.le_of_ble_eq_true rfl, Nat.le_of_ble_eq_true rfl⟩ (⟨rfl, rfl⟩)
      · refine v_csf dX2_line_24 cw_X2_49 ts_X2_isBelow ((c_isBelow G hp c 4).no ‹_›) (by rfl) (by rfl) (Nat.le_of_ble_eq_true rfl) (Nat.le_of_ble_eq_true rfl) (Nat.le_of_ble_eq_true rfl) (Nat.le_of_ble_eq_true rfl) (Nat.le_of_ble_eq_true rfl) rfl ?_
        refine v_if_eq (tgt := 40) dX2_line_27 (by decide) rfl (fun _ => ?_) (fun q => absurd (by decide) q)
        refine v_bipush (v := (-100)) dX2_line_40 (by decide) rfl ?_
        exact v_iret dX2_line_42 rfl ⟨Nat.le_of_ble_eq_true rfl, Nat.le_of_ble_eq_true rfl⟩ (⟨rfl, rfl⟩)
    · refine v_csf dX2_line_15 cw_X2_49 ts_X2_isBelow ((c_isBelow G hp k 3).no ‹_›) (by rfl) (by rfl) (Nat.le_of_ble_eq_true rfl) (Nat.le_of_ble_eq_true rfl) (Nat.le_of_ble_eq_true rfl) (Nat.le_of_ble_eq_true rfl) (Nat.le_of_ble_eq_true rfl) rfl ?_
      refine v_if_eq (tgt := 40) dX2_line_18 (by decide) rfl (fun _ => ?_) (fun q => absurd (by decide) q)
      refine v_bipush (v := (-100)) dX2_line_40 (by decide) rfl ?_
      exact v_iret dX2_line_42 rfl ⟨Nat.le_of_ble_eq_true rfl, Nat.le_of_ble_eq_true rfl⟩ (⟨rfl, rfl⟩)
  · refine v_cvf dX2_line_3 cw_X2_45 ⟨tn_X2_lineAt, tl_X2_lineAt⟩ rfl (by first | assumption | exact set_get (by assumption) | exact set_get (set_get (by assumption))) (c_lineAt_no G hp q3) (by rfl) (by rfl) (Nat.le_of_ble_eq_true rfl) (Nat.le_of_ble_eq_true rfl) (Nat.le_of_ble_eq_true rfl) (Nat.le_of_ble_eq_true rfl) (Nat.le_of_ble_eq_true rfl) rfl ?_
    refine v_astoreN dX2_line_6 (Nat.le_of_ble_eq_true rfl) rfl ?_
    refine v_aloadN dX2_line_8 rfl rfl ?_
    refine v_ifnullN (tgt := 40) dX2_line_10 (by decide) ?_
    refine v_bipush (v := (-100)) dX2_line_40 (by decide) rfl ?_
    exact v_iret dX2_line_42 rfl ⟨Nat.le_of_ble_eq_true rfl, Nat.le_of_ble_eq_true rfl⟩ (⟨rfl, rfl⟩)
theorem x_span_y (hX : PX G s x hp) {a b k : Nat} (ha : a < 2) (hb : b < 4) (hk : k < 4) {c w : Int32} (hc : InR c 10) (hw : InR w 10) : Ct G mX2_span 2 0 0 [.ref (G.2.2.2 + 0), .int (nI a), .int (nI b), .int (nI k), .int c, .int w] hp (QX G hp (nI 1) (setSpan s (a * 4 + b) k c w)) := by
  have h0 := hX.1
  have hj : a * 4 + b < 8 := by omega
  obtain ⟨l1, l2, l3⟩ := hX.2.2.2.2.2.2.2.2.2.1 (a * 4 + b) hj
  have hla := la_in x.1 hj
  refine Ct.start 1 (by decide) rfl (Nat.le_of_ble_eq_true rfl) ?_
  refine v_aload_n dX2_span_0 rfl rfl ?_
  refine v_iload_n dX2_span_1 rfl rfl ?_
  refine v_iload_n dX2_span_2 rfl rfl ?_
  refine v_cvf dX2_span_3 cw_X2_45 ⟨tn_X2_lineAt, tl_X2_lineAt⟩ rfl (by first | assumption | exact set_get (by assumption) | exact set_get (set_get (by assumption))) (c_lineAt G hp hX ha hb) (by rfl) (by rfl) (Nat.le_of_ble_eq_true rfl) (Nat.le_of_ble_eq_true rfl) (Nat.le_of_ble_eq_true rfl) (Nat.le_of_ble_eq_true rfl) (Nat.le_of_ble_eq_true rfl) rfl ?_
  refine v_astore dX2_span_6 (Nat.le_of_ble_eq_true rfl) rfl ?_
  refine v_aload dX2_span_8 rfl rfl ?_
  refine v_ifnull dX2_span_10 rfl ?_
  refine v_iload_n dX2_span_13 rfl rfl ?_
  refine v_iconst (v := nI 4) dX2_span_14 (by decide) rfl ?_
  refine v_csf dX2_span_15 cw_X2_49 ts_X2_isBelow ((c_isBelow G hp (nI k) 4).yes (inR_nI hk (by decide))) (by rfl) (by rfl) (Nat.le_of_ble_eq_true rfl) (Nat.le_of_ble_eq_true rfl) (Nat.le_of_ble_eq_true rfl) (Nat.le_of_ble_eq_true rfl) (Nat.le_of_ble_eq_true rfl) rfl ?_
  refine v_if_eq (tgt := 41) dX2_span_18 (by decide) rfl (fun q => absurd q (by decide)) (fun _ => ?_)
  refine v_iload dX2_span_21 rfl rfl ?_
  refine v_bipush (v := nI 9) dX2_span_23 (by decide) rfl ?_
  refine v_csf dX2_span_25 cw_X2_53 ts_X2_isUpTo ((c_isUpTo G hp c 9 (by decide)).yes hc) (by rfl) (by rfl) (Nat.le_of_ble_eq_true rfl) (Nat.le_of_ble_eq_true rfl) (Nat.le_of_ble_eq_true rfl) (Nat.le_of_ble_eq_true rfl) (Nat.le_of_ble_eq_true rfl) rfl ?_
  refine v_if_eq (tgt := 41) dX2_span_28 (by decide) rfl (fun q => absurd q (by decide)) (fun _ => ?_)
  refine v_iload dX2_span_31 rfl rfl ?_
  refine v_bipush (v := nI 9) dX2_span_33 (by decide) rfl ?_
  refine v_csf dX2_span_35 cw_X2_53 ts_X2_isUpTo ((c_isUpTo G hp w 9 (by decide)).yes hw) (by rfl) (by rfl) (Nat.le_of_ble_eq_true rfl) (Nat.le_of_ble_eq_true rfl) (Nat.le_of_ble_eq_true rfl) (Nat.le_of_ble_eq_true rfl) (Nat.le_of_ble_eq_true rfl) rfl ?_
  refine v_if_ne (tgt := 44) dX2_span_38 (by decide) rfl (fun _ => ?_) (fun q => absurd q (by decide))
  refine v_aload dX2_span_44 rfl rfl ?_
  refine v_getf dX2_span_46 fl_X2_65 (by first | assumption | exact set_get (by assumption) | exact set_get (set_get (by assumption))) (by rfl) rfl ?_
  refine v_iload_n dX2_span_49 rfl rfl ?_
  refine v_iload dX2_span_50 rfl rfl ?_
  refine v_iast _ dX2_span_52 (by first | assumption | exact set_get (by assumption) | exact set_get (set_get (by assumption))) rfl (by omega) (by decide) rfl ?_
  refine v_aload dX2_span_53 rfl rfl ?_
  refine v_getf dX2_span_55 fl_X2_68 ((set_ne (by omega)).trans l1) (by rfl) rfl ?_
  refine v_iload_n dX2_span_58 rfl rfl ?_
  refine v_iload dX2_span_59 rfl rfl ?_
  refine v_iast _ dX2_span_61 ((set_ne (by omega)).trans l3) rfl (by omega) (by decide) rfl ?_
  refine v_iconst (v := nI 1) dX2_span_62 (by decide) rfl ?_
  exact v_iret dX2_span_63 rfl ⟨Nat.le_of_ble_eq_true rfl, Nat.le_of_ble_eq_true rfl⟩ (⟨rfl, ⟨x, hX.setSpan hj k c w⟩, (FrX.rf.set (by omega)).set (by omega)⟩)
theorem x_span_n (hX : PX G s x hp) {y z k c w : Int32} (h : ¬ ((InR y 2 ∧ InR z 4) ∧ InR k 4 ∧ InR c 10 ∧ InR w 10)) : Ct G mX2_span 2 0 0 [.ref (G.2.2.2 + 0), .int y, .int z, .int k, .int c, .int w] hp (Qf (some (.int (-100))) hp) := by
  have h0 := hX.1
  refine Ct.start 1 (by decide) rfl (Nat.le_of_ble_eq_true rfl) ?_
  refine v_aload_n dX2_span_0 rfl rfl ?_
  refine v_iload_n dX2_span_1 rfl rfl ?_
  refine v_iload_n dX2_span_2 rfl rfl ?_
  by_cases q3 : InR y 2 ∧ InR z 4
  · obtain ⟨⟨a, ha, rfl⟩, ⟨b, hb, rfl⟩⟩ := inR2 (by decide) (by decide) q3
    refine v_cvf dX2_span_3 cw_X2_45 ⟨tn_X2_lineAt, tl_X2_lineAt⟩ rfl (by first | assumption | exact set_get (by assumption) | exact set_get (set_get (by assumption))) (c_lineAt G hp hX ha hb) (by rfl) (by rfl) (Nat.le_of_ble_eq_true rfl) (Nat.le_of_ble_eq_true rfl) (Nat.le_of_ble_eq_true rfl) (Nat.le_of_ble_eq_true rfl) (Nat.le_of_ble_eq_true rfl) rfl ?_
    refine v_astore dX2_span_6 (Nat.le_of_ble_eq_true rfl) rfl ?_
    refine v_aload dX2_span_8 rfl rfl ?_
    refine v_ifnull dX2_span_10 rfl ?_
    refine v_iload_n dX2_span_13 rfl rfl ?_
    refine v_iconst (v := nI 4) dX2_span_14 (by decide) rfl ?_
    by_cases q15 : InR k 4
    · refine v_csf dX2_span_15 cw_X2_49 ts_X2_isBelow ((c_isBelow G hp k 4).yes ‹_›) (by rfl) (by rfl) (Nat.le_of_ble_eq_true rfl) (Nat.le_of_ble_eq_true rfl) (Nat.le_of_ble_eq_true rfl) (Nat.le_of_ble_eq_true rfl) (Nat.le_of_ble_eq_true rfl) rfl ?_
      refine v_if_eq (tgt := 41) dX2_span_18 (by decide) rfl (fun q => absurd q (by decide)) (fun _ => ?_)
      refine v_iload dX2_span_21 rfl rfl ?_
      refine v_bipush (v := nI 9) dX2_span_23 (by decide) rfl ?_
      by_cases q25 : InR c 10
      · refine v_csf dX2_span_25 cw_X2_53 ts_X2_isUpTo ((c_isUpTo G hp c 9 (by decide)).yes ‹_›) (by rfl) (by rfl) (Nat.le_of_ble_eq_true rfl) (Nat.le_of_ble_eq_true rfl) (Nat.le_of_ble_eq_true rfl) (Nat.le_of_ble_eq_true rfl) (Nat.le_of_ble_eq_true rfl) rfl ?_
        refine v_if_eq (tgt := 41) dX2_span_28 (by decide) rfl (fun q => absurd q (by decide)) (fun _ => ?_)
        refine v_iload dX2_span_31 rfl rfl ?_
        refine v_bipush (v := nI 9) dX2_span_33 (by decide) rfl ?_
        by_cases q35 : InR w 10
        · refine v_csf dX2_span_35 cw_X2_53 ts_X2_isUpTo ((c_isUpTo G hp w 9 (by decide)).yes ‹_›) (by rfl) (by rfl) (Nat.le_of_ble_eq_true rfl) (Nat.le_of_ble_eq_true rfl) (Nat.le_of_ble_eq_true rfl) (Nat.le_of_ble_eq_true rfl) (Nat.le_of_ble_eq_true rfl) rfl ?_
          refine v_if_ne (tgt := 44) dX2_span_38 (by decide) rfl (fun _ => ?_) (fun q => absurd q (by decide))
          exact absurd ⟨q3, q15, q25, q35⟩ h
        · refine v_csf dX2_span_35 cw_X2_53 ts_X2_isUpTo ((c_isUpTo G hp w 9 (by decide)).no ‹_›) (by rfl) (by rfl) (Nat.le_of_ble_eq_true rfl) (Nat.le_of_ble_eq_true rfl) (Nat.le_of_ble_eq_true rfl) (Nat.le_of_ble_eq_true rfl) (Nat.le_of_ble_eq_true rfl) rfl ?_
          refine v_if_ne (tgt := 44) dX2_span_38 (by decide) rfl (fun q => absurd (by decide) q) (fun _ => ?_)
          refine v_bipush (v := (-100)) dX2_span_41 (by decide) rfl ?_
          exact v_iret dX2_span_43 rfl ⟨Nat.le_of_ble_eq_true rfl, Nat.le_of_ble_eq_true rfl⟩ (⟨rfl, rfl⟩)
      · refine v_csf dX2_span_25 cw_X2_53 ts_X2_isUpTo ((c_isUpTo G hp c 9 (by decide)).no ‹_›) (by rfl) (by rfl) (Nat.le_of_ble_eq_true rfl) (Nat.le_of_ble_eq_true rfl) (Nat.le_of_ble_eq_true rfl) (Nat.le_of_ble_eq_true rfl) (Nat.le_of_ble_eq_true rfl) rfl ?_
        refine v_if_eq (tgt := 41) dX2_span_28 (by decide) rfl (fun _ => ?_) (fun q => absurd (by decide) q)
        refine v_bipush (v := (-100)) dX2_span_41 (by decide) rfl ?_
        exact v_iret dX2_span_43 rfl ⟨Nat.le_of_ble_eq_true rfl, Nat.le_of_ble_eq_true rfl⟩ (⟨rfl, rfl⟩)
    · refine v_csf dX2_span_15 cw_X2_49 ts_X2_isBelow ((c_isBelow G hp k 4).no ‹_›) (by rfl) (by rfl) (Nat.le_of_ble_eq_true rfl) (Nat.le_of_ble_eq_true rfl) (Nat.le_of_ble_eq_true rfl) (Nat.le_of_ble_eq_true rfl) (Nat.le_of_ble_eq_true rfl) rfl ?_
      refine v_if_eq (tgt := 41) dX2_span_18 (by decide) rfl (fun _ => ?_) (fun q => absurd (by decide) q)
      refine v_bipush (v := (-100)) dX2_span_41 (by decide) rfl ?_
      exact v_iret dX2_span_43 rfl ⟨Nat.le_of_ble_eq_true rfl, Nat.le_of_ble_eq_true rfl⟩ (⟨rfl, rfl⟩)
  · refine v_cvf dX2_span_3 cw_X2_45 ⟨tn_X2_lineAt, tl_X2_lineAt⟩ rfl (by first | assumption | exact set_get (by assumption) | exact set_get (set_get (by assumption))) (c_lineAt_no G hp q3) (by rfl) (by rfl) (Nat.le_of_ble_eq_true rfl) (Nat.le_of_ble_eq_true rfl) (Nat.le_of_ble_eq_true rfl) (Nat.le_of_ble_eq_true rfl) (Nat.le_of_ble_eq_true rfl) rfl ?_
    refine v_astoreN dX2_span_6 (Nat.le_of_ble_eq_true rfl) rfl ?_
    refine v_aloadN dX2_span_8 rfl rfl ?_
    refine v_ifnullN (tgt := 41) dX2_span_10 (by decide) ?_
    refine v_bipush (v := (-100)) dX2_span_41 (by decide) rfl ?_
    exact v_iret dX2_span_43 rfl ⟨Nat.le_of_ble_eq_true rfl, Nat.le_of_ble_eq_true rfl⟩ (⟨rfl, rfl⟩)
def abI (s : ST) (j w : Nat) : Int32 := if 3 ≤ w then (if (w - 3) % 2 = 0 then s.fr j ((w - 3) / 2) else s.to j ((w - 3) / 2)) else if w = 0 then s.kd j else if w = 1 then s.fc j else s.wt j
theorem x_about_y (hX : PX G s x hp) {a b w : Nat} (ha : a < 2) (hb : b < 4) (hw : w < 11) : Ct G mX2_about 2 0 0 [.ref (G.2.2.2 + 0), .int (nI a), .int (nI b), .int (nI w)] hp (Qf (some (.int (abI s (a * 4 + b) w))) hp) := by
  have h0 := hX.1
  have hj : a * 4 + b < 8 := by omega
  obtain ⟨l1, l2, l3⟩ := hX.2.2.2.2.2.2.2.2.2.1 (a * 4 + b) hj
  refine Ct.start 3 (by decide) rfl (Nat.le_of_ble_eq_true rfl) ?_
  refine v_aload_n dX2_about_0 rfl rfl ?_
  refine v_iload_n dX2_about_1 rfl rfl ?_
  refine v_iload_n dX2_about_2 rfl rfl ?_
  refine v_cvf dX2_about_3 cw_X2_45 ⟨tn_X2_lineAt, tl_X2_lineAt⟩ rfl (by first | assumption | exact set_get (by assumption) | exact set_get (set_get (by assumption))) (c_lineAt G hp hX ha hb) (by rfl) (by rfl) (Nat.le_of_ble_eq_true rfl) (Nat.le_of_ble_eq_true rfl) (Nat.le_of_ble_eq_true rfl) (Nat.le_of_ble_eq_true rfl) (Nat.le_of_ble_eq_true rfl) rfl ?_
  refine v_astore dX2_about_6 (Nat.le_of_ble_eq_true rfl) rfl ?_
  refine v_aload dX2_about_8 rfl rfl ?_
  refine v_ifnull dX2_about_10 rfl ?_
  refine v_iload_n dX2_about_13 rfl rfl ?_
  refine v_bipush (v := nI 11) dX2_about_14 (by decide) rfl ?_
  refine v_csf dX2_about_16 cw_X2_49 ts_X2_isBelow ((c_isBelow G hp (nI w) 11).yes (inR_nI hw (by decide))) (by rfl) (by rfl) (Nat.le_of_ble_eq_true rfl) (Nat.le_of_ble_eq_true rfl) (Nat.le_of_ble_eq_true rfl) (Nat.le_of_ble_eq_true rfl) (Nat.le_of_ble_eq_true rfl) rfl ?_
  refine v_if_ne (tgt := 25) dX2_about_19 (by decide) rfl (fun _ => ?_) (fun q => absurd q (by decide))
  refine v_iload_n dX2_about_25 rfl rfl ?_
  refine v_iconst (v := nI 3) dX2_about_26 (by decide) rfl ?_
  refine v_icmp_geN (tgt := 61) dX2_about_27 (by decide) rfl (by omega) (by omega) (fun c27 => ?_) (fun c27 => ?_)
  · refine v_iload_n dX2_about_61 rfl rfl ?_
    refine v_iconst (v := nI 3) dX2_about_62 (by decide) rfl ?_
    refine v_isubN dX2_about_63 (by omega) rfl ?_
    refine v_iconst (v := nI 2) dX2_about_64 (by decide) rfl ?_
    refine v_idivN dX2_about_65 (by omega) (by omega) (by omega) rfl ?_
    refine v_istore dX2_about_66 (Nat.le_of_ble_eq_true rfl) rfl ?_
    refine v_iload_n dX2_about_68 rfl rfl ?_
    refine v_iconst (v := nI 3) dX2_about_69 (by decide) rfl ?_
    refine v_isubN dX2_about_70 (by omega) rfl ?_
    refine v_iconst (v := nI 2) dX2_about_71 (by decide) rfl ?_
    refine v_iremN dX2_about_72 (by omega) (by omega) (by omega) rfl ?_
    refine v_if_neN (tgt := 80) dX2_about_73 (by decide) rfl (by omega) (fun c73 => ?_) (fun c73 => ?_)
    · refine v_iconst (v := nI 0) dX2_about_80 (by decide) rfl ?_
      refine v_istore dX2_about_81 (Nat.le_of_ble_eq_true rfl) rfl ?_
      refine v_iload dX2_about_83 rfl rfl ?_
      refine v_if_eq (tgt := 99) dX2_about_85 (by decide) rfl (fun _ => ?_) (fun q => absurd (by decide) q)
      refine v_aload dX2_about_99 rfl rfl ?_
      refine v_getf dX2_about_101 fl_X2_68 (by first | assumption | exact set_get (by assumption) | exact set_get (set_get (by assumption))) (by rfl) rfl ?_
      refine v_iload dX2_about_104 rfl rfl ?_
      refine v_iald _ dX2_about_106 (by first | assumption | exact set_get (by assumption) | exact set_get (set_get (by assumption))) rfl (by omega) (by decide) rfl ?_
      exact v_iret dX2_about_107 rfl ⟨Nat.le_of_ble_eq_true rfl, Nat.le_of_ble_eq_true rfl⟩ (⟨by first | (rw [abI, if_pos ‹_›, if_pos ‹_›]; done) | (rw [abI, if_pos ‹_›, if_neg ‹_›]; done) | (rw [abI, if_neg (by omega), if_pos ‹_›]; done) | (rw [abI, if_neg (by omega), if_neg ‹_›, if_pos ‹_›]; done) | (rw [abI, if_neg (by omega), if_neg ‹_›, if_neg ‹_›]; done), rfl⟩)
    · refine v_iconst (v := nI 1) dX2_about_76 (by decide) rfl ?_
      refine v_goto (tgt := 81) dX2_about_77 (by decide) ?_
      refine v_istore dX2_about_81 (Nat.le_of_ble_eq_true rfl) rfl ?_
      refine v_iload dX2_about_83 rfl rfl ?_
      refine v_if_eq (tgt := 99) dX2_about_85 (by decide) rfl (fun q => absurd q (by decide)) (fun _ => ?_)
      refine v_aload dX2_about_88 rfl rfl ?_
      refine v_getf dX2_about_90 fl_X2_65 (by first | assumption | exact set_get (by assumption) | exact set_get (set_get (by assumption))) (by rfl) rfl ?_
      refine v_iload dX2_about_93 rfl rfl ?_
      refine v_iald _ dX2_about_95 (by first | assumption | exact set_get (by assumption) | exact set_get (set_get (by assumption))) rfl (by omega) (by decide) rfl ?_
      refine v_goto (tgt := 107) dX2_about_96 (by decide) ?_
      exact v_iret dX2_about_107 rfl ⟨Nat.le_of_ble_eq_true rfl, Nat.le_of_ble_eq_true rfl⟩ (⟨by first | (rw [abI, if_pos ‹_›, if_pos ‹_›]; done) | (rw [abI, if_pos ‹_›, if_neg ‹_›]; done) | (rw [abI, if_neg (by omega), if_pos ‹_›]; done) | (rw [abI, if_neg (by omega), if_neg ‹_›, if_pos ‹_›]; done) | (rw [abI, if_neg (by omega), if_neg ‹_›, if_neg ‹_›]; done), rfl⟩)
  · refine v_iload_n dX2_about_30 rfl rfl ?_
    refine v_if_neN (tgt := 42) dX2_about_31 (by decide) rfl (by omega) (fun c31 => ?_) (fun c31 => ?_)
    · refine v_iload_n dX2_about_42 rfl rfl ?_
      refine v_iconst (v := nI 1) dX2_about_43 (by decide) rfl ?_
      refine v_icmp_neN (tgt := 55) dX2_about_44 (by decide) rfl (by omega) (by omega) (fun c44 => ?_) (fun c44 => ?_)
      · refine v_aload dX2_about_55 rfl rfl ?_
        refine v_getf dX2_about_57 fl_X2_62 (by first | assumption | exact set_get (by assumption) | exact set_get (set_get (by assumption))) (by rfl) rfl ?_
        exact v_iret dX2_about_60 rfl ⟨Nat.le_of_ble_eq_true rfl, Nat.le_of_ble_eq_true rfl⟩ (⟨by first | (rw [abI, if_pos ‹_›, if_pos ‹_›]; done) | (rw [abI, if_pos ‹_›, if_neg ‹_›]; done) | (rw [abI, if_neg (by omega), if_pos ‹_›]; done) | (rw [abI, if_neg (by omega), if_neg ‹_›, if_pos ‹_›]; done) | (rw [abI, if_neg (by omega), if_neg ‹_›, if_neg ‹_›]; done), rfl⟩)
      · refine v_aload dX2_about_47 rfl rfl ?_
        refine v_getf dX2_about_49 fl_X2_59 (by first | assumption | exact set_get (by assumption) | exact set_get (set_get (by assumption))) (by rfl) rfl ?_
        refine v_goto (tgt := 60) dX2_about_52 (by decide) ?_
        exact v_iret dX2_about_60 rfl ⟨Nat.le_of_ble_eq_true rfl, Nat.le_of_ble_eq_true rfl⟩ (⟨by first | (rw [abI, if_pos ‹_›, if_pos ‹_›]; done) | (rw [abI, if_pos ‹_›, if_neg ‹_›]; done) | (rw [abI, if_neg (by omega), if_pos ‹_›]; done) | (rw [abI, if_neg (by omega), if_neg ‹_›, if_pos ‹_›]; done) | (rw [abI, if_neg (by omega), if_neg ‹_›, if_neg ‹_›]; done), rfl⟩)
    · refine v_aload dX2_about_34 rfl rfl ?_
      refine v_getf dX2_about_36 fl_X2_56 (by first | assumption | exact set_get (by assumption) | exact set_get (set_get (by assumption))) (by rfl) rfl ?_
      refine v_goto (tgt := 60) dX2_about_39 (by decide) ?_
      exact v_iret dX2_about_60 rfl ⟨Nat.le_of_ble_eq_true rfl, Nat.le_of_ble_eq_true rfl⟩ (⟨by first | (rw [abI, if_pos ‹_›, if_pos ‹_›]; done) | (rw [abI, if_pos ‹_›, if_neg ‹_›]; done) | (rw [abI, if_neg (by omega), if_pos ‹_›]; done) | (rw [abI, if_neg (by omega), if_neg ‹_›, if_pos ‹_›]; done) | (rw [abI, if_neg (by omega), if_neg ‹_›, if_neg ‹_›]; done), rfl⟩)
theorem x_about_n (hX : PX G s x hp) {y z w : Int32} (h : ¬ ((InR y 2 ∧ InR z 4) ∧ InR w 11)) : Ct G mX2_about 2 0 0 [.ref (G.2.2.2 + 0), .int y, .int z, .int w] hp (Qf (some (.int (-100))) hp) := by
  have h0 := hX.1
  refine Ct.start 3 (by decide) rfl (Nat.le_of_ble_eq_true rfl) ?_
  refine v_aload_n dX2_about_0 rfl rfl ?_
  refine v_iload_n dX2_about_1 rfl rfl ?_
  refine v_iload_n dX2_about_2 rfl rfl ?_
  by_cases q3 : InR y 2 ∧ InR z 4
  · obtain ⟨⟨a, ha, rfl⟩, ⟨b, hb, rfl⟩⟩ := inR2 (by decide) (by decide) q3
    refine v_cvf dX2_about_3 cw_X2_45 ⟨tn_X2_lineAt, tl_X2_lineAt⟩ rfl (by first | assumption | exact set_get (by assumption) | exact set_get (set_get (by assumption))) (c_lineAt G hp hX ha hb) (by rfl) (by rfl) (Nat.le_of_ble_eq_true rfl) (Nat.le_of_ble_eq_true rfl) (Nat.le_of_ble_eq_true rfl) (Nat.le_of_ble_eq_true rfl) (Nat.le_of_ble_eq_true rfl) rfl ?_
    refine v_astore dX2_about_6 (Nat.le_of_ble_eq_true rfl) rfl ?_
    refine v_aload dX2_about_8 rfl rfl ?_
    refine v_ifnull dX2_about_10 rfl ?_
    refine v_iload_n dX2_about_13 rfl rfl ?_
    refine v_bipush (v := nI 11) dX2_about_14 (by decide) rfl ?_
    by_cases q16 : InR w 11
    · refine v_csf dX2_about_16 cw_X2_49 ts_X2_isBelow ((c_isBelow G hp w 11).yes ‹_›) (by rfl) (by rfl) (Nat.le_of_ble_eq_true rfl) (Nat.le_of_ble_eq_true rfl) (Nat.le_of_ble_eq_true rfl) (Nat.le_of_ble_eq_true rfl) (Nat.le_of_ble_eq_true rfl) rfl ?_
      refine v_if_ne (tgt := 25) dX2_about_19 (by decide) rfl (fun _ => ?_) (fun q => absurd q (by decide))
      exact absurd ⟨q3, q16⟩ h
    · refine v_csf dX2_about_16 cw_X2_49 ts_X2_isBelow ((c_isBelow G hp w 11).no ‹_›) (by rfl) (by rfl) (Nat.le_of_ble_eq_true rfl) (Nat.le_of_ble_eq_true rfl) (Nat.le_of_ble_eq_true rfl) (Nat.le_of_ble_eq_true rfl) (Nat.le_of_ble_eq_true rfl) rfl ?_
      refine v_if_ne (tgt := 25) dX2_about_19 (by decide) rfl (fun q => absurd (by decide) q) (fun _ => ?_)
      refine v_bipush (v := (-100)) dX2_about_22 (by decide) rfl ?_
      exact v_iret dX2_about_24 rfl ⟨Nat.le_of_ble_eq_true rfl, Nat.le_of_ble_eq_true rfl⟩ (⟨rfl, rfl⟩)
  · refine v_cvf dX2_about_3 cw_X2_45 ⟨tn_X2_lineAt, tl_X2_lineAt⟩ rfl (by first | assumption | exact set_get (by assumption) | exact set_get (set_get (by assumption))) (c_lineAt_no G hp q3) (by rfl) (by rfl) (Nat.le_of_ble_eq_true rfl) (Nat.le_of_ble_eq_true rfl) (Nat.le_of_ble_eq_true rfl) (Nat.le_of_ble_eq_true rfl) (Nat.le_of_ble_eq_true rfl) rfl ?_
    refine v_astoreN dX2_about_6 (Nat.le_of_ble_eq_true rfl) rfl ?_
    refine v_aloadN dX2_about_8 rfl rfl ?_
    refine v_ifnullN (tgt := 22) dX2_about_10 (by decide) ?_
    refine v_bipush (v := (-100)) dX2_about_22 (by decide) rfl ?_
    exact v_iret dX2_about_24 rfl ⟨Nat.le_of_ble_eq_true rfl, Nat.le_of_ble_eq_true rfl⟩ (⟨rfl, rfl⟩)
theorem x_level_y (hX : PX G s x hp) {a b : Nat} (ha : a < 2) (hb : b < 4) {v : Int32} (hv : InR v 10) : Ct G mX2_level 5 0 0 [.ref (G.2.2.2 + 0), .int (nI a), .int (nI b), .int v] hp (QX G hp (oI (levelO (s.kd (a * 4 + b)) (s.fr (a * 4 + b)) (s.to (a * 4 + b)) v)) (setTc s (s.tc + (trcI (s.kd (a * 4 + b))).toInt64))) := by
  have h0 := hX.1
  have hj : a * 4 + b < 8 := by omega
  have hL := hX.2.2.2.2.2.2.2.2.2.1 (a * 4 + b) hj
  have l1 := hL.1
  have hla := la_in x.1 hj
  have hL2 := (hX.setTc (s.tc + (trcI (s.kd (a * 4 + b))).toInt64)).2.2.2.2.2.2.2.2.2.1 (a * 4 + b) hj
  refine Ct.start 1 (by decide) rfl (Nat.le_of_ble_eq_true rfl) ?_
  refine v_aload_n dX2_level_0 rfl rfl ?_
  refine v_iload_n dX2_level_1 rfl rfl ?_
  refine v_iload_n dX2_level_2 rfl rfl ?_
  refine v_cvf dX2_level_3 cw_X2_45 ⟨tn_X2_lineAt, tl_X2_lineAt⟩ rfl (by first | assumption | exact set_get (by assumption) | exact set_get (set_get (by assumption))) (c_lineAt G hp hX ha hb) (by rfl) (by rfl) (Nat.le_of_ble_eq_true rfl) (Nat.le_of_ble_eq_true rfl) (Nat.le_of_ble_eq_true rfl) (Nat.le_of_ble_eq_true rfl) (Nat.le_of_ble_eq_true rfl) rfl ?_
  refine v_astore dX2_level_6 (Nat.le_of_ble_eq_true rfl) rfl ?_
  refine v_aload dX2_level_8 rfl rfl ?_
  refine v_ifnull dX2_level_10 rfl ?_
  refine v_iload_n dX2_level_13 rfl rfl ?_
  refine v_bipush (v := nI 9) dX2_level_14 (by decide) rfl ?_
  refine v_csf dX2_level_16 cw_X2_53 ts_X2_isUpTo ((c_isUpTo G hp v 9 (by decide)).yes hv) (by rfl) (by rfl) (Nat.le_of_ble_eq_true rfl) (Nat.le_of_ble_eq_true rfl) (Nat.le_of_ble_eq_true rfl) (Nat.le_of_ble_eq_true rfl) (Nat.le_of_ble_eq_true rfl) rfl ?_
  refine v_if_ne (tgt := 25) dX2_level_19 (by decide) rfl (fun _ => ?_) (fun q => absurd q (by decide))
  refine v_aload_n dX2_level_25 rfl rfl ?_
  refine v_dup dX2_level_26 rfl rfl ?_
  refine v_getf dX2_level_27 fl_X2_25 (by first | assumption | exact set_get (by assumption) | exact set_get (set_get (by assumption))) (by rfl) rfl ?_
  refine v_aload dX2_level_30 rfl rfl ?_
  refine v_cvf dX2_level_32 cw_X2_71 ⟨tn_X0_traceOfAsking, tl_X0_traceOfAsking⟩ rfl (by first | assumption | exact set_get (by assumption) | exact set_get (set_get (by assumption))) (c_traceOfAsking G hp hL) (by rfl) (by rfl) (Nat.le_of_ble_eq_true rfl) (Nat.le_of_ble_eq_true rfl) (Nat.le_of_ble_eq_true rfl) (Nat.le_of_ble_eq_true rfl) (Nat.le_of_ble_eq_true rfl) rfl ?_
  refine v_i2l dX2_level_35 rfl ?_
  refine v_ladd dX2_level_36 rfl ?_
  refine v_putf dX2_level_37 fl_X2_25 (by first | assumption | exact set_get (by assumption) | exact set_get (set_get (by assumption))) (by rfl) (by rfl) (by exact Nat.le_of_ble_eq_true rfl) rfl ?_
  refine v_aload dX2_level_40 rfl rfl ?_
  refine v_iload_n dX2_level_42 rfl rfl ?_
  refine v_cvf dX2_level_43 cw_X2_75 ⟨tn_X0_levelFor, tl_X0_levelFor⟩ rfl (hL2.1) (c_levelFor G _ hL2 v) (by rfl) (by rfl) (Nat.le_of_ble_eq_true rfl) (Nat.le_of_ble_eq_true rfl) (Nat.le_of_ble_eq_true rfl) (Nat.le_of_ble_eq_true rfl) (Nat.le_of_ble_eq_true rfl) rfl ?_
  exact v_iret dX2_level_46 rfl ⟨Nat.le_of_ble_eq_true rfl, Nat.le_of_ble_eq_true rfl⟩ (⟨rfl, ⟨x, hX.setTc _⟩, FrX.rf.set (by omega)⟩)
theorem x_level_n (hX : PX G s x hp) {y z w : Int32} (h : ¬ ((InR y 2 ∧ InR z 4) ∧ InR w 10)) : Ct G mX2_level 5 0 0 [.ref (G.2.2.2 + 0), .int y, .int z, .int w] hp (Qf (some (.int (-100))) hp) := by
  have h0 := hX.1
  refine Ct.start 1 (by decide) rfl (Nat.le_of_ble_eq_true rfl) ?_
  refine v_aload_n dX2_level_0 rfl rfl ?_
  refine v_iload_n dX2_level_1 rfl rfl ?_
  refine v_iload_n dX2_level_2 rfl rfl ?_
  by_cases q3 : InR y 2 ∧ InR z 4
  · obtain ⟨⟨a, ha, rfl⟩, ⟨b, hb, rfl⟩⟩ := inR2 (by decide) (by decide) q3
    refine v_cvf dX2_level_3 cw_X2_45 ⟨tn_X2_lineAt, tl_X2_lineAt⟩ rfl (by first | assumption | exact set_get (by assumption) | exact set_get (set_get (by assumption))) (c_lineAt G hp hX ha hb) (by rfl) (by rfl) (Nat.le_of_ble_eq_true rfl) (Nat.le_of_ble_eq_true rfl) (Nat.le_of_ble_eq_true rfl) (Nat.le_of_ble_eq_true rfl) (Nat.le_of_ble_eq_true rfl) rfl ?_
    refine v_astore dX2_level_6 (Nat.le_of_ble_eq_true rfl) rfl ?_
    refine v_aload dX2_level_8 rfl rfl ?_
    refine v_ifnull dX2_level_10 rfl ?_
    refine v_iload_n dX2_level_13 rfl rfl ?_
    refine v_bipush (v := nI 9) dX2_level_14 (by decide) rfl ?_
    by_cases q16 : InR w 10
    · refine v_csf dX2_level_16 cw_X2_53 ts_X2_isUpTo ((c_isUpTo G hp w 9 (by decide)).yes ‹_›) (by rfl) (by rfl) (Nat.le_of_ble_eq_true rfl) (Nat.le_of_ble_eq_true rfl) (Nat.le_of_ble_eq_true rfl) (Nat.le_of_ble_eq_true rfl) (Nat.le_of_ble_eq_true rfl) rfl ?_
      refine v_if_ne (tgt := 25) dX2_level_19 (by decide) rfl (fun _ => ?_) (fun q => absurd q (by decide))
      exact absurd ⟨q3, q16⟩ h
    · refine v_csf dX2_level_16 cw_X2_53 ts_X2_isUpTo ((c_isUpTo G hp w 9 (by decide)).no ‹_›) (by rfl) (by rfl) (Nat.le_of_ble_eq_true rfl) (Nat.le_of_ble_eq_true rfl) (Nat.le_of_ble_eq_true rfl) (Nat.le_of_ble_eq_true rfl) (Nat.le_of_ble_eq_true rfl) rfl ?_
      refine v_if_ne (tgt := 25) dX2_level_19 (by decide) rfl (fun q => absurd (by decide) q) (fun _ => ?_)
      refine v_bipush (v := (-100)) dX2_level_22 (by decide) rfl ?_
      exact v_iret dX2_level_24 rfl ⟨Nat.le_of_ble_eq_true rfl, Nat.le_of_ble_eq_true rfl⟩ (⟨rfl, rfl⟩)
  · refine v_cvf dX2_level_3 cw_X2_45 ⟨tn_X2_lineAt, tl_X2_lineAt⟩ rfl (by first | assumption | exact set_get (by assumption) | exact set_get (set_get (by assumption))) (c_lineAt_no G hp q3) (by rfl) (by rfl) (Nat.le_of_ble_eq_true rfl) (Nat.le_of_ble_eq_true rfl) (Nat.le_of_ble_eq_true rfl) (Nat.le_of_ble_eq_true rfl) (Nat.le_of_ble_eq_true rfl) rfl ?_
    refine v_astoreN dX2_level_6 (Nat.le_of_ble_eq_true rfl) rfl ?_
    refine v_aloadN dX2_level_8 rfl rfl ?_
    refine v_ifnullN (tgt := 22) dX2_level_10 (by decide) ?_
    refine v_bipush (v := (-100)) dX2_level_22 (by decide) rfl ?_
    exact v_iret dX2_level_24 rfl ⟨Nat.le_of_ble_eq_true rfl, Nat.le_of_ble_eq_true rfl⟩ (⟨rfl, rfl⟩)
noncomputable def snI (s : ST) (j w : Nat) : Int32 := if w = 0 then orTo (gapP (s.fr j) (s.to j)) 10 else orTo (ovrP (s.fr j) (s.to j)) 10
theorem x_sense_y (hX : PX G s x hp) {a b w : Nat} (ha : a < 2) (hb : b < 4) (hw : w < 2) : Ct G mX2_sense 3 0 0 [.ref (G.2.2.2 + 0), .int (nI a), .int (nI b), .int (nI w)] hp (Qf (some (.int (snI s (a * 4 + b) w))) hp) := by
  have h0 := hX.1
  have hj : a * 4 + b < 8 := by omega
  have hL := hX.2.2.2.2.2.2.2.2.2.1 (a * 4 + b) hj
  have l1 := hL.1
  refine Ct.start 1 (by decide) rfl (Nat.le_of_ble_eq_true rfl) ?_
  refine v_aload_n dX2_sense_0 rfl rfl ?_
  refine v_iload_n dX2_sense_1 rfl rfl ?_
  refine v_iload_n dX2_sense_2 rfl rfl ?_
  refine v_cvf dX2_sense_3 cw_X2_45 ⟨tn_X2_lineAt, tl_X2_lineAt⟩ rfl (by first | assumption | exact set_get (by assumption) | exact set_get (set_get (by assumption))) (c_lineAt G hp hX ha hb) (by rfl) (by rfl) (Nat.le_of_ble_eq_true rfl) (Nat.le_of_ble_eq_true rfl) (Nat.le_of_ble_eq_true rfl) (Nat.le_of_ble_eq_true rfl) (Nat.le_of_ble_eq_true rfl) rfl ?_
  refine v_astore dX2_sense_6 (Nat.le_of_ble_eq_true rfl) rfl ?_
  refine v_aload dX2_sense_8 rfl rfl ?_
  refine v_ifnull dX2_sense_10 rfl ?_
  refine v_iload_n dX2_sense_13 rfl rfl ?_
  refine v_iconst (v := nI 2) dX2_sense_14 (by decide) rfl ?_
  refine v_csf dX2_sense_15 cw_X2_49 ts_X2_isBelow ((c_isBelow G hp (nI w) 2).yes (inR_nI hw (by decide))) (by rfl) (by rfl) (Nat.le_of_ble_eq_true rfl) (Nat.le_of_ble_eq_true rfl) (Nat.le_of_ble_eq_true rfl) (Nat.le_of_ble_eq_true rfl) (Nat.le_of_ble_eq_true rfl) rfl ?_
  refine v_if_ne (tgt := 24) dX2_sense_18 (by decide) rfl (fun _ => ?_) (fun q => absurd q (by decide))
  refine v_iload_n dX2_sense_24 rfl rfl ?_
  refine v_if_neN (tgt := 36) dX2_sense_25 (by decide) rfl (by omega) (fun c25 => ?_) (fun c25 => ?_)
  · refine v_aload dX2_sense_36 rfl rfl ?_
    refine v_cvf dX2_sense_38 cw_X2_82 ⟨tn_X0_overlaps, tl_X0_overlaps⟩ rfl (by first | assumption | exact set_get (by assumption) | exact set_get (set_get (by assumption))) (c_overlaps G hp hL) (by rfl) (by rfl) (Nat.le_of_ble_eq_true rfl) (Nat.le_of_ble_eq_true rfl) (Nat.le_of_ble_eq_true rfl) (Nat.le_of_ble_eq_true rfl) (Nat.le_of_ble_eq_true rfl) rfl ?_
    exact v_iret dX2_sense_41 rfl ⟨Nat.le_of_ble_eq_true rfl, Nat.le_of_ble_eq_true rfl⟩ (⟨by first | (rw [snI, if_pos ‹_›]; done) | (rw [snI, if_neg ‹_›]; done), rfl⟩)
  · refine v_aload dX2_sense_28 rfl rfl ?_
    refine v_cvf dX2_sense_30 cw_X2_79 ⟨tn_X0_gaps, tl_X0_gaps⟩ rfl (by first | assumption | exact set_get (by assumption) | exact set_get (set_get (by assumption))) (c_gaps G hp hL) (by rfl) (by rfl) (Nat.le_of_ble_eq_true rfl) (Nat.le_of_ble_eq_true rfl) (Nat.le_of_ble_eq_true rfl) (Nat.le_of_ble_eq_true rfl) (Nat.le_of_ble_eq_true rfl) rfl ?_
    refine v_goto (tgt := 41) dX2_sense_33 (by decide) ?_
    exact v_iret dX2_sense_41 rfl ⟨Nat.le_of_ble_eq_true rfl, Nat.le_of_ble_eq_true rfl⟩ (⟨by first | (rw [snI, if_pos ‹_›]; done) | (rw [snI, if_neg ‹_›]; done), rfl⟩)
theorem x_sense_n (hX : PX G s x hp) {y z w : Int32} (h : ¬ ((InR y 2 ∧ InR z 4) ∧ InR w 2)) : Ct G mX2_sense 3 0 0 [.ref (G.2.2.2 + 0), .int y, .int z, .int w] hp (Qf (some (.int (-100))) hp) := by
  have h0 := hX.1
  refine Ct.start 1 (by decide) rfl (Nat.le_of_ble_eq_true rfl) ?_
  refine v_aload_n dX2_sense_0 rfl rfl ?_
  refine v_iload_n dX2_sense_1 rfl rfl ?_
  refine v_iload_n dX2_sense_2 rfl rfl ?_
  by_cases q3 : InR y 2 ∧ InR z 4
  · obtain ⟨⟨a, ha, rfl⟩, ⟨b, hb, rfl⟩⟩ := inR2 (by decide) (by decide) q3
    refine v_cvf dX2_sense_3 cw_X2_45 ⟨tn_X2_lineAt, tl_X2_lineAt⟩ rfl (by first | assumption | exact set_get (by assumption) | exact set_get (set_get (by assumption))) (c_lineAt G hp hX ha hb) (by rfl) (by rfl) (Nat.le_of_ble_eq_true rfl) (Nat.le_of_ble_eq_true rfl) (Nat.le_of_ble_eq_true rfl) (Nat.le_of_ble_eq_true rfl) (Nat.le_of_ble_eq_true rfl) rfl ?_
    refine v_astore dX2_sense_6 (Nat.le_of_ble_eq_true rfl) rfl ?_
    refine v_aload dX2_sense_8 rfl rfl ?_
    refine v_ifnull dX2_sense_10 rfl ?_
    refine v_iload_n dX2_sense_13 rfl rfl ?_
    refine v_iconst (v := nI 2) dX2_sense_14 (by decide) rfl ?_
    by_cases q15 : InR w 2
    · refine v_csf dX2_sense_15 cw_X2_49 ts_X2_isBelow ((c_isBelow G hp w 2).yes ‹_›) (by rfl) (by rfl) (Nat.le_of_ble_eq_true rfl) (Nat.le_of_ble_eq_true rfl) (Nat.le_of_ble_eq_true rfl) (Nat.le_of_ble_eq_true rfl) (Nat.le_of_ble_eq_true rfl) rfl ?_
      refine v_if_ne (tgt := 24) dX2_sense_18 (by decide) rfl (fun _ => ?_) (fun q => absurd q (by decide))
      exact absurd ⟨q3, q15⟩ h
    · refine v_csf dX2_sense_15 cw_X2_49 ts_X2_isBelow ((c_isBelow G hp w 2).no ‹_›) (by rfl) (by rfl) (Nat.le_of_ble_eq_true rfl) (Nat.le_of_ble_eq_true rfl) (Nat.le_of_ble_eq_true rfl) (Nat.le_of_ble_eq_true rfl) (Nat.le_of_ble_eq_true rfl) rfl ?_
      refine v_if_ne (tgt := 24) dX2_sense_18 (by decide) rfl (fun q => absurd (by decide) q) (fun _ => ?_)
      refine v_bipush (v := (-100)) dX2_sense_21 (by decide) rfl ?_
      exact v_iret dX2_sense_23 rfl ⟨Nat.le_of_ble_eq_true rfl, Nat.le_of_ble_eq_true rfl⟩ (⟨rfl, rfl⟩)
  · refine v_cvf dX2_sense_3 cw_X2_45 ⟨tn_X2_lineAt, tl_X2_lineAt⟩ rfl (by first | assumption | exact set_get (by assumption) | exact set_get (set_get (by assumption))) (c_lineAt_no G hp q3) (by rfl) (by rfl) (Nat.le_of_ble_eq_true rfl) (Nat.le_of_ble_eq_true rfl) (Nat.le_of_ble_eq_true rfl) (Nat.le_of_ble_eq_true rfl) (Nat.le_of_ble_eq_true rfl) rfl ?_
    refine v_astoreN dX2_sense_6 (Nat.le_of_ble_eq_true rfl) rfl ?_
    refine v_aloadN dX2_sense_8 rfl rfl ?_
    refine v_ifnullN (tgt := 21) dX2_sense_10 (by decide) ?_
    refine v_bipush (v := (-100)) dX2_sense_21 (by decide) rfl ?_
    exact v_iret dX2_sense_23 rfl ⟨Nat.le_of_ble_eq_true rfl, Nat.le_of_ble_eq_true rfl⟩ (⟨rfl, rfl⟩)
theorem x_sensible_y (hX : PX G s x hp) {a b : Nat} (ha : a < 2) (hb : b < 4) : Ct G mX2_sensible 7 0 0 [.ref (G.2.2.2 + 0), .int (nI a), .int (nI b)] hp (Qf (some (.int (bP (senS s a b)))) hp) := by
  have h0 := hX.1
  have hj : a * 4 + b < 8 := by omega
  have hL := hX.2.2.2.2.2.2.2.2.2.1 (a * 4 + b) hj
  have l1 := hL.1
  refine Ct.start 1 (by decide) rfl (Nat.le_of_ble_eq_true rfl) ?_
  refine v_aload_n dX2_sensible_0 rfl rfl ?_
  refine v_iload_n dX2_sensible_1 rfl rfl ?_
  refine v_iload_n dX2_sensible_2 rfl rfl ?_
  refine v_cvf dX2_sensible_3 cw_X2_45 ⟨tn_X2_lineAt, tl_X2_lineAt⟩ rfl (by first | assumption | exact set_get (by assumption) | exact set_get (set_get (by assumption))) (c_lineAt G hp hX ha hb) (by rfl) (by rfl) (Nat.le_of_ble_eq_true rfl) (Nat.le_of_ble_eq_true rfl) (Nat.le_of_ble_eq_true rfl) (Nat.le_of_ble_eq_true rfl) (Nat.le_of_ble_eq_true rfl) rfl ?_
  refine v_astore_n dX2_sensible_6 (Nat.le_of_ble_eq_true rfl) rfl ?_
  refine v_aload_n dX2_sensible_7 rfl rfl ?_
  refine v_ifnonnull (tgt := 14) dX2_sensible_8 (by decide) ?_
  refine v_aload_n dX2_sensible_14 rfl rfl ?_
  by_cases q15 : senS s a b
  · refine v_cvf dX2_sensible_15 cw_X2_85 ⟨tn_X0_isSensible, tl_X0_isSensible⟩ rfl (by first | assumption | exact set_get (by assumption) | exact set_get (set_get (by assumption))) ((c_lineSensible G hp hL).yes ‹_›) (by rfl) (by rfl) (Nat.le_of_ble_eq_true rfl) (Nat.le_of_ble_eq_true rfl) (Nat.le_of_ble_eq_true rfl) (Nat.le_of_ble_eq_true rfl) (Nat.le_of_ble_eq_true rfl) rfl ?_
    refine v_if_eq (tgt := 25) dX2_sensible_18 (by decide) rfl (fun q => absurd q (by decide)) (fun _ => ?_)
    refine v_iconst (v := nI 1) dX2_sensible_21 (by decide) rfl ?_
    refine v_goto (tgt := 26) dX2_sensible_22 (by decide) ?_
    exact v_iret dX2_sensible_26 rfl ⟨Nat.le_of_ble_eq_true rfl, Nat.le_of_ble_eq_true rfl⟩ (⟨by first | (rw [bP_t q15]; done) | (rw [bP_f q15]; done), rfl⟩)
  · refine v_cvf dX2_sensible_15 cw_X2_85 ⟨tn_X0_isSensible, tl_X0_isSensible⟩ rfl (by first | assumption | exact set_get (by assumption) | exact set_get (set_get (by assumption))) ((c_lineSensible G hp hL).no ‹_›) (by rfl) (by rfl) (Nat.le_of_ble_eq_true rfl) (Nat.le_of_ble_eq_true rfl) (Nat.le_of_ble_eq_true rfl) (Nat.le_of_ble_eq_true rfl) (Nat.le_of_ble_eq_true rfl) rfl ?_
    refine v_if_eq (tgt := 25) dX2_sensible_18 (by decide) rfl (fun _ => ?_) (fun q => absurd (by decide) q)
    refine v_iconst (v := nI 0) dX2_sensible_25 (by decide) rfl ?_
    exact v_iret dX2_sensible_26 rfl ⟨Nat.le_of_ble_eq_true rfl, Nat.le_of_ble_eq_true rfl⟩ (⟨by first | (rw [bP_t q15]; done) | (rw [bP_f q15]; done), rfl⟩)
theorem x_sensible_n (hX : PX G s x hp) {y z : Int32} (h : ¬ (InR y 2 ∧ InR z 4)) : Ct G mX2_sensible 7 0 0 [.ref (G.2.2.2 + 0), .int y, .int z] hp (Qf (some (.int (-100))) hp) := by
  have h0 := hX.1
  refine Ct.start 1 (by decide) rfl (Nat.le_of_ble_eq_true rfl) ?_
  refine v_aload_n dX2_sensible_0 rfl rfl ?_
  refine v_iload_n dX2_sensible_1 rfl rfl ?_
  refine v_iload_n dX2_sensible_2 rfl rfl ?_
  refine v_cvf dX2_sensible_3 cw_X2_45 ⟨tn_X2_lineAt, tl_X2_lineAt⟩ rfl (by first | assumption | exact set_get (by assumption) | exact set_get (set_get (by assumption))) (c_lineAt_no G hp h) (by rfl) (by rfl) (Nat.le_of_ble_eq_true rfl) (Nat.le_of_ble_eq_true rfl) (Nat.le_of_ble_eq_true rfl) (Nat.le_of_ble_eq_true rfl) (Nat.le_of_ble_eq_true rfl) rfl ?_
  refine v_astore_nN dX2_sensible_6 (Nat.le_of_ble_eq_true rfl) rfl ?_
  refine v_aload_nN dX2_sensible_7 rfl rfl ?_
  refine v_ifnonnullN dX2_sensible_8 rfl ?_
  refine v_bipush (v := (-100)) dX2_sensible_11 (by decide) rfl ?_
  exact v_iret dX2_sensible_13 rfl ⟨Nat.le_of_ble_eq_true rfl, Nat.le_of_ble_eq_true rfl⟩ (⟨rfl, rfl⟩)
end FACE1
end
section
-- LOOK: by first | assumption | exact set_get (by assumption) | exact set_get (set_get (by assumption))
/-! THE CLASS'S FACE: works, marks, anchors, drift, counts -/
def setWf (s : ST) (w i : Nat) (v : Int32) : ST := (s.1, s.2.1, s.2.2.1, s.2.2.2.1, s.2.2.2.2.1, s.2.2.2.2.2.1, updF s.2.2.2.2.2.2.1 w (upd (s.2.2.2.2.2.2.1 w) i v), s.2.2.2.2.2.2.2)
def setMr (s : ST) (w m : Nat) (v : Int32) : ST := (s.1, s.2.1, s.2.2.1, s.2.2.2.1, s.2.2.2.2.1, s.2.2.2.2.2.1, s.2.2.2.2.2.2.1, updF s.2.2.2.2.2.2.2.1 w (upd (s.2.2.2.2.2.2.2.1 w) m v), s.2.2.2.2.2.2.2.2)
def setTr (s : ST) (w : Nat) (v : Int32) : ST := (s.1, s.2.1, s.2.2.1, s.2.2.2.1, s.2.2.2.2.1, s.2.2.2.2.2.1, s.2.2.2.2.2.2.1, s.2.2.2.2.2.2.2.1, upd s.2.2.2.2.2.2.2.2.1 w v, s.2.2.2.2.2.2.2.2.2)
section PXW
variable {G : GG} {hp : List va_E} {s : ST} {x : XT}
theorem PX.setWf (hX : PX G s x hp) {w : Nat} (hw : w < s.n) (i : Nat) (v : Int32) : PX G (setWf s w i v) x (hp.set (42 + 3 * w + 1) (aI G 4 (upd (s.wf w) i v))) := by
  obtain ⟨h0, h1, hgl, h2, hgw, h3, h4, h5, h6, hln, hwk, hn, hlen⟩ := hX
  refine ⟨(set_ne (by omega)).trans h0, (set_ne (by omega)).trans h1, hgl, (set_ne (by omega)).trans h2, hgw, (set_ne (by omega)).trans h3, (set_ne (by omega)).trans h4, (set_ne (by omega)).trans h5, (set_ne (by omega)).trans h6, fun j hj => (hln j hj).frame (fun i q1 q2 => set_ne (by have := la_in x.1 hj; omega)), fun q hq => ?_, hn, by rw [List.length_set]; exact hlen⟩
  by_cases e : q = w
  · subst e
    obtain ⟨l1, l2, l3⟩ := hwk q hw
    show WK G _ _ (updF s.wf q (upd (s.wf q) i v) q) (s.mr q) (s.tr q)
    rw [updF_s]
    exact ⟨(set_ne (by omega)).trans l1, set_get l2, (set_ne (by omega)).trans l3⟩
  · show WK G _ _ (updF s.wf w (upd (s.wf w) i v) q) (s.mr q) (s.tr q)
    rw [updF_n e]
    exact (hwk q hq).frame (fun i q1 q2 => set_ne (by omega))
theorem PX.setMr (hX : PX G s x hp) {w : Nat} (hw : w < s.n) (i : Nat) (v : Int32) : PX G (setMr s w i v) x (hp.set (42 + 3 * w + 2) (aI G 3 (upd (s.mr w) i v))) := by
  obtain ⟨h0, h1, hgl, h2, hgw, h3, h4, h5, h6, hln, hwk, hn, hlen⟩ := hX
  refine ⟨(set_ne (by omega)).trans h0, (set_ne (by omega)).trans h1, hgl, (set_ne (by omega)).trans h2, hgw, (set_ne (by omega)).trans h3, (set_ne (by omega)).trans h4, (set_ne (by omega)).trans h5, (set_ne (by omega)).trans h6, fun j hj => (hln j hj).frame (fun i q1 q2 => set_ne (by have := la_in x.1 hj; omega)), fun q hq => ?_, hn, by rw [List.length_set]; exact hlen⟩
  by_cases e : q = w
  · subst e
    obtain ⟨l1, l2, l3⟩ := hwk q hw
    show WK G _ _ (s.wf q) (updF s.mr q (upd (s.mr q) i v) q) (s.tr q)
    rw [updF_s]
    exact ⟨(set_ne (by omega)).trans l1, (set_ne (by omega)).trans l2, set_get l3⟩
  · show WK G _ _ (s.wf q) (updF s.mr w (upd (s.mr w) i v) q) (s.tr q)
    rw [updF_n e]
    exact (hwk q hq).frame (fun i q1 q2 => set_ne (by omega))
theorem PX.setTr (hX : PX G s x hp) {w : Nat} (hw : w < s.n) (v : Int32) : PX G (setTr s w v) x (hp.set (42 + 3 * w) (ob 1 [.ref (G.2.2.2 + (42 + 3 * w + 1)), .ref (G.2.2.2 + (42 + 3 * w + 2)), .int v])) := by
  obtain ⟨h0, h1, hgl, h2, hgw, h3, h4, h5, h6, hln, hwk, hn, hlen⟩ := hX
  refine ⟨(set_ne (by omega)).trans h0, (set_ne (by omega)).trans h1, hgl, (set_ne (by omega)).trans h2, hgw, (set_ne (by omega)).trans h3, (set_ne (by omega)).trans h4, (set_ne (by omega)).trans h5, (set_ne (by omega)).trans h6, fun j hj => (hln j hj).frame (fun i q1 q2 => set_ne (by have := la_in x.1 hj; omega)), fun q hq => ?_, hn, by rw [List.length_set]; exact hlen⟩
  by_cases e : q = w
  · subst e
    obtain ⟨l1, l2, l3⟩ := hwk q hw
    show WK G _ _ (s.wf q) (s.mr q) (upd s.tr q v q)
    rw [upd_s]
    exact ⟨set_get l1, (set_ne (by omega)).trans l2, (set_ne (by omega)).trans l3⟩
  · show WK G _ _ (s.wf q) (s.mr q) (upd s.tr w v q)
    rw [upd_n e]
    exact (hwk q hq).frame (fun i q1 q2 => set_ne (by omega))
end PXW
theorem cnt_mono {p q : Nat → Prop} : ∀ n, (∀ i, i < n → p i → q i) → cnt p n ≤ cnt q n
  | 0, _ => Nat.le_refl _
  | n + 1, h => by
    have ih := cnt_mono n (fun i hi => h i (by omega))
    by_cases hp : p n
    · rw [cnt_t hp, cnt_t (h n (by omega) hp)]; omega
    · rw [cnt_f hp]
      by_cases hq : q n
      · rw [cnt_t hq]; omega
      · rw [cnt_f hq]; exact ih
theorem cnt_congr {p q : Nat → Prop} (n : Nat) (h : ∀ i, i < n → (p i ↔ q i)) : cnt p n = cnt q n := Nat.le_antisymm (cnt_mono n (fun i hi => (h i hi).mp)) (cnt_mono n (fun i hi => (h i hi).mpr))
theorem gav_sum (s : ST) (a b : Nat) : ∀ n, cnt (gavP s a b 0) n + cnt (gavP s a b 1) n + cnt (gavP s a b 2) n + cnt (gavP s a b 3) n ≤ cnt (bothP s a b) n
  | 0 => Nat.le_refl _
  | n + 1 => by
    have ih := gav_sum s a b n
    have no : ∀ v, ¬ s.mr n a = nI v → cnt (gavP s a b v) (n + 1) = cnt (gavP s a b v) n := fun v h => cnt_f (fun q => h q.2)
    have le : ∀ v, cnt (gavP s a b v) (n + 1) ≤ cnt (gavP s a b v) n + 1 := fun v => by
      by_cases h : gavP s a b v n
      · rw [cnt_t h]; omega
      · rw [cnt_f h]; omega
    by_cases hb : bothP s a b n
    · rw [cnt_t hb]
      by_cases e0 : s.mr n a = nI 0
      · rw [no 1 (by rw [e0]; decide), no 2 (by rw [e0]; decide), no 3 (by rw [e0]; decide)]
        have := le 0
        omega
      · by_cases e1 : s.mr n a = nI 1
        · rw [no 0 e0, no 2 (by rw [e1]; decide), no 3 (by rw [e1]; decide)]
          have := le 1
          omega
        · by_cases e2 : s.mr n a = nI 2
          · rw [no 0 e0, no 1 e1, no 3 (by rw [e2]; decide)]
            have := le 2
            omega
          · rw [no 0 e0, no 1 e1, no 2 e2]
            have := le 3
            omega
    · rw [cnt_f hb, cnt_f (fun q : gavP s a b 0 n => hb q.1), cnt_f (fun q : gavP s a b 1 n => hb q.1), cnt_f (fun q : gavP s a b 2 n => hb q.1), cnt_f (fun q : gavP s a b 3 n => hb q.1)]
      exact ih
theorem chN_le (s : ST) (a b : Nat) : chN s a b 4 ≤ cnt (bothP s a b) s.n * cnt (bothP s a b) s.n := by
  have h1 := gav_sum s a b s.n
  have hle : ∀ v, cnt (gavP s b a v) s.n ≤ cnt (bothP s a b) s.n := fun v => cnt_mono _ (fun i _ q => ⟨q.1.2, q.1.1⟩)
  have m : ∀ v, cnt (gavP s a b v) s.n * cnt (gavP s b a v) s.n ≤ cnt (gavP s a b v) s.n * cnt (bothP s a b) s.n := fun v => Nat.mul_le_mul_left _ (hle v)
  have h2 := Nat.mul_le_mul_right (cnt (bothP s a b) s.n) h1
  rw [Nat.add_mul, Nat.add_mul, Nat.add_mul] at h2
  have m0 := m 0
  have m1 := m 1
  have m2 := m 2
  have m3 := m 3
  simp only [chN]
  omega
noncomputable def lkI (s : ST) (a b p : Nat) : Int32 := if p = 2 then nI (cnt (bothP s a b) s.n) else ratI (nI (cnt (alkP s a b) s.n * cnt (bothP s a b) s.n) - nI (chN s a b 4)) (cnt (bothP s a b) s.n * cnt (bothP s a b) s.n - chN s a b 4) (nI p)
/-- the widest so far, and whose -/
noncomputable def prtS (s : ST) (a b : Nat) : Nat → Int32 × Int32
  | 0 => (nI 0, -900)
  | w + 1 => @ite _ (bothP s a b w ∧ ¬ absI (s.mr w a - s.mr w b) ≤ (prtS s a b w).1) (Classical.propDecidable _) (absI (s.mr w a - s.mr w b), nI w) (prtS s a b w)
theorem prtS_t {s : ST} {a b w : Nat} (h : bothP s a b w ∧ ¬ absI (s.mr w a - s.mr w b) ≤ (prtS s a b w).1) : prtS s a b (w + 1) = (absI (s.mr w a - s.mr w b), nI w) := if_pos h
theorem prtS_f {s : ST} {a b w : Nat} (h : ¬ (bothP s a b w ∧ ¬ absI (s.mr w a - s.mr w b) ≤ (prtS s a b w).1)) : prtS s a b (w + 1) = prtS s a b w := if_neg h
noncomputable def ofI (s : ST) (m p : Nat) : Int32 := if p = 2 then nI (cnt (offP s m) s.n) else ratI (offS s m s.n) (cnt (offP s m) s.n) (nI p)
def faI (mark : Int32) (A : Nat) (S : Int32) : Int32 :=
  if (if nI 3 ≤ fdI (nI 2 * (mark * nI A - S) + nI A) (nI (2 * A)) then nI 3 else fdI (nI 2 * (mark * nI A - S) + nI A) (nI (2 * A))) ≤ nI 0 then nI 0 else (if nI 3 ≤ fdI (nI 2 * (mark * nI A - S) + nI A) (nI (2 * A)) then nI 3 else fdI (nI 2 * (mark * nI A - S) + nI A) (nI (2 * A)))
noncomputable def frI (s : ST) (m w : Nat) : Int32 := @ite _ (mkdP s m w ∧ 0 < cnt (offP s m) s.n) (Classical.propDecidable _) (faI (s.mr w m) (cnt (offP s m) s.n) (offS s m s.n)) (-200)
theorem frI_t {s : ST} {m w : Nat} (h : mkdP s m w ∧ 0 < cnt (offP s m) s.n) : frI s m w = faI (s.mr w m) (cnt (offP s m) s.n) (offS s m s.n) := if_pos h
theorem frI_f {s : ST} {m w : Nat} (h : ¬ (mkdP s m w ∧ 0 < cnt (offP s m) s.n)) : frI s m w = -200 := if_neg h
noncomputable def pL (s : ST) (m : Nat) : Nat → Int32 := fun j => (pilL s m s.n).getD j 0
noncomputable def pN (s : ST) (m : Nat) : Nat := (pilL s m s.n).length
noncomputable def dfI (s : ST) (m w : Nat) : Int32 := if w = 2 then nI (pN s m) else if w = 0 then drI (pL s m) (pN s m) else coI (pN s m) (unI (pL s m) (pN s m)) (drI (pL s m) (pN s m))
theorem unI_congr {p q : Nat → Int32} {z : Nat} (h : ∀ j, j < z → p j = q j) (v : Nat) : unI p z v = unI q z v := by
  unfold unI
  rw [cnt_congr z (fun i hi => by rw [h i hi])]
noncomputable def ctI (s : ST) (w : Nat) : Int32 := if w = 0 then nI s.n else if w = 1 then nI (cnt (ancP s) s.n) else if w = 2 then nI (mksN s s.n) else if w = 3 then nI (cnt (senS s 0) 4) else nI (cnt (senS s 1) 4)
section FACE2
variable (G : GG) (hp : List va_E) {s : ST} {x : XT}
theorem x_fact_y (hX : PX G s x hp) {w i : Nat} (hw : w < s.n) (hi : i < 4) {v : Int32} (hv : InR v 10) : Ct G mX2_fact 2 0 0 [.ref (G.2.2.2 + 0), .int (nI w), .int (nI i), .int v] hp (QX G hp (s.wf w i) (setWf s w i v)) := by
  have h0 := hX.1
  have hn := hX.2.2.2.2.2.2.2.2.2.2.2.1
  obtain ⟨l1, l2, l3⟩ := hX.2.2.2.2.2.2.2.2.2.2.1 w hw
  refine Ct.start 2 (by decide) rfl (Nat.le_of_ble_eq_true rfl) ?_
  refine v_aload_n dX2_fact_0 rfl rfl ?_
  refine v_iload_n dX2_fact_1 rfl rfl ?_
  refine v_cvf dX2_fact_2 cw_X2_92 ⟨tn_X2_workAt, tl_X2_workAt⟩ rfl (by first | assumption | exact set_get (by assumption) | exact set_get (set_get (by assumption))) (c_workAt G hp hX hw) (by rfl) (by rfl) (Nat.le_of_ble_eq_true rfl) (Nat.le_of_ble_eq_true rfl) (Nat.le_of_ble_eq_true rfl) (Nat.le_of_ble_eq_true rfl) (Nat.le_of_ble_eq_true rfl) rfl ?_
  refine v_astore dX2_fact_5 (Nat.le_of_ble_eq_true rfl) rfl ?_
  refine v_aload dX2_fact_7 rfl rfl ?_
  refine v_ifnull dX2_fact_9 rfl ?_
  refine v_iload_n dX2_fact_12 rfl rfl ?_
  refine v_iconst (v := nI 4) dX2_fact_13 (by decide) rfl ?_
  refine v_csf dX2_fact_14 cw_X2_49 ts_X2_isBelow ((c_isBelow G hp (nI i) 4).yes (inR_nI hi (by decide))) (by rfl) (by rfl) (Nat.le_of_ble_eq_true rfl) (Nat.le_of_ble_eq_true rfl) (Nat.le_of_ble_eq_true rfl) (Nat.le_of_ble_eq_true rfl) (Nat.le_of_ble_eq_true rfl) rfl ?_
  refine v_if_eq (tgt := 29) dX2_fact_17 (by decide) rfl (fun q => absurd q (by decide)) (fun _ => ?_)
  refine v_iload_n dX2_fact_20 rfl rfl ?_
  refine v_bipush (v := nI 9) dX2_fact_21 (by decide) rfl ?_
  refine v_csf dX2_fact_23 cw_X2_53 ts_X2_isUpTo ((c_isUpTo G hp v 9 (by decide)).yes hv) (by rfl) (by rfl) (Nat.le_of_ble_eq_true rfl) (Nat.le_of_ble_eq_true rfl) (Nat.le_of_ble_eq_true rfl) (Nat.le_of_ble_eq_true rfl) (Nat.le_of_ble_eq_true rfl) rfl ?_
  refine v_if_ne (tgt := 32) dX2_fact_26 (by decide) rfl (fun _ => ?_) (fun q => absurd q (by decide))
  refine v_aload dX2_fact_32 rfl rfl ?_
  refine v_getf dX2_fact_34 fl_X2_96 (by first | assumption | exact set_get (by assumption) | exact set_get (set_get (by assumption))) (by rfl) rfl ?_
  refine v_iload_n dX2_fact_37 rfl rfl ?_
  refine v_iald _ dX2_fact_38 (by first | assumption | exact set_get (by assumption) | exact set_get (set_get (by assumption))) rfl (by omega) (by decide) rfl ?_
  refine v_istore dX2_fact_39 (Nat.le_of_ble_eq_true rfl) rfl ?_
  refine v_aload dX2_fact_41 rfl rfl ?_
  refine v_getf dX2_fact_43 fl_X2_96 (by first | assumption | exact set_get (by assumption) | exact set_get (set_get (by assumption))) (by rfl) rfl ?_
  refine v_iload_n dX2_fact_46 rfl rfl ?_
  refine v_iload_n dX2_fact_47 rfl rfl ?_
  refine v_iast _ dX2_fact_48 (by first | assumption | exact set_get (by assumption) | exact set_get (set_get (by assumption))) rfl (by omega) (by decide) rfl ?_
  refine v_iload dX2_fact_49 rfl rfl ?_
  exact v_iret dX2_fact_51 rfl ⟨Nat.le_of_ble_eq_true rfl, Nat.le_of_ble_eq_true rfl⟩ (⟨rfl, ⟨x, hX.setWf hw i v⟩, FrX.rf.set (by omega)⟩)
theorem x_fact_n (hX : PX G s x hp) {y z v : Int32} (h : ¬ (InR y s.n ∧ InR z 4 ∧ InR v 10)) : Ct G mX2_fact 2 0 0 [.ref (G.2.2.2 + 0), .int y, .int z, .int v] hp (Qf (some (.int (-100))) hp) := by
  have h0 := hX.1
  have hn := hX.2.2.2.2.2.2.2.2.2.2.2.1
  refine Ct.start 2 (by decide) rfl (Nat.le_of_ble_eq_true rfl) ?_
  refine v_aload_n dX2_fact_0 rfl rfl ?_
  refine v_iload_n dX2_fact_1 rfl rfl ?_
  by_cases q2 : InR y s.n
  · obtain ⟨w, hw, rfl⟩ := inR_of (by omega) q2
    refine v_cvf dX2_fact_2 cw_X2_92 ⟨tn_X2_workAt, tl_X2_workAt⟩ rfl (by first | assumption | exact set_get (by assumption) | exact set_get (set_get (by assumption))) (c_workAt G hp hX hw) (by rfl) (by rfl) (Nat.le_of_ble_eq_true rfl) (Nat.le_of_ble_eq_true rfl) (Nat.le_of_ble_eq_true rfl) (Nat.le_of_ble_eq_true rfl) (Nat.le_of_ble_eq_true rfl) rfl ?_
    refine v_astore dX2_fact_5 (Nat.le_of_ble_eq_true rfl) rfl ?_
    refine v_aload dX2_fact_7 rfl rfl ?_
    refine v_ifnull dX2_fact_9 rfl ?_
    refine v_iload_n dX2_fact_12 rfl rfl ?_
    refine v_iconst (v := nI 4) dX2_fact_13 (by decide) rfl ?_
    by_cases q14 : InR z 4
    · refine v_csf dX2_fact_14 cw_X2_49 ts_X2_isBelow ((c_isBelow G hp z 4).yes ‹_›) (by rfl) (by rfl) (Nat.le_of_ble_eq_true rfl) (Nat.le_of_ble_eq_true rfl) (Nat.le_of_ble_eq_true rfl) (Nat.le_of_ble_eq_true rfl) (Nat.le_of_ble_eq_true rfl) rfl ?_
      refine v_if_eq (tgt := 29) dX2_fact_17 (by decide) rfl (fun q => absurd q (by decide)) (fun _ => ?_)
      refine v_iload_n dX2_fact_20 rfl rfl ?_
      refine v_bipush (v := nI 9) dX2_fact_21 (by decide) rfl ?_
      by_cases q23 : InR v 10
      · refine v_csf dX2_fact_23 cw_X2_53 ts_X2_isUpTo ((c_isUpTo G hp v 9 (by decide)).yes ‹_›) (by rfl) (by rfl) (Nat.le_of_ble_eq_true rfl) (Nat.le_of_ble_eq_true rfl) (Nat.le_of_ble_eq_true rfl) (Nat.le_of_ble_eq_true rfl) (Nat.le_of_ble_eq_true rfl) rfl ?_
        refine v_if_ne (tgt := 32) dX2_fact_26 (by decide) rfl (fun _ => ?_) (fun q => absurd q (by decide))
        exact absurd ⟨q2, q14, q23⟩ h
      · refine v_csf dX2_fact_23 cw_X2_53 ts_X2_isUpTo ((c_isUpTo G hp v 9 (by decide)).no ‹_›) (by rfl) (by rfl) (Nat.le_of_ble_eq_true rfl) (Nat.le_of_ble_eq_true rfl) (Nat.le_of_ble_eq_true rfl) (Nat.le_of_ble_eq_true rfl) (Nat.le_of_ble_eq_true rfl) rfl ?_
        refine v_if_ne (tgt := 32) dX2_fact_26 (by decide) rfl (fun q => absurd (by decide) q) (fun _ => ?_)
        refine v_bipush (v := (-100)) dX2_fact_29 (by decide) rfl ?_
        exact v_iret dX2_fact_31 rfl ⟨Nat.le_of_ble_eq_true rfl, Nat.le_of_ble_eq_true rfl⟩ (⟨rfl, rfl⟩)
    · refine v_csf dX2_fact_14 cw_X2_49 ts_X2_isBelow ((c_isBelow G hp z 4).no ‹_›) (by rfl) (by rfl) (Nat.le_of_ble_eq_true rfl) (Nat.le_of_ble_eq_true rfl) (Nat.le_of_ble_eq_true rfl) (Nat.le_of_ble_eq_true rfl) (Nat.le_of_ble_eq_true rfl) rfl ?_
      refine v_if_eq (tgt := 29) dX2_fact_17 (by decide) rfl (fun _ => ?_) (fun q => absurd (by decide) q)
      refine v_bipush (v := (-100)) dX2_fact_29 (by decide) rfl ?_
      exact v_iret dX2_fact_31 rfl ⟨Nat.le_of_ble_eq_true rfl, Nat.le_of_ble_eq_true rfl⟩ (⟨rfl, rfl⟩)
  · refine v_cvf dX2_fact_2 cw_X2_92 ⟨tn_X2_workAt, tl_X2_workAt⟩ rfl (by first | assumption | exact set_get (by assumption) | exact set_get (set_get (by assumption))) (c_workAt_no G hp hX q2) (by rfl) (by rfl) (Nat.le_of_ble_eq_true rfl) (Nat.le_of_ble_eq_true rfl) (Nat.le_of_ble_eq_true rfl) (Nat.le_of_ble_eq_true rfl) (Nat.le_of_ble_eq_true rfl) rfl ?_
    refine v_astoreN dX2_fact_5 (Nat.le_of_ble_eq_true rfl) rfl ?_
    refine v_aloadN dX2_fact_7 rfl rfl ?_
    refine v_ifnullN (tgt := 29) dX2_fact_9 (by decide) ?_
    refine v_bipush (v := (-100)) dX2_fact_29 (by decide) rfl ?_
    exact v_iret dX2_fact_31 rfl ⟨Nat.le_of_ble_eq_true rfl, Nat.le_of_ble_eq_true rfl⟩ (⟨rfl, rfl⟩)
theorem x_points_y (hX : PX G s x hp) (hI : Inv s) {a w : Nat} (ha : a < 2) (hw : w < s.n) : Ct G mX2_points 6 0 0 [.ref (G.2.2.2 + 0), .int (nI a), .int (nI w)] hp (Qf (some (.int (ptsI s a w 4))) hp) := by
  have h0 := hX.1
  refine Ct.start 1 (by decide) rfl (Nat.le_of_ble_eq_true rfl) ?_
  refine v_aload_n dX2_points_0 rfl rfl ?_
  refine v_iload_n dX2_points_1 rfl rfl ?_
  refine v_cvf dX2_points_2 cw_X2_92 ⟨tn_X2_workAt, tl_X2_workAt⟩ rfl (by first | assumption | exact set_get (by assumption) | exact set_get (set_get (by assumption))) (c_workAt G hp hX hw) (by rfl) (by rfl) (Nat.le_of_ble_eq_true rfl) (Nat.le_of_ble_eq_true rfl) (Nat.le_of_ble_eq_true rfl) (Nat.le_of_ble_eq_true rfl) (Nat.le_of_ble_eq_true rfl) rfl ?_
  refine v_astore_n dX2_points_5 (Nat.le_of_ble_eq_true rfl) rfl ?_
  refine v_aload_n dX2_points_6 rfl rfl ?_
  refine v_ifnull dX2_points_7 rfl ?_
  refine v_iload_n dX2_points_10 rfl rfl ?_
  refine v_iconst (v := nI 2) dX2_points_11 (by decide) rfl ?_
  refine v_csf dX2_points_12 cw_X2_49 ts_X2_isBelow ((c_isBelow G hp (nI a) 2).yes (inR_nI ha (by decide))) (by rfl) (by rfl) (Nat.le_of_ble_eq_true rfl) (Nat.le_of_ble_eq_true rfl) (Nat.le_of_ble_eq_true rfl) (Nat.le_of_ble_eq_true rfl) (Nat.le_of_ble_eq_true rfl) rfl ?_
  refine v_if_ne (tgt := 21) dX2_points_15 (by decide) rfl (fun _ => ?_) (fun q => absurd q (by decide))
  refine v_aload_n dX2_points_21 rfl rfl ?_
  refine v_iload_n dX2_points_22 rfl rfl ?_
  refine v_aload_n dX2_points_23 rfl rfl ?_
  refine v_cvf dX2_points_24 cw_X2_99 ⟨tn_X2_pointsBy, tl_X2_pointsBy⟩ rfl (by first | assumption | exact set_get (by assumption) | exact set_get (set_get (by assumption))) (c_pointsBy G hp hX hI ha hw) (by rfl) (by rfl) (Nat.le_of_ble_eq_true rfl) (Nat.le_of_ble_eq_true rfl) (Nat.le_of_ble_eq_true rfl) (Nat.le_of_ble_eq_true rfl) (Nat.le_of_ble_eq_true rfl) rfl ?_
  exact v_iret dX2_points_27 rfl ⟨Nat.le_of_ble_eq_true rfl, Nat.le_of_ble_eq_true rfl⟩ (⟨rfl, rfl⟩)
theorem x_points_n (hX : PX G s x hp) {y z : Int32} (h : ¬ (InR y 2 ∧ InR z s.n)) : Ct G mX2_points 6 0 0 [.ref (G.2.2.2 + 0), .int y, .int z] hp (Qf (some (.int (-100))) hp) := by
  have h0 := hX.1
  have hn := hX.2.2.2.2.2.2.2.2.2.2.2.1
  refine Ct.start 1 (by decide) rfl (Nat.le_of_ble_eq_true rfl) ?_
  refine v_aload_n dX2_points_0 rfl rfl ?_
  refine v_iload_n dX2_points_1 rfl rfl ?_
  by_cases q2 : InR z s.n
  · obtain ⟨w, hw, rfl⟩ := inR_of (by omega) q2
    refine v_cvf dX2_points_2 cw_X2_92 ⟨tn_X2_workAt, tl_X2_workAt⟩ rfl (by first | assumption | exact set_get (by assumption) | exact set_get (set_get (by assumption))) (c_workAt G hp hX hw) (by rfl) (by rfl) (Nat.le_of_ble_eq_true rfl) (Nat.le_of_ble_eq_true rfl) (Nat.le_of_ble_eq_true rfl) (Nat.le_of_ble_eq_true rfl) (Nat.le_of_ble_eq_true rfl) rfl ?_
    refine v_astore_n dX2_points_5 (Nat.le_of_ble_eq_true rfl) rfl ?_
    refine v_aload_n dX2_points_6 rfl rfl ?_
    refine v_ifnull dX2_points_7 rfl ?_
    refine v_iload_n dX2_points_10 rfl rfl ?_
    refine v_iconst (v := nI 2) dX2_points_11 (by decide) rfl ?_
    by_cases q12 : InR y 2
    · refine v_csf dX2_points_12 cw_X2_49 ts_X2_isBelow ((c_isBelow G hp y 2).yes ‹_›) (by rfl) (by rfl) (Nat.le_of_ble_eq_true rfl) (Nat.le_of_ble_eq_true rfl) (Nat.le_of_ble_eq_true rfl) (Nat.le_of_ble_eq_true rfl) (Nat.le_of_ble_eq_true rfl) rfl ?_
      refine v_if_ne (tgt := 21) dX2_points_15 (by decide) rfl (fun _ => ?_) (fun q => absurd q (by decide))
      exact absurd ⟨q12, q2⟩ h
    · refine v_csf dX2_points_12 cw_X2_49 ts_X2_isBelow ((c_isBelow G hp y 2).no ‹_›) (by rfl) (by rfl) (Nat.le_of_ble_eq_true rfl) (Nat.le_of_ble_eq_true rfl) (Nat.le_of_ble_eq_true rfl) (Nat.le_of_ble_eq_true rfl) (Nat.le_of_ble_eq_true rfl) rfl ?_
      refine v_if_ne (tgt := 21) dX2_points_15 (by decide) rfl (fun q => absurd (by decide) q) (fun _ => ?_)
      refine v_bipush (v := (-100)) dX2_points_18 (by decide) rfl ?_
      exact v_iret dX2_points_20 rfl ⟨Nat.le_of_ble_eq_true rfl, Nat.le_of_ble_eq_true rfl⟩ (⟨rfl, rfl⟩)
  · refine v_cvf dX2_points_2 cw_X2_92 ⟨tn_X2_workAt, tl_X2_workAt⟩ rfl (by first | assumption | exact set_get (by assumption) | exact set_get (set_get (by assumption))) (c_workAt_no G hp hX q2) (by rfl) (by rfl) (Nat.le_of_ble_eq_true rfl) (Nat.le_of_ble_eq_true rfl) (Nat.le_of_ble_eq_true rfl) (Nat.le_of_ble_eq_true rfl) (Nat.le_of_ble_eq_true rfl) rfl ?_
    refine v_astore_nN dX2_points_5 (Nat.le_of_ble_eq_true rfl) rfl ?_
    refine v_aload_nN dX2_points_6 rfl rfl ?_
    refine v_ifnullN (tgt := 18) dX2_points_7 (by decide) ?_
    refine v_bipush (v := (-100)) dX2_points_18 (by decide) rfl ?_
    exact v_iret dX2_points_20 rfl ⟨Nat.le_of_ble_eq_true rfl, Nat.le_of_ble_eq_true rfl⟩ (⟨rfl, rfl⟩)
theorem x_mark_y (hX : PX G s x hp) {m w : Nat} (hm : m < 3) (hw : w < s.n) {v : Int32} (hv : v = -900 ∨ InR v 4) : Ct G mX2_mark 2 0 0 [.ref (G.2.2.2 + 0), .int (nI m), .int (nI w), .int v] hp (QX G hp (s.mr w m) (setMr s w m v)) := by
  have h0 := hX.1
  have hn := hX.2.2.2.2.2.2.2.2.2.2.2.1
  obtain ⟨l1, l2, l3⟩ := hX.2.2.2.2.2.2.2.2.2.2.1 w hw
  refine Ct.start 2 (by decide) rfl (Nat.le_of_ble_eq_true rfl) ?_
  refine v_aload_n dX2_mark_0 rfl rfl ?_
  refine v_iload_n dX2_mark_1 rfl rfl ?_
  refine v_cvf dX2_mark_2 cw_X2_92 ⟨tn_X2_workAt, tl_X2_workAt⟩ rfl (by first | assumption | exact set_get (by assumption) | exact set_get (set_get (by assumption))) (c_workAt G hp hX hw) (by rfl) (by rfl) (Nat.le_of_ble_eq_true rfl) (Nat.le_of_ble_eq_true rfl) (Nat.le_of_ble_eq_true rfl) (Nat.le_of_ble_eq_true rfl) (Nat.le_of_ble_eq_true rfl) rfl ?_
  refine v_astore dX2_mark_5 (Nat.le_of_ble_eq_true rfl) rfl ?_
  refine v_aload dX2_mark_7 rfl rfl ?_
  refine v_ifnull dX2_mark_9 rfl ?_
  refine v_iload_n dX2_mark_12 rfl rfl ?_
  refine v_iconst (v := nI 3) dX2_mark_13 (by decide) rfl ?_
  refine v_csf dX2_mark_14 cw_X2_49 ts_X2_isBelow ((c_isBelow G hp (nI m) 3).yes (inR_nI hm (by decide))) (by rfl) (by rfl) (Nat.le_of_ble_eq_true rfl) (Nat.le_of_ble_eq_true rfl) (Nat.le_of_ble_eq_true rfl) (Nat.le_of_ble_eq_true rfl) (Nat.le_of_ble_eq_true rfl) rfl ?_
  refine v_if_eq (tgt := 27) dX2_mark_17 (by decide) rfl (fun q => absurd q (by decide)) (fun _ => ?_)
  refine v_iload_n dX2_mark_20 rfl rfl ?_
  refine v_csf dX2_mark_21 cw_X2_103 ts_X2_isMarkOrNone ((c_isMarkOrNone G hp v).yes hv) (by rfl) (by rfl) (Nat.le_of_ble_eq_true rfl) (Nat.le_of_ble_eq_true rfl) (Nat.le_of_ble_eq_true rfl) (Nat.le_of_ble_eq_true rfl) (Nat.le_of_ble_eq_true rfl) rfl ?_
  refine v_if_ne (tgt := 30) dX2_mark_24 (by decide) rfl (fun _ => ?_) (fun q => absurd q (by decide))
  refine v_aload dX2_mark_30 rfl rfl ?_
  refine v_getf dX2_mark_32 fl_X2_107 (by first | assumption | exact set_get (by assumption) | exact set_get (set_get (by assumption))) (by rfl) rfl ?_
  refine v_iload_n dX2_mark_35 rfl rfl ?_
  refine v_iald _ dX2_mark_36 (by first | assumption | exact set_get (by assumption) | exact set_get (set_get (by assumption))) rfl (by omega) (by decide) rfl ?_
  refine v_istore dX2_mark_37 (Nat.le_of_ble_eq_true rfl) rfl ?_
  refine v_aload dX2_mark_39 rfl rfl ?_
  refine v_getf dX2_mark_41 fl_X2_107 (by first | assumption | exact set_get (by assumption) | exact set_get (set_get (by assumption))) (by rfl) rfl ?_
  refine v_iload_n dX2_mark_44 rfl rfl ?_
  refine v_iload_n dX2_mark_45 rfl rfl ?_
  refine v_iast _ dX2_mark_46 (by first | assumption | exact set_get (by assumption) | exact set_get (set_get (by assumption))) rfl (by omega) (by decide) rfl ?_
  refine v_iload dX2_mark_47 rfl rfl ?_
  exact v_iret dX2_mark_49 rfl ⟨Nat.le_of_ble_eq_true rfl, Nat.le_of_ble_eq_true rfl⟩ (⟨rfl, ⟨x, hX.setMr hw m v⟩, FrX.rf.set (by omega)⟩)
theorem x_mark_n (hX : PX G s x hp) {y z v : Int32} (h : ¬ (InR y 3 ∧ InR z s.n ∧ (v = -900 ∨ InR v 4))) : Ct G mX2_mark 2 0 0 [.ref (G.2.2.2 + 0), .int y, .int z, .int v] hp (Qf (some (.int (-100))) hp) := by
  have h0 := hX.1
  have hn := hX.2.2.2.2.2.2.2.2.2.2.2.1
  refine Ct.start 2 (by decide) rfl (Nat.le_of_ble_eq_true rfl) ?_
  refine v_aload_n dX2_mark_0 rfl rfl ?_
  refine v_iload_n dX2_mark_1 rfl rfl ?_
  by_cases q2 : InR z s.n
  · obtain ⟨w, hw, rfl⟩ := inR_of (by omega) q2
    refine v_cvf dX2_mark_2 cw_X2_92 ⟨tn_X2_workAt, tl_X2_workAt⟩ rfl (by first | assumption | exact set_get (by assumption) | exact set_get (set_get (by assumption))) (c_workAt G hp hX hw) (by rfl) (by rfl) (Nat.le_of_ble_eq_true rfl) (Nat.le_of_ble_eq_true rfl) (Nat.le_of_ble_eq_true rfl) (Nat.le_of_ble_eq_true rfl) (Nat.le_of_ble_eq_true rfl) rfl ?_
    refine v_astore dX2_mark_5 (Nat.le_of_ble_eq_true rfl) rfl ?_
    refine v_aload dX2_mark_7 rfl rfl ?_
    refine v_ifnull dX2_mark_9 rfl ?_
    refine v_iload_n dX2_mark_12 rfl rfl ?_
    refine v_iconst (v := nI 3) dX2_mark_13 (by decide) rfl ?_
    by_cases q14 : InR y 3
    · refine v_csf dX2_mark_14 cw_X2_49 ts_X2_isBelow ((c_isBelow G hp y 3).yes ‹_›) (by rfl) (by rfl) (Nat.le_of_ble_eq_true rfl) (Nat.le_of_ble_eq_true rfl) (Nat.le_of_ble_eq_true rfl) (Nat.le_of_ble_eq_true rfl) (Nat.le_of_ble_eq_true rfl) rfl ?_
      refine v_if_eq (tgt := 27) dX2_mark_17 (by decide) rfl (fun q => absurd q (by decide)) (fun _ => ?_)
      refine v_iload_n dX2_mark_20 rfl rfl ?_
      by_cases q21 : v = -900 ∨ InR v 4
      · refine v_csf dX2_mark_21 cw_X2_103 ts_X2_isMarkOrNone ((c_isMarkOrNone G hp v).yes ‹_›) (by rfl) (by rfl) (Nat.le_of_ble_eq_true rfl) (Nat.le_of_ble_eq_true rfl) (Nat.le_of_ble_eq_true rfl) (Nat.le_of_ble_eq_true rfl) (Nat.le_of_ble_eq_true rfl) rfl ?_
        refine v_if_ne (tgt := 30) dX2_mark_24 (by decide) rfl (fun _ => ?_) (fun q => absurd q (by decide))
        exact absurd ⟨q14, q2, q21⟩ h
      · refine v_csf dX2_mark_21 cw_X2_103 ts_X2_isMarkOrNone ((c_isMarkOrNone G hp v).no ‹_›) (by rfl) (by rfl) (Nat.le_of_ble_eq_true rfl) (Nat.le_of_ble_eq_true rfl) (Nat.le_of_ble_eq_true rfl) (Nat.le_of_ble_eq_true rfl) (Nat.le_of_ble_eq_true rfl) rfl ?_
        refine v_if_ne (tgt := 30) dX2_mark_24 (by decide) rfl (fun q => absurd (by decide) q) (fun _ => ?_)
        refine v_bipush (v := (-100)) dX2_mark_27 (by decide) rfl ?_
        exact v_iret dX2_mark_29 rfl ⟨Nat.le_of_ble_eq_true rfl, Nat.le_of_ble_eq_true rfl⟩ (⟨rfl, rfl⟩)
    · refine v_csf dX2_mark_14 cw_X2_49 ts_X2_isBelow ((c_isBelow G hp y 3).no ‹_›) (by rfl) (by rfl) (Nat.le_of_ble_eq_true rfl) (Nat.le_of_ble_eq_true rfl) (Nat.le_of_ble_eq_true rfl) (Nat.le_of_ble_eq_true rfl) (Nat.le_of_ble_eq_true rfl) rfl ?_
      refine v_if_eq (tgt := 27) dX2_mark_17 (by decide) rfl (fun _ => ?_) (fun q => absurd (by decide) q)
      refine v_bipush (v := (-100)) dX2_mark_27 (by decide) rfl ?_
      exact v_iret dX2_mark_29 rfl ⟨Nat.le_of_ble_eq_true rfl, Nat.le_of_ble_eq_true rfl⟩ (⟨rfl, rfl⟩)
  · refine v_cvf dX2_mark_2 cw_X2_92 ⟨tn_X2_workAt, tl_X2_workAt⟩ rfl (by first | assumption | exact set_get (by assumption) | exact set_get (set_get (by assumption))) (c_workAt_no G hp hX q2) (by rfl) (by rfl) (Nat.le_of_ble_eq_true rfl) (Nat.le_of_ble_eq_true rfl) (Nat.le_of_ble_eq_true rfl) (Nat.le_of_ble_eq_true rfl) (Nat.le_of_ble_eq_true rfl) rfl ?_
    refine v_astoreN dX2_mark_5 (Nat.le_of_ble_eq_true rfl) rfl ?_
    refine v_aloadN dX2_mark_7 rfl rfl ?_
    refine v_ifnullN (tgt := 27) dX2_mark_9 (by decide) ?_
    refine v_bipush (v := (-100)) dX2_mark_27 (by decide) rfl ?_
    exact v_iret dX2_mark_29 rfl ⟨Nat.le_of_ble_eq_true rfl, Nat.le_of_ble_eq_true rfl⟩ (⟨rfl, rfl⟩)
theorem x_given_y (hX : PX G s x hp) {m w : Nat} (hm : m < 3) (hw : w < s.n) : Ct G mX2_given 2 0 0 [.ref (G.2.2.2 + 0), .int (nI m), .int (nI w)] hp (Qf (some (.int (s.mr w m))) hp) := by
  have h0 := hX.1
  obtain ⟨l1, l2, l3⟩ := hX.2.2.2.2.2.2.2.2.2.2.1 w hw
  refine Ct.start 1 (by decide) rfl (Nat.le_of_ble_eq_true rfl) ?_
  refine v_aload_n dX2_given_0 rfl rfl ?_
  refine v_iload_n dX2_given_1 rfl rfl ?_
  refine v_cvf dX2_given_2 cw_X2_92 ⟨tn_X2_workAt, tl_X2_workAt⟩ rfl (by first | assumption | exact set_get (by assumption) | exact set_get (set_get (by assumption))) (c_workAt G hp hX hw) (by rfl) (by rfl) (Nat.le_of_ble_eq_true rfl) (Nat.le_of_ble_eq_true rfl) (Nat.le_of_ble_eq_true rfl) (Nat.le_of_ble_eq_true rfl) (Nat.le_of_ble_eq_true rfl) rfl ?_
  refine v_astore_n dX2_given_5 (Nat.le_of_ble_eq_true rfl) rfl ?_
  refine v_aload_n dX2_given_6 rfl rfl ?_
  refine v_ifnull dX2_given_7 rfl ?_
  refine v_iload_n dX2_given_10 rfl rfl ?_
  refine v_iconst (v := nI 3) dX2_given_11 (by decide) rfl ?_
  refine v_csf dX2_given_12 cw_X2_49 ts_X2_isBelow ((c_isBelow G hp (nI m) 3).yes (inR_nI hm (by decide))) (by rfl) (by rfl) (Nat.le_of_ble_eq_true rfl) (Nat.le_of_ble_eq_true rfl) (Nat.le_of_ble_eq_true rfl) (Nat.le_of_ble_eq_true rfl) (Nat.le_of_ble_eq_true rfl) rfl ?_
  refine v_if_ne (tgt := 21) dX2_given_15 (by decide) rfl (fun _ => ?_) (fun q => absurd q (by decide))
  refine v_aload_n dX2_given_21 rfl rfl ?_
  refine v_getf dX2_given_22 fl_X2_107 (by first | assumption | exact set_get (by assumption) | exact set_get (set_get (by assumption))) (by rfl) rfl ?_
  refine v_iload_n dX2_given_25 rfl rfl ?_
  refine v_iald _ dX2_given_26 (by first | assumption | exact set_get (by assumption) | exact set_get (set_get (by assumption))) rfl (by omega) (by decide) rfl ?_
  exact v_iret dX2_given_27 rfl ⟨Nat.le_of_ble_eq_true rfl, Nat.le_of_ble_eq_true rfl⟩ (⟨rfl, rfl⟩)
theorem x_given_n (hX : PX G s x hp) {y z : Int32} (h : ¬ (InR y 3 ∧ InR z s.n)) : Ct G mX2_given 2 0 0 [.ref (G.2.2.2 + 0), .int y, .int z] hp (Qf (some (.int (-100))) hp) := by
  have h0 := hX.1
  have hn := hX.2.2.2.2.2.2.2.2.2.2.2.1
  refine Ct.start 1 (by decide) rfl (Nat.le_of_ble_eq_true rfl) ?_
  refine v_aload_n dX2_given_0 rfl rfl ?_
  refine v_iload_n dX2_given_1 rfl rfl ?_
  by_cases q2 : InR z s.n
  · obtain ⟨w, hw, rfl⟩ := inR_of (by omega) q2
    refine v_cvf dX2_given_2 cw_X2_92 ⟨tn_X2_workAt, tl_X2_workAt⟩ rfl (by first | assumption | exact set_get (by assumption) | exact set_get (set_get (by assumption))) (c_workAt G hp hX hw) (by rfl) (by rfl) (Nat.le_of_ble_eq_true rfl) (Nat.le_of_ble_eq_true rfl) (Nat.le_of_ble_eq_true rfl) (Nat.le_of_ble_eq_true rfl) (Nat.le_of_ble_eq_true rfl) rfl ?_
    refine v_astore_n dX2_given_5 (Nat.le_of_ble_eq_true rfl) rfl ?_
    refine v_aload_n dX2_given_6 rfl rfl ?_
    refine v_ifnull dX2_given_7 rfl ?_
    refine v_iload_n dX2_given_10 rfl rfl ?_
    refine v_iconst (v := nI 3) dX2_given_11 (by decide) rfl ?_
    by_cases q12 : InR y 3
    · refine v_csf dX2_given_12 cw_X2_49 ts_X2_isBelow ((c_isBelow G hp y 3).yes ‹_›) (by rfl) (by rfl) (Nat.le_of_ble_eq_true rfl) (Nat.le_of_ble_eq_true rfl) (Nat.le_of_ble_eq_true rfl) (Nat.le_of_ble_eq_true rfl) (Nat.le_of_ble_eq_true rfl) rfl ?_
      refine v_if_ne (tgt := 21) dX2_given_15 (by decide) rfl (fun _ => ?_) (fun q => absurd q (by decide))
      exact absurd ⟨q12, q2⟩ h
    · refine v_csf dX2_given_12 cw_X2_49 ts_X2_isBelow ((c_isBelow G hp y 3).no ‹_›) (by rfl) (by rfl) (Nat.le_of_ble_eq_true rfl) (Nat.le_of_ble_eq_true rfl) (Nat.le_of_ble_eq_true rfl) (Nat.le_of_ble_eq_true rfl) (Nat.le_of_ble_eq_true rfl) rfl ?_
      refine v_if_ne (tgt := 21) dX2_given_15 (by decide) rfl (fun q => absurd (by decide) q) (fun _ => ?_)
      refine v_bipush (v := (-100)) dX2_given_18 (by decide) rfl ?_
      exact v_iret dX2_given_20 rfl ⟨Nat.le_of_ble_eq_true rfl, Nat.le_of_ble_eq_true rfl⟩ (⟨rfl, rfl⟩)
  · refine v_cvf dX2_given_2 cw_X2_92 ⟨tn_X2_workAt, tl_X2_workAt⟩ rfl (by first | assumption | exact set_get (by assumption) | exact set_get (set_get (by assumption))) (c_workAt_no G hp hX q2) (by rfl) (by rfl) (Nat.le_of_ble_eq_true rfl) (Nat.le_of_ble_eq_true rfl) (Nat.le_of_ble_eq_true rfl) (Nat.le_of_ble_eq_true rfl) (Nat.le_of_ble_eq_true rfl) rfl ?_
    refine v_astore_nN dX2_given_5 (Nat.le_of_ble_eq_true rfl) rfl ?_
    refine v_aload_nN dX2_given_6 rfl rfl ?_
    refine v_ifnullN (tgt := 18) dX2_given_7 (by decide) ?_
    refine v_bipush (v := (-100)) dX2_given_18 (by decide) rfl ?_
    exact v_iret dX2_given_20 rfl ⟨Nat.le_of_ble_eq_true rfl, Nat.le_of_ble_eq_true rfl⟩ (⟨rfl, rfl⟩)
theorem x_like_y (hX : PX G s x hp) {a b p : Nat} (ha : a < 3) (hb : b < 3) (hab : a ≠ b) (hp3 : p < 3) : Ct G mX2_like 4 0 0 [.ref (G.2.2.2 + 0), .int (nI a), .int (nI b), .int (nI p)] hp (Qf (some (.int (lkI s a b p))) hp) := by
  have h0 := hX.1
  have hn := hX.2.2.2.2.2.2.2.2.2.2.2.1
  have hch := chN_le s a b
  have hB : cnt (bothP s a b) s.n ≤ 12 := Nat.le_trans (cnt_le _ _) hn
  have hBB := Nat.mul_le_mul hB hB
  have h2 : InR (nI a) 3 ∧ InR (nI b) 3 ∧ ¬ nI a = nI b := ⟨inR_nI ha (by decide), inR_nI hb (by decide), fun q => hab ((nI_eq (by omega) (by omega)).mp q)⟩
  refine Ct.start 2 (by decide) rfl (Nat.le_of_ble_eq_true rfl) ?_
  refine v_iload_n dX2_like_0 rfl rfl ?_
  refine v_iload_n dX2_like_1 rfl rfl ?_
  refine v_csf dX2_like_2 cw_X2_110 ts_X2_areTwoMarkers ((c_areTwoMarkers G hp (nI a) (nI b)).yes h2) (by rfl) (by rfl) (Nat.le_of_ble_eq_true rfl) (Nat.le_of_ble_eq_true rfl) (Nat.le_of_ble_eq_true rfl) (Nat.le_of_ble_eq_true rfl) (Nat.le_of_ble_eq_true rfl) rfl ?_
  refine v_if_eq (tgt := 16) dX2_like_5 (by decide) rfl (fun q => absurd q (by decide)) (fun _ => ?_)
  refine v_iload_n dX2_like_8 rfl rfl ?_
  refine v_iconst (v := nI 3) dX2_like_9 (by decide) rfl ?_
  refine v_csf dX2_like_10 cw_X2_49 ts_X2_isBelow ((c_isBelow G hp (nI p) 3).yes (inR_nI hp3 (by decide))) (by rfl) (by rfl) (Nat.le_of_ble_eq_true rfl) (Nat.le_of_ble_eq_true rfl) (Nat.le_of_ble_eq_true rfl) (Nat.le_of_ble_eq_true rfl) (Nat.le_of_ble_eq_true rfl) rfl ?_
  refine v_if_ne (tgt := 19) dX2_like_13 (by decide) rfl (fun _ => ?_) (fun q => absurd q (by decide))
  refine v_aload_n dX2_like_19 rfl rfl ?_
  refine v_iload_n dX2_like_20 rfl rfl ?_
  refine v_iload_n dX2_like_21 rfl rfl ?_
  refine v_cvf dX2_like_22 cw_X2_113 ⟨tn_X2_countBothMarked, tl_X2_countBothMarked⟩ rfl (by first | assumption | exact set_get (by assumption) | exact set_get (set_get (by assumption))) (c_countBothMarked G hp hX ha hb) (by rfl) (by rfl) (Nat.le_of_ble_eq_true rfl) (Nat.le_of_ble_eq_true rfl) (Nat.le_of_ble_eq_true rfl) (Nat.le_of_ble_eq_true rfl) (Nat.le_of_ble_eq_true rfl) rfl ?_
  refine v_istore dX2_like_25 (Nat.le_of_ble_eq_true rfl) rfl ?_
  refine v_iload_n dX2_like_27 rfl rfl ?_
  refine v_iconst (v := nI 2) dX2_like_28 (by decide) rfl ?_
  refine v_icmp_neN (tgt := 35) dX2_like_29 (by decide) rfl (by omega) (by omega) (fun c29 => ?_) (fun c29 => ?_)
  · refine v_aload_n dX2_like_35 rfl rfl ?_
    refine v_iload_n dX2_like_36 rfl rfl ?_
    refine v_iload_n dX2_like_37 rfl rfl ?_
    refine v_cvf dX2_like_38 cw_X2_117 ⟨tn_X2_chanceOfAlike, tl_X2_chanceOfAlike⟩ rfl (by first | assumption | exact set_get (by assumption) | exact set_get (set_get (by assumption))) (c_chanceOfAlike G hp hX ha hb) (by rfl) (by rfl) (Nat.le_of_ble_eq_true rfl) (Nat.le_of_ble_eq_true rfl) (Nat.le_of_ble_eq_true rfl) (Nat.le_of_ble_eq_true rfl) (Nat.le_of_ble_eq_true rfl) rfl ?_
    refine v_istore dX2_like_41 (Nat.le_of_ble_eq_true rfl) rfl ?_
    refine v_aload_n dX2_like_43 rfl rfl ?_
    refine v_iload_n dX2_like_44 rfl rfl ?_
    refine v_iload_n dX2_like_45 rfl rfl ?_
    refine v_cvf dX2_like_46 cw_X2_120 ⟨tn_X2_countAlike, tl_X2_countAlike⟩ rfl (by first | assumption | exact set_get (by assumption) | exact set_get (set_get (by assumption))) (c_countAlike G hp hX ha hb) (by rfl) (by rfl) (Nat.le_of_ble_eq_true rfl) (Nat.le_of_ble_eq_true rfl) (Nat.le_of_ble_eq_true rfl) (Nat.le_of_ble_eq_true rfl) (Nat.le_of_ble_eq_true rfl) rfl ?_
    refine v_iload dX2_like_49 rfl rfl ?_
    refine v_imulN dX2_like_51 rfl ?_
    refine v_iload dX2_like_52 rfl rfl ?_
    refine v_isub dX2_like_54 rfl ?_
    refine v_iload dX2_like_55 rfl rfl ?_
    refine v_iload dX2_like_57 rfl rfl ?_
    refine v_imulN dX2_like_59 rfl ?_
    refine v_iload dX2_like_60 rfl rfl ?_
    refine v_isubN dX2_like_62 (hch) rfl ?_
    refine v_iload_n dX2_like_63 rfl rfl ?_
    refine v_csf dX2_like_64 cw_X2_123 ts_X2_partOfRatio (c_partOfRatio G hp (nI (cnt (alkP s a b) s.n * cnt (bothP s a b) s.n) - nI (chN s a b 4)) (nI p) (l := cnt (bothP s a b) s.n * cnt (bothP s a b) s.n - chN s a b 4) (by omega)) (by rfl) (by rfl) (Nat.le_of_ble_eq_true rfl) (Nat.le_of_ble_eq_true rfl) (Nat.le_of_ble_eq_true rfl) (Nat.le_of_ble_eq_true rfl) (Nat.le_of_ble_eq_true rfl) rfl ?_
    exact v_iret dX2_like_67 rfl ⟨Nat.le_of_ble_eq_true rfl, Nat.le_of_ble_eq_true rfl⟩ (⟨by first | (rw [lkI, if_pos ‹_›]; done) | (rw [lkI, if_neg ‹_›]; done), rfl⟩)
  · refine v_iload dX2_like_32 rfl rfl ?_
    exact v_iret dX2_like_34 rfl ⟨Nat.le_of_ble_eq_true rfl, Nat.le_of_ble_eq_true rfl⟩ (⟨by first | (rw [lkI, if_pos ‹_›]; done) | (rw [lkI, if_neg ‹_›]; done), rfl⟩)
theorem x_like_n (hX : PX G s x hp) {y z p : Int32} (h : ¬ ((InR y 3 ∧ InR z 3 ∧ ¬ y = z) ∧ InR p 3)) : Ct G mX2_like 4 0 0 [.ref (G.2.2.2 + 0), .int y, .int z, .int p] hp (Qf (some (.int (-100))) hp) := by
  have h0 := hX.1
  refine Ct.start 2 (by decide) rfl (Nat.le_of_ble_eq_true rfl) ?_
  refine v_iload_n dX2_like_0 rfl rfl ?_
  refine v_iload_n dX2_like_1 rfl rfl ?_
  by_cases q2 : InR y 3 ∧ InR z 3 ∧ ¬ y = z
  · refine v_csf dX2_like_2 cw_X2_110 ts_X2_areTwoMarkers ((c_areTwoMarkers G hp y z).yes ‹_›) (by rfl) (by rfl) (Nat.le_of_ble_eq_true rfl) (Nat.le_of_ble_eq_true rfl) (Nat.le_of_ble_eq_true rfl) (Nat.le_of_ble_eq_true rfl) (Nat.le_of_ble_eq_true rfl) rfl ?_
    refine v_if_eq (tgt := 16) dX2_like_5 (by decide) rfl (fun q => absurd q (by decide)) (fun _ => ?_)
    refine v_iload_n dX2_like_8 rfl rfl ?_
    refine v_iconst (v := nI 3) dX2_like_9 (by decide) rfl ?_
    by_cases q10 : InR p 3
    · refine v_csf dX2_like_10 cw_X2_49 ts_X2_isBelow ((c_isBelow G hp p 3).yes ‹_›) (by rfl) (by rfl) (Nat.le_of_ble_eq_true rfl) (Nat.le_of_ble_eq_true rfl) (Nat.le_of_ble_eq_true rfl) (Nat.le_of_ble_eq_true rfl) (Nat.le_of_ble_eq_true rfl) rfl ?_
      refine v_if_ne (tgt := 19) dX2_like_13 (by decide) rfl (fun _ => ?_) (fun q => absurd q (by decide))
      exact absurd ⟨q2, q10⟩ h
    · refine v_csf dX2_like_10 cw_X2_49 ts_X2_isBelow ((c_isBelow G hp p 3).no ‹_›) (by rfl) (by rfl) (Nat.le_of_ble_eq_true rfl) (Nat.le_of_ble_eq_true rfl) (Nat.le_of_ble_eq_true rfl) (Nat.le_of_ble_eq_true rfl) (Nat.le_of_ble_eq_true rfl) rfl ?_
      refine v_if_ne (tgt := 19) dX2_like_13 (by decide) rfl (fun q => absurd (by decide) q) (fun _ => ?_)
      refine v_bipush (v := (-100)) dX2_like_16 (by decide) rfl ?_
      exact v_iret dX2_like_18 rfl ⟨Nat.le_of_ble_eq_true rfl, Nat.le_of_ble_eq_true rfl⟩ (⟨rfl, rfl⟩)
  · refine v_csf dX2_like_2 cw_X2_110 ts_X2_areTwoMarkers ((c_areTwoMarkers G hp y z).no ‹_›) (by rfl) (by rfl) (Nat.le_of_ble_eq_true rfl) (Nat.le_of_ble_eq_true rfl) (Nat.le_of_ble_eq_true rfl) (Nat.le_of_ble_eq_true rfl) (Nat.le_of_ble_eq_true rfl) rfl ?_
    refine v_if_eq (tgt := 16) dX2_like_5 (by decide) rfl (fun _ => ?_) (fun q => absurd (by decide) q)
    refine v_bipush (v := (-100)) dX2_like_16 (by decide) rfl ?_
    exact v_iret dX2_like_18 rfl ⟨Nat.le_of_ble_eq_true rfl, Nat.le_of_ble_eq_true rfl⟩ (⟨rfl, rfl⟩)
theorem x_parts_y (hX : PX G s x hp) {a b : Nat} (ha : a < 3) (hb : b < 3) (hab : a ≠ b) : Ct G mX2_parts 2 0 0 [.ref (G.2.2.2 + 0), .int (nI a), .int (nI b)] hp (Qf (some (.int (prtS s a b s.n).2)) hp) := by
  obtain ⟨h0, h1, hgl, h2, hgw, h3, h4, h5, h6, hln, hwk, hn, hlen⟩ := hX
  have hab2 : InR (nI a) 3 ∧ InR (nI b) 3 ∧ ¬ nI a = nI b := ⟨inR_nI ha (by decide), inR_nI hb (by decide), fun q => hab ((nI_eq (by omega) (by omega)).mp q)⟩
  have key : ∀ k, k ≤ s.n → ∀ (l6 l7 : Option Value), Vm G mX2_parts 2 0 0 (Qf (some (.int (prtS s a b s.n).2)) hp) 21 [some (.ref (G.2.2.2 + 0)), some (.int (nI a)), some (.int (nI b)), some (.int (prtS s a b k).1), some (.int (prtS s a b k).2), some (.int (nI k)), l6, l7] [] hp 0 0 := by
    refine loop_up ?_ (fun k hk ih => ?_)
    · intro l6 l7
      refine v_iload dX2_parts_21 rfl rfl ?_
      refine v_aload_n dX2_parts_23 rfl rfl ?_
      refine v_getf dX2_parts_24 fl_X2_21 (by first | assumption | exact set_get (by assumption) | exact set_get (set_get (by assumption))) (by rfl) rfl ?_
      refine v_icmp_geN (tgt := 88) dX2_parts_27 (by decide) rfl (by omega) (by omega) (fun c27 => ?_) (fun c27 => ?_)
      · refine v_iload dX2_parts_88 rfl rfl ?_
        exact v_iret dX2_parts_90 rfl ⟨Nat.le_of_ble_eq_true rfl, Nat.le_of_ble_eq_true rfl⟩ (⟨rfl, rfl⟩)
      · exact absurd c27 (by omega)
    · intro l6 l7
      have hW := hwk k hk
      obtain ⟨l1, l2, l3⟩ := hwk k hk
      refine v_iload dX2_parts_21 rfl rfl ?_
      refine v_aload_n dX2_parts_23 rfl rfl ?_
      refine v_getf dX2_parts_24 fl_X2_21 (by first | assumption | exact set_get (by assumption) | exact set_get (set_get (by assumption))) (by rfl) rfl ?_
      refine v_icmp_geN (tgt := 88) dX2_parts_27 (by decide) rfl (by omega) (by omega) (fun c27 => ?_) (fun c27 => ?_)
      · exact absurd c27 (by omega)
      · refine v_aload_n dX2_parts_30 rfl rfl ?_
        refine v_getf dX2_parts_31 fl_X2_17 (by first | assumption | exact set_get (by assumption) | exact set_get (set_get (by assumption))) (by rfl) rfl ?_
        refine v_iload dX2_parts_34 rfl rfl ?_
        refine v_aaldW _ dX2_parts_36 (by first | assumption | exact set_get (by assumption) | exact set_get (set_get (by assumption))) rfl (by omega) (by decide) (by rw [hgw _ (by omega)]) rfl ?_
        refine v_astore dX2_parts_37 (Nat.le_of_ble_eq_true rfl) rfl ?_
        refine v_aload dX2_parts_39 rfl rfl ?_
        refine v_iload_n dX2_parts_41 rfl rfl ?_
        refine v_iload_n dX2_parts_42 rfl rfl ?_
        by_cases q43 : bothP s a b k
        · refine v_cvf dX2_parts_43 cw_X2_127 ⟨tn_X1_isMarkedByBoth, tl_X1_isMarkedByBoth⟩ rfl (by first | assumption | exact set_get (by assumption) | exact set_get (set_get (by assumption))) ((c_isMarkedByBoth G hp hW ha hb).yes ‹_›) (by rfl) (by rfl) (Nat.le_of_ble_eq_true rfl) (Nat.le_of_ble_eq_true rfl) (Nat.le_of_ble_eq_true rfl) (Nat.le_of_ble_eq_true rfl) (Nat.le_of_ble_eq_true rfl) rfl ?_
          refine v_if_eq (tgt := 82) dX2_parts_46 (by decide) rfl (fun q => absurd q (by decide)) (fun _ => ?_)
          refine v_aload dX2_parts_49 rfl rfl ?_
          refine v_getf dX2_parts_51 fl_X2_107 (by first | assumption | exact set_get (by assumption) | exact set_get (set_get (by assumption))) (by rfl) rfl ?_
          refine v_iload_n dX2_parts_54 rfl rfl ?_
          refine v_iald _ dX2_parts_55 (by first | assumption | exact set_get (by assumption) | exact set_get (set_get (by assumption))) rfl (by omega) (by decide) rfl ?_
          refine v_aload dX2_parts_56 rfl rfl ?_
          refine v_getf dX2_parts_58 fl_X2_107 (by first | assumption | exact set_get (by assumption) | exact set_get (set_get (by assumption))) (by rfl) rfl ?_
          refine v_iload_n dX2_parts_61 rfl rfl ?_
          refine v_iald _ dX2_parts_62 (by first | assumption | exact set_get (by assumption) | exact set_get (set_get (by assumption))) rfl (by omega) (by decide) rfl ?_
          refine v_isub dX2_parts_63 rfl ?_
          refine v_csf dX2_parts_64 cw_X2_130 ts_J9_abs_0f7a4 (c_abs G hp (s.mr k a - s.mr k b)) (by rfl) (by rfl) (Nat.le_of_ble_eq_true rfl) (Nat.le_of_ble_eq_true rfl) (Nat.le_of_ble_eq_true rfl) (Nat.le_of_ble_eq_true rfl) (Nat.le_of_ble_eq_true rfl) rfl ?_
          refine v_istore dX2_parts_67 (Nat.le_of_ble_eq_true rfl) rfl ?_
          refine v_iload dX2_parts_69 rfl rfl ?_
          refine v_iload_n dX2_parts_71 rfl rfl ?_
          refine v_icmp_le (tgt := 82) dX2_parts_72 (by decide) rfl (fun c72 => ?_) (fun c72 => ?_)
          · refine v_iinc1 dX2_parts_82 rfl (Nat.le_of_ble_eq_true rfl) rfl ?_
            refine v_goto (tgt := 21) dX2_parts_85 (by decide) ?_
            first | (rw [prtS_t (w := k) ⟨q43, c72⟩] at ih; exact ih _ _) | (rw [prtS_f (w := k) (fun h => absurd h.1 q43)] at ih; exact ih _ _) | (rw [prtS_f (w := k) (fun h => absurd c72 h.2)] at ih; exact ih _ _)
          · refine v_iload dX2_parts_75 rfl rfl ?_
            refine v_istore_n dX2_parts_77 (Nat.le_of_ble_eq_true rfl) rfl ?_
            refine v_iload dX2_parts_78 rfl rfl ?_
            refine v_istore dX2_parts_80 (Nat.le_of_ble_eq_true rfl) rfl ?_
            refine v_iinc1 dX2_parts_82 rfl (Nat.le_of_ble_eq_true rfl) rfl ?_
            refine v_goto (tgt := 21) dX2_parts_85 (by decide) ?_
            first | (rw [prtS_t (w := k) ⟨q43, c72⟩] at ih; exact ih _ _) | (rw [prtS_f (w := k) (fun h => absurd h.1 q43)] at ih; exact ih _ _) | (rw [prtS_f (w := k) (fun h => absurd c72 h.2)] at ih; exact ih _ _)
        · refine v_cvf dX2_parts_43 cw_X2_127 ⟨tn_X1_isMarkedByBoth, tl_X1_isMarkedByBoth⟩ rfl (by first | assumption | exact set_get (by assumption) | exact set_get (set_get (by assumption))) ((c_isMarkedByBoth G hp hW ha hb).no ‹_›) (by rfl) (by rfl) (Nat.le_of_ble_eq_true rfl) (Nat.le_of_ble_eq_true rfl) (Nat.le_of_ble_eq_true rfl) (Nat.le_of_ble_eq_true rfl) (Nat.le_of_ble_eq_true rfl) rfl ?_
          refine v_if_eq (tgt := 82) dX2_parts_46 (by decide) rfl (fun _ => ?_) (fun q => absurd (by decide) q)
          refine v_iinc1 dX2_parts_82 rfl (Nat.le_of_ble_eq_true rfl) rfl ?_
          refine v_goto (tgt := 21) dX2_parts_85 (by decide) ?_
          first | (rw [prtS_t (w := k) ⟨q43, c72⟩] at ih; exact ih _ _) | (rw [prtS_f (w := k) (fun h => absurd h.1 q43)] at ih; exact ih _ _) | (rw [prtS_f (w := k) (fun h => absurd c72 h.2)] at ih; exact ih _ _)
  refine Ct.start 5 (by decide) rfl (Nat.le_of_ble_eq_true rfl) ?_
  refine v_iload_n dX2_parts_0 rfl rfl ?_
  refine v_iload_n dX2_parts_1 rfl rfl ?_
  refine v_csf dX2_parts_2 cw_X2_110 ts_X2_areTwoMarkers ((c_areTwoMarkers G hp (nI a) (nI b)).yes hab2) (by rfl) (by rfl) (Nat.le_of_ble_eq_true rfl) (Nat.le_of_ble_eq_true rfl) (Nat.le_of_ble_eq_true rfl) (Nat.le_of_ble_eq_true rfl) (Nat.le_of_ble_eq_true rfl) rfl ?_
  refine v_if_ne (tgt := 11) dX2_parts_5 (by decide) rfl (fun _ => ?_) (fun q => absurd q (by decide))
  refine v_iconst (v := nI 0) dX2_parts_11 (by decide) rfl ?_
  refine v_istore_n dX2_parts_12 (Nat.le_of_ble_eq_true rfl) rfl ?_
  refine v_sipush (v := (-900)) dX2_parts_13 (by decide) rfl ?_
  refine v_istore dX2_parts_16 (Nat.le_of_ble_eq_true rfl) rfl ?_
  refine v_iconst (v := nI 0) dX2_parts_18 (by decide) rfl ?_
  refine v_istore dX2_parts_19 (Nat.le_of_ble_eq_true rfl) rfl ?_
  exact key 0 (Nat.zero_le _) _ _
theorem x_parts_n {y z : Int32} (h : ¬ (InR y 3 ∧ InR z 3 ∧ ¬ y = z)) : Ct G mX2_parts 2 0 0 [.ref (G.2.2.2 + 0), .int y, .int z] hp (Qf (some (.int (-100))) hp) := by
  refine Ct.start 5 (by decide) rfl (Nat.le_of_ble_eq_true rfl) ?_
  refine v_iload_n dX2_parts_0 rfl rfl ?_
  refine v_iload_n dX2_parts_1 rfl rfl ?_
  refine v_csf dX2_parts_2 cw_X2_110 ts_X2_areTwoMarkers ((c_areTwoMarkers G hp y z).no h) (by rfl) (by rfl) (Nat.le_of_ble_eq_true rfl) (Nat.le_of_ble_eq_true rfl) (Nat.le_of_ble_eq_true rfl) (Nat.le_of_ble_eq_true rfl) (Nat.le_of_ble_eq_true rfl) rfl ?_
  refine v_if_ne (tgt := 11) dX2_parts_5 (by decide) rfl (fun q => absurd (by decide) q) (fun _ => ?_)
  refine v_bipush (v := (-100)) dX2_parts_8 (by decide) rfl ?_
  exact v_iret dX2_parts_10 rfl ⟨Nat.le_of_ble_eq_true rfl, Nat.le_of_ble_eq_true rfl⟩ (⟨rfl, rfl⟩)
theorem x_anchor_y (hX : PX G s x hp) {w : Nat} (hw : w < s.n) {v : Int32} (hv : v = -900 ∨ InR v 4) : Ct G mX2_anchor 2 0 0 [.ref (G.2.2.2 + 0), .int (nI w), .int v] hp (QX G hp (s.tr w) (setTr s w v)) := by
  have h0 := hX.1
  have hn := hX.2.2.2.2.2.2.2.2.2.2.2.1
  obtain ⟨l1, l2, l3⟩ := hX.2.2.2.2.2.2.2.2.2.2.1 w hw
  refine Ct.start 2 (by decide) rfl (Nat.le_of_ble_eq_true rfl) ?_
  refine v_aload_n dX2_anchor_0 rfl rfl ?_
  refine v_iload_n dX2_anchor_1 rfl rfl ?_
  refine v_cvf dX2_anchor_2 cw_X2_92 ⟨tn_X2_workAt, tl_X2_workAt⟩ rfl (by first | assumption | exact set_get (by assumption) | exact set_get (set_get (by assumption))) (c_workAt G hp hX hw) (by rfl) (by rfl) (Nat.le_of_ble_eq_true rfl) (Nat.le_of_ble_eq_true rfl) (Nat.le_of_ble_eq_true rfl) (Nat.le_of_ble_eq_true rfl) (Nat.le_of_ble_eq_true rfl) rfl ?_
  refine v_astore_n dX2_anchor_5 (Nat.le_of_ble_eq_true rfl) rfl ?_
  refine v_aload_n dX2_anchor_6 rfl rfl ?_
  refine v_ifnull dX2_anchor_7 rfl ?_
  refine v_iload_n dX2_anchor_10 rfl rfl ?_
  refine v_csf dX2_anchor_11 cw_X2_103 ts_X2_isMarkOrNone ((c_isMarkOrNone G hp v).yes hv) (by rfl) (by rfl) (Nat.le_of_ble_eq_true rfl) (Nat.le_of_ble_eq_true rfl) (Nat.le_of_ble_eq_true rfl) (Nat.le_of_ble_eq_true rfl) (Nat.le_of_ble_eq_true rfl) rfl ?_
  refine v_if_ne (tgt := 20) dX2_anchor_14 (by decide) rfl (fun _ => ?_) (fun q => absurd q (by decide))
  refine v_aload_n dX2_anchor_20 rfl rfl ?_
  refine v_getf dX2_anchor_21 fl_X2_135 (by first | assumption | exact set_get (by assumption) | exact set_get (set_get (by assumption))) (by rfl) rfl ?_
  refine v_istore dX2_anchor_24 (Nat.le_of_ble_eq_true rfl) rfl ?_
  refine v_aload_n dX2_anchor_26 rfl rfl ?_
  refine v_iload_n dX2_anchor_27 rfl rfl ?_
  refine v_putf dX2_anchor_28 fl_X2_135 (by first | assumption | exact set_get (by assumption) | exact set_get (set_get (by assumption))) (by rfl) (by rfl) (by exact Nat.le_of_ble_eq_true rfl) rfl ?_
  refine v_iload dX2_anchor_31 rfl rfl ?_
  exact v_iret dX2_anchor_33 rfl ⟨Nat.le_of_ble_eq_true rfl, Nat.le_of_ble_eq_true rfl⟩ (⟨rfl, ⟨x, hX.setTr hw v⟩, FrX.rf.set (by omega)⟩)
theorem x_anchor_n (hX : PX G s x hp) {z v : Int32} (h : ¬ (InR z s.n ∧ (v = -900 ∨ InR v 4))) : Ct G mX2_anchor 2 0 0 [.ref (G.2.2.2 + 0), .int z, .int v] hp (Qf (some (.int (-100))) hp) := by
  have h0 := hX.1
  have hn := hX.2.2.2.2.2.2.2.2.2.2.2.1
  refine Ct.start 2 (by decide) rfl (Nat.le_of_ble_eq_true rfl) ?_
  refine v_aload_n dX2_anchor_0 rfl rfl ?_
  refine v_iload_n dX2_anchor_1 rfl rfl ?_
  by_cases q2 : InR z s.n
  · obtain ⟨w, hw, rfl⟩ := inR_of (by omega) q2
    refine v_cvf dX2_anchor_2 cw_X2_92 ⟨tn_X2_workAt, tl_X2_workAt⟩ rfl (by first | assumption | exact set_get (by assumption) | exact set_get (set_get (by assumption))) (c_workAt G hp hX hw) (by rfl) (by rfl) (Nat.le_of_ble_eq_true rfl) (Nat.le_of_ble_eq_true rfl) (Nat.le_of_ble_eq_true rfl) (Nat.le_of_ble_eq_true rfl) (Nat.le_of_ble_eq_true rfl) rfl ?_
    refine v_astore_n dX2_anchor_5 (Nat.le_of_ble_eq_true rfl) rfl ?_
    refine v_aload_n dX2_anchor_6 rfl rfl ?_
    refine v_ifnull dX2_anchor_7 rfl ?_
    refine v_iload_n dX2_anchor_10 rfl rfl ?_
    by_cases q11 : v = -900 ∨ InR v 4
    · refine v_csf dX2_anchor_11 cw_X2_103 ts_X2_isMarkOrNone ((c_isMarkOrNone G hp v).yes ‹_›) (by rfl) (by rfl) (Nat.le_of_ble_eq_true rfl) (Nat.le_of_ble_eq_true rfl) (Nat.le_of_ble_eq_true rfl) (Nat.le_of_ble_eq_true rfl) (Nat.le_of_ble_eq_true rfl) rfl ?_
      refine v_if_ne (tgt := 20) dX2_anchor_14 (by decide) rfl (fun _ => ?_) (fun q => absurd q (by decide))
      exact absurd ⟨q2, q11⟩ h
    · refine v_csf dX2_anchor_11 cw_X2_103 ts_X2_isMarkOrNone ((c_isMarkOrNone G hp v).no ‹_›) (by rfl) (by rfl) (Nat.le_of_ble_eq_true rfl) (Nat.le_of_ble_eq_true rfl) (Nat.le_of_ble_eq_true rfl) (Nat.le_of_ble_eq_true rfl) (Nat.le_of_ble_eq_true rfl) rfl ?_
      refine v_if_ne (tgt := 20) dX2_anchor_14 (by decide) rfl (fun q => absurd (by decide) q) (fun _ => ?_)
      refine v_bipush (v := (-100)) dX2_anchor_17 (by decide) rfl ?_
      exact v_iret dX2_anchor_19 rfl ⟨Nat.le_of_ble_eq_true rfl, Nat.le_of_ble_eq_true rfl⟩ (⟨rfl, rfl⟩)
  · refine v_cvf dX2_anchor_2 cw_X2_92 ⟨tn_X2_workAt, tl_X2_workAt⟩ rfl (by first | assumption | exact set_get (by assumption) | exact set_get (set_get (by assumption))) (c_workAt_no G hp hX q2) (by rfl) (by rfl) (Nat.le_of_ble_eq_true rfl) (Nat.le_of_ble_eq_true rfl) (Nat.le_of_ble_eq_true rfl) (Nat.le_of_ble_eq_true rfl) (Nat.le_of_ble_eq_true rfl) rfl ?_
    refine v_astore_nN dX2_anchor_5 (Nat.le_of_ble_eq_true rfl) rfl ?_
    refine v_aload_nN dX2_anchor_6 rfl rfl ?_
    refine v_ifnullN (tgt := 17) dX2_anchor_7 (by decide) ?_
    refine v_bipush (v := (-100)) dX2_anchor_17 (by decide) rfl ?_
    exact v_iret dX2_anchor_19 rfl ⟨Nat.le_of_ble_eq_true rfl, Nat.le_of_ble_eq_true rfl⟩ (⟨rfl, rfl⟩)
theorem x_off_y (hX : PX G s x hp) {m p : Nat} (hm : m < 3) (hp3 : p < 3) : Ct G mX2_off 2 0 0 [.ref (G.2.2.2 + 0), .int (nI m), .int (nI p)] hp (Qf (some (.int (ofI s m p))) hp) := by
  have h0 := hX.1
  have hn := hX.2.2.2.2.2.2.2.2.2.2.2.1
  have hB : cnt (offP s m) s.n ≤ 12 := Nat.le_trans (cnt_le _ _) hn
  refine Ct.start 1 (by decide) rfl (Nat.le_of_ble_eq_true rfl) ?_
  refine v_iload_n dX2_off_0 rfl rfl ?_
  refine v_iconst (v := nI 3) dX2_off_1 (by decide) rfl ?_
  refine v_csf dX2_off_2 cw_X2_49 ts_X2_isBelow ((c_isBelow G hp (nI m) 3).yes (inR_nI hm (by decide))) (by rfl) (by rfl) (Nat.le_of_ble_eq_true rfl) (Nat.le_of_ble_eq_true rfl) (Nat.le_of_ble_eq_true rfl) (Nat.le_of_ble_eq_true rfl) (Nat.le_of_ble_eq_true rfl) rfl ?_
  refine v_if_eq (tgt := 16) dX2_off_5 (by decide) rfl (fun q => absurd q (by decide)) (fun _ => ?_)
  refine v_iload_n dX2_off_8 rfl rfl ?_
  refine v_iconst (v := nI 3) dX2_off_9 (by decide) rfl ?_
  refine v_csf dX2_off_10 cw_X2_49 ts_X2_isBelow ((c_isBelow G hp (nI p) 3).yes (inR_nI hp3 (by decide))) (by rfl) (by rfl) (Nat.le_of_ble_eq_true rfl) (Nat.le_of_ble_eq_true rfl) (Nat.le_of_ble_eq_true rfl) (Nat.le_of_ble_eq_true rfl) (Nat.le_of_ble_eq_true rfl) rfl ?_
  refine v_if_ne (tgt := 19) dX2_off_13 (by decide) rfl (fun _ => ?_) (fun q => absurd q (by decide))
  refine v_aload_n dX2_off_19 rfl rfl ?_
  refine v_iload_n dX2_off_20 rfl rfl ?_
  refine v_cvf dX2_off_21 cw_X2_138 ⟨tn_X2_countMarkedAnchors, tl_X2_countMarkedAnchors⟩ rfl (by first | assumption | exact set_get (by assumption) | exact set_get (set_get (by assumption))) (c_countMarkedAnchors G hp hX hm) (by rfl) (by rfl) (Nat.le_of_ble_eq_true rfl) (Nat.le_of_ble_eq_true rfl) (Nat.le_of_ble_eq_true rfl) (Nat.le_of_ble_eq_true rfl) (Nat.le_of_ble_eq_true rfl) rfl ?_
  refine v_istore_n dX2_off_24 (Nat.le_of_ble_eq_true rfl) rfl ?_
  refine v_iload_n dX2_off_25 rfl rfl ?_
  refine v_iconst (v := nI 2) dX2_off_26 (by decide) rfl ?_
  refine v_icmp_neN (tgt := 34) dX2_off_27 (by decide) rfl (by omega) (by omega) (fun c27 => ?_) (fun c27 => ?_)
  · refine v_aload_n dX2_off_34 rfl rfl ?_
    refine v_iload_n dX2_off_35 rfl rfl ?_
    refine v_cvf dX2_off_36 cw_X2_141 ⟨tn_X2_sumOffAnchors, tl_X2_sumOffAnchors⟩ rfl (by first | assumption | exact set_get (by assumption) | exact set_get (set_get (by assumption))) (c_sumOffAnchors G hp hX hm) (by rfl) (by rfl) (Nat.le_of_ble_eq_true rfl) (Nat.le_of_ble_eq_true rfl) (Nat.le_of_ble_eq_true rfl) (Nat.le_of_ble_eq_true rfl) (Nat.le_of_ble_eq_true rfl) rfl ?_
    refine v_iload_n dX2_off_39 rfl rfl ?_
    refine v_iload_n dX2_off_40 rfl rfl ?_
    refine v_csf dX2_off_41 cw_X2_123 ts_X2_partOfRatio (c_partOfRatio G hp (offS s m s.n) (nI p) (l := cnt (offP s m) s.n) (by omega)) (by rfl) (by rfl) (Nat.le_of_ble_eq_true rfl) (Nat.le_of_ble_eq_true rfl) (Nat.le_of_ble_eq_true rfl) (Nat.le_of_ble_eq_true rfl) (Nat.le_of_ble_eq_true rfl) rfl ?_
    exact v_iret dX2_off_44 rfl ⟨Nat.le_of_ble_eq_true rfl, Nat.le_of_ble_eq_true rfl⟩ (⟨by first | (rw [ofI, if_pos ‹_›]; done) | (rw [ofI, if_neg ‹_›]; done), rfl⟩)
  · refine v_iload_n dX2_off_30 rfl rfl ?_
    refine v_goto (tgt := 44) dX2_off_31 (by decide) ?_
    exact v_iret dX2_off_44 rfl ⟨Nat.le_of_ble_eq_true rfl, Nat.le_of_ble_eq_true rfl⟩ (⟨by first | (rw [ofI, if_pos ‹_›]; done) | (rw [ofI, if_neg ‹_›]; done), rfl⟩)
theorem x_off_n {y p : Int32} (h : ¬ (InR y 3 ∧ InR p 3)) : Ct G mX2_off 2 0 0 [.ref (G.2.2.2 + 0), .int y, .int p] hp (Qf (some (.int (-100))) hp) := by
  refine Ct.start 1 (by decide) rfl (Nat.le_of_ble_eq_true rfl) ?_
  refine v_iload_n dX2_off_0 rfl rfl ?_
  refine v_iconst (v := nI 3) dX2_off_1 (by decide) rfl ?_
  by_cases q2 : InR y 3
  · refine v_csf dX2_off_2 cw_X2_49 ts_X2_isBelow ((c_isBelow G hp y 3).yes ‹_›) (by rfl) (by rfl) (Nat.le_of_ble_eq_true rfl) (Nat.le_of_ble_eq_true rfl) (Nat.le_of_ble_eq_true rfl) (Nat.le_of_ble_eq_true rfl) (Nat.le_of_ble_eq_true rfl) rfl ?_
    refine v_if_eq (tgt := 16) dX2_off_5 (by decide) rfl (fun q => absurd q (by decide)) (fun _ => ?_)
    refine v_iload_n dX2_off_8 rfl rfl ?_
    refine v_iconst (v := nI 3) dX2_off_9 (by decide) rfl ?_
    by_cases q10 : InR p 3
    · refine v_csf dX2_off_10 cw_X2_49 ts_X2_isBelow ((c_isBelow G hp p 3).yes ‹_›) (by rfl) (by rfl) (Nat.le_of_ble_eq_true rfl) (Nat.le_of_ble_eq_true rfl) (Nat.le_of_ble_eq_true rfl) (Nat.le_of_ble_eq_true rfl) (Nat.le_of_ble_eq_true rfl) rfl ?_
      refine v_if_ne (tgt := 19) dX2_off_13 (by decide) rfl (fun _ => ?_) (fun q => absurd q (by decide))
      exact absurd ⟨q2, q10⟩ h
    · refine v_csf dX2_off_10 cw_X2_49 ts_X2_isBelow ((c_isBelow G hp p 3).no ‹_›) (by rfl) (by rfl) (Nat.le_of_ble_eq_true rfl) (Nat.le_of_ble_eq_true rfl) (Nat.le_of_ble_eq_true rfl) (Nat.le_of_ble_eq_true rfl) (Nat.le_of_ble_eq_true rfl) rfl ?_
      refine v_if_ne (tgt := 19) dX2_off_13 (by decide) rfl (fun q => absurd (by decide) q) (fun _ => ?_)
      refine v_bipush (v := (-100)) dX2_off_16 (by decide) rfl ?_
      exact v_iret dX2_off_18 rfl ⟨Nat.le_of_ble_eq_true rfl, Nat.le_of_ble_eq_true rfl⟩ (⟨rfl, rfl⟩)
  · refine v_csf dX2_off_2 cw_X2_49 ts_X2_isBelow ((c_isBelow G hp y 3).no ‹_›) (by rfl) (by rfl) (Nat.le_of_ble_eq_true rfl) (Nat.le_of_ble_eq_true rfl) (Nat.le_of_ble_eq_true rfl) (Nat.le_of_ble_eq_true rfl) (Nat.le_of_ble_eq_true rfl) rfl ?_
    refine v_if_eq (tgt := 16) dX2_off_5 (by decide) rfl (fun _ => ?_) (fun q => absurd (by decide) q)
    refine v_bipush (v := (-100)) dX2_off_16 (by decide) rfl ?_
    exact v_iret dX2_off_18 rfl ⟨Nat.le_of_ble_eq_true rfl, Nat.le_of_ble_eq_true rfl⟩ (⟨rfl, rfl⟩)
theorem x_fair_y (hX : PX G s x hp) {m w : Nat} (hm : m < 3) (hw : w < s.n) : Ct G mX2_fair 2 0 0 [.ref (G.2.2.2 + 0), .int (nI m), .int (nI w)] hp (Qf (some (.int (frI s m w))) hp) := by
  have h0 := hX.1
  have hn := hX.2.2.2.2.2.2.2.2.2.2.2.1
  have hW := hX.2.2.2.2.2.2.2.2.2.2.1 w hw
  obtain ⟨l1, l2, l3⟩ := hX.2.2.2.2.2.2.2.2.2.2.1 w hw
  have hB : cnt (offP s m) s.n ≤ 12 := Nat.le_trans (cnt_le _ _) hn
  refine Ct.start 4 (by decide) rfl (Nat.le_of_ble_eq_true rfl) ?_
  refine v_aload_n dX2_fair_0 rfl rfl ?_
  refine v_iload_n dX2_fair_1 rfl rfl ?_
  refine v_cvf dX2_fair_2 cw_X2_92 ⟨tn_X2_workAt, tl_X2_workAt⟩ rfl (by first | assumption | exact set_get (by assumption) | exact set_get (set_get (by assumption))) (c_workAt G hp hX hw) (by rfl) (by rfl) (Nat.le_of_ble_eq_true rfl) (Nat.le_of_ble_eq_true rfl) (Nat.le_of_ble_eq_true rfl) (Nat.le_of_ble_eq_true rfl) (Nat.le_of_ble_eq_true rfl) rfl ?_
  refine v_astore_n dX2_fair_5 (Nat.le_of_ble_eq_true rfl) rfl ?_
  refine v_aload_n dX2_fair_6 rfl rfl ?_
  refine v_ifnull dX2_fair_7 rfl ?_
  refine v_iload_n dX2_fair_10 rfl rfl ?_
  refine v_iconst (v := nI 3) dX2_fair_11 (by decide) rfl ?_
  refine v_csf dX2_fair_12 cw_X2_49 ts_X2_isBelow ((c_isBelow G hp (nI m) 3).yes (inR_nI hm (by decide))) (by rfl) (by rfl) (Nat.le_of_ble_eq_true rfl) (Nat.le_of_ble_eq_true rfl) (Nat.le_of_ble_eq_true rfl) (Nat.le_of_ble_eq_true rfl) (Nat.le_of_ble_eq_true rfl) rfl ?_
  refine v_if_ne (tgt := 21) dX2_fair_15 (by decide) rfl (fun _ => ?_) (fun q => absurd q (by decide))
  refine v_aload_n dX2_fair_21 rfl rfl ?_
  refine v_iload_n dX2_fair_22 rfl rfl ?_
  refine v_cvf dX2_fair_23 cw_X2_138 ⟨tn_X2_countMarkedAnchors, tl_X2_countMarkedAnchors⟩ rfl (by first | assumption | exact set_get (by assumption) | exact set_get (set_get (by assumption))) (c_countMarkedAnchors G hp hX hm) (by rfl) (by rfl) (Nat.le_of_ble_eq_true rfl) (Nat.le_of_ble_eq_true rfl) (Nat.le_of_ble_eq_true rfl) (Nat.le_of_ble_eq_true rfl) (Nat.le_of_ble_eq_true rfl) rfl ?_
  refine v_istore dX2_fair_26 (Nat.le_of_ble_eq_true rfl) rfl ?_
  refine v_aload_n dX2_fair_28 rfl rfl ?_
  refine v_iload_n dX2_fair_29 rfl rfl ?_
  by_cases q30 : mkdP s m w
  · refine v_cvf dX2_fair_30 cw_X2_144 ⟨tn_X1_isMarkedBy, tl_X1_isMarkedBy⟩ rfl (by first | assumption | exact set_get (by assumption) | exact set_get (set_get (by assumption))) ((c_isMarkedBy G hp hW hm).yes ‹_›) (by rfl) (by rfl) (Nat.le_of_ble_eq_true rfl) (Nat.le_of_ble_eq_true rfl) (Nat.le_of_ble_eq_true rfl) (Nat.le_of_ble_eq_true rfl) (Nat.le_of_ble_eq_true rfl) rfl ?_
    refine v_if_eq (tgt := 41) dX2_fair_33 (by decide) rfl (fun q => absurd q (by decide)) (fun _ => ?_)
    refine v_iload dX2_fair_36 rfl rfl ?_
    refine v_if_gtN (tgt := 45) dX2_fair_38 (by decide) rfl (by omega) (fun c38 => ?_) (fun c38 => ?_)
    · refine v_aload_n dX2_fair_45 rfl rfl ?_
      refine v_getf dX2_fair_46 fl_X2_107 (by first | assumption | exact set_get (by assumption) | exact set_get (set_get (by assumption))) (by rfl) rfl ?_
      refine v_iload_n dX2_fair_49 rfl rfl ?_
      refine v_iald _ dX2_fair_50 (by first | assumption | exact set_get (by assumption) | exact set_get (set_get (by assumption))) rfl (by omega) (by decide) rfl ?_
      refine v_iload dX2_fair_51 rfl rfl ?_
      refine v_imul dX2_fair_53 rfl ?_
      refine v_aload_n dX2_fair_54 rfl rfl ?_
      refine v_iload_n dX2_fair_55 rfl rfl ?_
      refine v_cvf dX2_fair_56 cw_X2_141 ⟨tn_X2_sumOffAnchors, tl_X2_sumOffAnchors⟩ rfl (by first | assumption | exact set_get (by assumption) | exact set_get (set_get (by assumption))) (c_sumOffAnchors G hp hX hm) (by rfl) (by rfl) (Nat.le_of_ble_eq_true rfl) (Nat.le_of_ble_eq_true rfl) (Nat.le_of_ble_eq_true rfl) (Nat.le_of_ble_eq_true rfl) (Nat.le_of_ble_eq_true rfl) rfl ?_
      refine v_isub dX2_fair_59 rfl ?_
      refine v_istore dX2_fair_60 (Nat.le_of_ble_eq_true rfl) rfl ?_
      refine v_iconst (v := nI 2) dX2_fair_62 (by decide) rfl ?_
      refine v_iload dX2_fair_63 rfl rfl ?_
      refine v_imul dX2_fair_65 rfl ?_
      refine v_iload dX2_fair_66 rfl rfl ?_
      refine v_iadd dX2_fair_68 rfl ?_
      refine v_iconst (v := nI 2) dX2_fair_69 (by decide) rfl ?_
      refine v_iload dX2_fair_70 rfl rfl ?_
      refine v_imulN dX2_fair_72 rfl ?_
      refine v_csf dX2_fair_73 cw_X2_147 ts_J9_floorDiv_7cf53 (c_floorDiv G hp _ (nI (2 * cnt (offP s m) s.n)) (nI_ne0 (by omega) (by omega))) (by rfl) (by rfl) (Nat.le_of_ble_eq_true rfl) (Nat.le_of_ble_eq_true rfl) (Nat.le_of_ble_eq_true rfl) (Nat.le_of_ble_eq_true rfl) (Nat.le_of_ble_eq_true rfl) rfl ?_
      refine v_istore dX2_fair_76 (Nat.le_of_ble_eq_true rfl) rfl ?_
      refine v_iconst (v := nI 0) dX2_fair_78 (by decide) rfl ?_
      refine v_iconst (v := nI 3) dX2_fair_79 (by decide) rfl ?_
      refine v_iload dX2_fair_80 rfl rfl ?_
      refine v_csf dX2_fair_82 cw_X2_150 ts_J9_min_7cf53 (c_min G hp _ _) (by rfl) (by rfl) (Nat.le_of_ble_eq_true rfl) (Nat.le_of_ble_eq_true rfl) (Nat.le_of_ble_eq_true rfl) (Nat.le_of_ble_eq_true rfl) (Nat.le_of_ble_eq_true rfl) rfl ?_
      refine v_csf dX2_fair_85 cw_X2_153 ts_J9_max_7cf53 (c_max G hp _ _) (by rfl) (by rfl) (Nat.le_of_ble_eq_true rfl) (Nat.le_of_ble_eq_true rfl) (Nat.le_of_ble_eq_true rfl) (Nat.le_of_ble_eq_true rfl) (Nat.le_of_ble_eq_true rfl) rfl ?_
      exact v_iret dX2_fair_88 rfl ⟨Nat.le_of_ble_eq_true rfl, Nat.le_of_ble_eq_true rfl⟩ (⟨by first | (rw [frI_t ⟨‹_›, ‹_›⟩]; rfl) | (rw [frI_f (fun q => absurd q.1 ‹_›)]; done) | (rw [frI_f (fun q => by have := q.2; omega)]; done), rfl⟩)
    · refine v_sipush (v := (-200)) dX2_fair_41 (by decide) rfl ?_
      exact v_iret dX2_fair_44 rfl ⟨Nat.le_of_ble_eq_true rfl, Nat.le_of_ble_eq_true rfl⟩ (⟨by first | (rw [frI_t ⟨‹_›, ‹_›⟩]; rfl) | (rw [frI_f (fun q => absurd q.1 ‹_›)]; done) | (rw [frI_f (fun q => by have := q.2; omega)]; done), rfl⟩)
  · refine v_cvf dX2_fair_30 cw_X2_144 ⟨tn_X1_isMarkedBy, tl_X1_isMarkedBy⟩ rfl (by first | assumption | exact set_get (by assumption) | exact set_get (set_get (by assumption))) ((c_isMarkedBy G hp hW hm).no ‹_›) (by rfl) (by rfl) (Nat.le_of_ble_eq_true rfl) (Nat.le_of_ble_eq_true rfl) (Nat.le_of_ble_eq_true rfl) (Nat.le_of_ble_eq_true rfl) (Nat.le_of_ble_eq_true rfl) rfl ?_
    refine v_if_eq (tgt := 41) dX2_fair_33 (by decide) rfl (fun _ => ?_) (fun q => absurd (by decide) q)
    refine v_sipush (v := (-200)) dX2_fair_41 (by decide) rfl ?_
    exact v_iret dX2_fair_44 rfl ⟨Nat.le_of_ble_eq_true rfl, Nat.le_of_ble_eq_true rfl⟩ (⟨by first | (rw [frI_t ⟨‹_›, ‹_›⟩]; rfl) | (rw [frI_f (fun q => absurd q.1 ‹_›)]; done) | (rw [frI_f (fun q => by have := q.2; omega)]; done), rfl⟩)
theorem x_fair_n (hX : PX G s x hp) {y z : Int32} (h : ¬ (InR y 3 ∧ InR z s.n)) : Ct G mX2_fair 2 0 0 [.ref (G.2.2.2 + 0), .int y, .int z] hp (Qf (some (.int (-100))) hp) := by
  have h0 := hX.1
  have hn := hX.2.2.2.2.2.2.2.2.2.2.2.1
  refine Ct.start 4 (by decide) rfl (Nat.le_of_ble_eq_true rfl) ?_
  refine v_aload_n dX2_fair_0 rfl rfl ?_
  refine v_iload_n dX2_fair_1 rfl rfl ?_
  by_cases q2 : InR z s.n
  · obtain ⟨w, hw, rfl⟩ := inR_of (by omega) q2
    refine v_cvf dX2_fair_2 cw_X2_92 ⟨tn_X2_workAt, tl_X2_workAt⟩ rfl (by first | assumption | exact set_get (by assumption) | exact set_get (set_get (by assumption))) (c_workAt G hp hX hw) (by rfl) (by rfl) (Nat.le_of_ble_eq_true rfl) (Nat.le_of_ble_eq_true rfl) (Nat.le_of_ble_eq_true rfl) (Nat.le_of_ble_eq_true rfl) (Nat.le_of_ble_eq_true rfl) rfl ?_
    refine v_astore_n dX2_fair_5 (Nat.le_of_ble_eq_true rfl) rfl ?_
    refine v_aload_n dX2_fair_6 rfl rfl ?_
    refine v_ifnull dX2_fair_7 rfl ?_
    refine v_iload_n dX2_fair_10 rfl rfl ?_
    refine v_iconst (v := nI 3) dX2_fair_11 (by decide) rfl ?_
    by_cases q12 : InR y 3
    · refine v_csf dX2_fair_12 cw_X2_49 ts_X2_isBelow ((c_isBelow G hp y 3).yes ‹_›) (by rfl) (by rfl) (Nat.le_of_ble_eq_true rfl) (Nat.le_of_ble_eq_true rfl) (Nat.le_of_ble_eq_true rfl) (Nat.le_of_ble_eq_true rfl) (Nat.le_of_ble_eq_true rfl) rfl ?_
      refine v_if_ne (tgt := 21) dX2_fair_15 (by decide) rfl (fun _ => ?_) (fun q => absurd q (by decide))
      exact absurd ⟨q12, q2⟩ h
    · refine v_csf dX2_fair_12 cw_X2_49 ts_X2_isBelow ((c_isBelow G hp y 3).no ‹_›) (by rfl) (by rfl) (Nat.le_of_ble_eq_true rfl) (Nat.le_of_ble_eq_true rfl) (Nat.le_of_ble_eq_true rfl) (Nat.le_of_ble_eq_true rfl) (Nat.le_of_ble_eq_true rfl) rfl ?_
      refine v_if_ne (tgt := 21) dX2_fair_15 (by decide) rfl (fun q => absurd (by decide) q) (fun _ => ?_)
      refine v_bipush (v := (-100)) dX2_fair_18 (by decide) rfl ?_
      exact v_iret dX2_fair_20 rfl ⟨Nat.le_of_ble_eq_true rfl, Nat.le_of_ble_eq_true rfl⟩ (⟨rfl, rfl⟩)
  · refine v_cvf dX2_fair_2 cw_X2_92 ⟨tn_X2_workAt, tl_X2_workAt⟩ rfl (by first | assumption | exact set_get (by assumption) | exact set_get (set_get (by assumption))) (c_workAt_no G hp hX q2) (by rfl) (by rfl) (Nat.le_of_ble_eq_true rfl) (Nat.le_of_ble_eq_true rfl) (Nat.le_of_ble_eq_true rfl) (Nat.le_of_ble_eq_true rfl) (Nat.le_of_ble_eq_true rfl) rfl ?_
    refine v_astore_nN dX2_fair_5 (Nat.le_of_ble_eq_true rfl) rfl ?_
    refine v_aload_nN dX2_fair_6 rfl rfl ?_
    refine v_ifnullN (tgt := 18) dX2_fair_7 (by decide) ?_
    refine v_bipush (v := (-100)) dX2_fair_18 (by decide) rfl ?_
    exact v_iret dX2_fair_20 rfl ⟨Nat.le_of_ble_eq_true rfl, Nat.le_of_ble_eq_true rfl⟩ (⟨rfl, rfl⟩)
theorem x_drift_y (hX : PX G s x hp) {m w : Nat} (hm : m < 3) (hw : w < 3) : Ct G mX2_drift 10 0 0 [.ref (G.2.2.2 + 0), .int (nI m), .int (nI w)] hp (QX G hp (dfI s m w) s) := by
  have h0 := hX.1
  have hz := pilL_le s m s.n
  refine Ct.start 2 (by decide) rfl (Nat.le_of_ble_eq_true rfl) ?_
  refine v_iload_n dX2_drift_0 rfl rfl ?_
  refine v_iconst (v := nI 3) dX2_drift_1 (by decide) rfl ?_
  refine v_csf dX2_drift_2 cw_X2_49 ts_X2_isBelow ((c_isBelow G hp (nI m) 3).yes (inR_nI hm (by decide))) (by rfl) (by rfl) (Nat.le_of_ble_eq_true rfl) (Nat.le_of_ble_eq_true rfl) (Nat.le_of_ble_eq_true rfl) (Nat.le_of_ble_eq_true rfl) (Nat.le_of_ble_eq_true rfl) rfl ?_
  refine v_if_eq (tgt := 16) dX2_drift_5 (by decide) rfl (fun q => absurd q (by decide)) (fun _ => ?_)
  refine v_iload_n dX2_drift_8 rfl rfl ?_
  refine v_iconst (v := nI 3) dX2_drift_9 (by decide) rfl ?_
  refine v_csf dX2_drift_10 cw_X2_49 ts_X2_isBelow ((c_isBelow G hp (nI w) 3).yes (inR_nI hw (by decide))) (by rfl) (by rfl) (Nat.le_of_ble_eq_true rfl) (Nat.le_of_ble_eq_true rfl) (Nat.le_of_ble_eq_true rfl) (Nat.le_of_ble_eq_true rfl) (Nat.le_of_ble_eq_true rfl) rfl ?_
  refine v_if_ne (tgt := 19) dX2_drift_13 (by decide) rfl (fun _ => ?_) (fun q => absurd q (by decide))
  refine v_aload_n dX2_drift_19 rfl rfl ?_
  refine v_iload_n dX2_drift_20 rfl rfl ?_
  refine v_cv dX2_drift_21 cw_X2_156 ⟨tn_X2_gatherPile, tl_X2_gatherPile⟩ rfl (by first | assumption | exact set_get (by assumption) | exact set_get (set_get (by assumption))) (c_gatherPile G hp hX hm) (by rfl) (by rfl) (Nat.le_of_ble_eq_true rfl) (Nat.le_of_ble_eq_true rfl) (Nat.le_of_ble_eq_true rfl) (Nat.le_of_ble_eq_true rfl) (Nat.le_of_ble_eq_true rfl) rfl ?_
  rintro r h ⟨rfl, p, rfl, hp0⟩
  have hX' := hX.setPl p
  refine v_istore_n dX2_drift_24 (Nat.le_of_ble_eq_true rfl) rfl ?_
  have k0 := hX'.1
  refine v_iload_n dX2_drift_25 rfl rfl ?_
  refine v_iconst (v := nI 2) dX2_drift_26 (by decide) rfl ?_
  refine v_icmp_neN (tgt := 32) dX2_drift_27 (by decide) rfl (by omega) (by omega) (fun c27 => ?_) (fun c27 => ?_)
  · refine v_aload_n dX2_drift_32 rfl rfl ?_
    refine v_iload_n dX2_drift_33 rfl rfl ?_
    refine v_cvf dX2_drift_34 cw_X2_159 ⟨tn_X2_driftOfPile, tl_X2_driftOfPile⟩ rfl (by first | assumption | exact set_get (by assumption) | exact set_get (set_get (by assumption))) (c_driftOfPile G _ hX' hz) (by rfl) (by rfl) (Nat.le_of_ble_eq_true rfl) (Nat.le_of_ble_eq_true rfl) (Nat.le_of_ble_eq_true rfl) (Nat.le_of_ble_eq_true rfl) (Nat.le_of_ble_eq_true rfl) rfl ?_
    refine v_istore dX2_drift_37 (Nat.le_of_ble_eq_true rfl) rfl ?_
    refine v_iload_n dX2_drift_39 rfl rfl ?_
    refine v_if_neN (tgt := 48) dX2_drift_40 (by decide) rfl (by omega) (fun c40 => ?_) (fun c40 => ?_)
    · refine v_aload_n dX2_drift_48 rfl rfl ?_
      refine v_iload_n dX2_drift_49 rfl rfl ?_
      refine v_iload dX2_drift_50 rfl rfl ?_
      refine v_cv dX2_drift_52 cw_X2_162 ⟨tn_X2_oddsOfPile, tl_X2_oddsOfPile⟩ rfl (by first | assumption | exact set_get (by assumption) | exact set_get (set_get (by assumption))) (c_oddsOfPile G _ hX' hz _) (by rfl) (by rfl) (Nat.le_of_ble_eq_true rfl) (Nat.le_of_ble_eq_true rfl) (Nat.le_of_ble_eq_true rfl) (Nat.le_of_ble_eq_true rfl) (Nat.le_of_ble_eq_true rfl) rfl ?_
      rintro r h ⟨rfl, u, rfl⟩
      exact v_iret dX2_drift_55 rfl ⟨Nat.le_of_ble_eq_true rfl, Nat.le_of_ble_eq_true rfl⟩ (⟨by rw [dfI, if_neg ‹_›, if_neg ‹_›]; exact congrArg (fun z => some (Value.int z)) ((coI_congr _ _ _ _ (fun v _ => unI_congr hp0 v)).trans (congrArg (coI _ _) (drI_congr _ hp0))), ⟨_, hX'.setUn u⟩, (FrX.rf.set (by omega)).set (by omega)⟩)
    · refine v_iload dX2_drift_43 rfl rfl ?_
      refine v_goto (tgt := 55) dX2_drift_45 (by decide) ?_
      exact v_iret dX2_drift_55 rfl ⟨Nat.le_of_ble_eq_true rfl, Nat.le_of_ble_eq_true rfl⟩ (⟨by rw [dfI, if_neg ‹_›, if_pos ‹_›]; exact congrArg (fun z => some (Value.int z)) (drI_congr _ hp0), ⟨_, hX'⟩, FrX.rf.set (by omega)⟩)
  · refine v_iload_n dX2_drift_30 rfl rfl ?_
    exact v_iret dX2_drift_31 rfl ⟨Nat.le_of_ble_eq_true rfl, Nat.le_of_ble_eq_true rfl⟩ (⟨by rw [dfI, if_pos ‹_›]; rfl, ⟨_, hX'⟩, FrX.rf.set (by omega)⟩)
theorem x_drift_n {y p : Int32} (h : ¬ (InR y 3 ∧ InR p 3)) : Ct G mX2_drift 10 0 0 [.ref (G.2.2.2 + 0), .int y, .int p] hp (Qf (some (.int (-100))) hp) := by
  refine Ct.start 2 (by decide) rfl (Nat.le_of_ble_eq_true rfl) ?_
  refine v_iload_n dX2_drift_0 rfl rfl ?_
  refine v_iconst (v := nI 3) dX2_drift_1 (by decide) rfl ?_
  by_cases q2 : InR y 3
  · refine v_csf dX2_drift_2 cw_X2_49 ts_X2_isBelow ((c_isBelow G hp y 3).yes ‹_›) (by rfl) (by rfl) (Nat.le_of_ble_eq_true rfl) (Nat.le_of_ble_eq_true rfl) (Nat.le_of_ble_eq_true rfl) (Nat.le_of_ble_eq_true rfl) (Nat.le_of_ble_eq_true rfl) rfl ?_
    refine v_if_eq (tgt := 16) dX2_drift_5 (by decide) rfl (fun q => absurd q (by decide)) (fun _ => ?_)
    refine v_iload_n dX2_drift_8 rfl rfl ?_
    refine v_iconst (v := nI 3) dX2_drift_9 (by decide) rfl ?_
    by_cases q10 : InR p 3
    · refine v_csf dX2_drift_10 cw_X2_49 ts_X2_isBelow ((c_isBelow G hp p 3).yes ‹_›) (by rfl) (by rfl) (Nat.le_of_ble_eq_true rfl) (Nat.le_of_ble_eq_true rfl) (Nat.le_of_ble_eq_true rfl) (Nat.le_of_ble_eq_true rfl) (Nat.le_of_ble_eq_true rfl) rfl ?_
      refine v_if_ne (tgt := 19) dX2_drift_13 (by decide) rfl (fun _ => ?_) (fun q => absurd q (by decide))
      exact absurd ⟨q2, q10⟩ h
    · refine v_csf dX2_drift_10 cw_X2_49 ts_X2_isBelow ((c_isBelow G hp p 3).no ‹_›) (by rfl) (by rfl) (Nat.le_of_ble_eq_true rfl) (Nat.le_of_ble_eq_true rfl) (Nat.le_of_ble_eq_true rfl) (Nat.le_of_ble_eq_true rfl) (Nat.le_of_ble_eq_true rfl) rfl ?_
      refine v_if_ne (tgt := 19) dX2_drift_13 (by decide) rfl (fun q => absurd (by decide) q) (fun _ => ?_)
      refine v_bipush (v := (-100)) dX2_drift_16 (by decide) rfl ?_
      exact v_iret dX2_drift_18 rfl ⟨Nat.le_of_ble_eq_true rfl, Nat.le_of_ble_eq_true rfl⟩ (⟨rfl, rfl⟩)
  · refine v_csf dX2_drift_2 cw_X2_49 ts_X2_isBelow ((c_isBelow G hp y 3).no ‹_›) (by rfl) (by rfl) (Nat.le_of_ble_eq_true rfl) (Nat.le_of_ble_eq_true rfl) (Nat.le_of_ble_eq_true rfl) (Nat.le_of_ble_eq_true rfl) (Nat.le_of_ble_eq_true rfl) rfl ?_
    refine v_if_eq (tgt := 16) dX2_drift_5 (by decide) rfl (fun _ => ?_) (fun q => absurd (by decide) q)
    refine v_bipush (v := (-100)) dX2_drift_16 (by decide) rfl ?_
    exact v_iret dX2_drift_18 rfl ⟨Nat.le_of_ble_eq_true rfl, Nat.le_of_ble_eq_true rfl⟩ (⟨rfl, rfl⟩)
theorem x_count_y (hX : PX G s x hp) {w : Nat} (hw : w < 5) : Ct G mX2_count 8 0 0 [.ref (G.2.2.2 + 0), .int (nI w)] hp (Qf (some (.int (ctI s w))) hp) := by
  have h0 := hX.1
  have h5 : w = 0 ∨ w = 1 ∨ w = 2 ∨ w = 3 ∨ w = 4 := by omega
  refine Ct.start 0 (by decide) rfl (Nat.le_of_ble_eq_true rfl) ?_
  rcases h5 with h5 | h5 | h5 | h5 | h5 <;> subst h5
  · refine v_iload_n dX2_count_0 rfl rfl ?_
    refine v_tableIn (off := 35) (tgt := 36) dX2_count_1 (by decide) (by decide) (by decide) (by decide) ?_
    refine v_aload_n dX2_count_36 rfl rfl ?_
    refine v_getf dX2_count_37 fl_X2_21 (by first | assumption | exact set_get (by assumption) | exact set_get (set_get (by assumption))) (by rfl) rfl ?_
    exact v_iret dX2_count_40 rfl ⟨Nat.le_of_ble_eq_true rfl, Nat.le_of_ble_eq_true rfl⟩ (⟨rfl, rfl⟩)
  · refine v_iload_n dX2_count_0 rfl rfl ?_
    refine v_tableIn (off := 40) (tgt := 41) dX2_count_1 (by decide) (by decide) (by decide) (by decide) ?_
    refine v_aload_n dX2_count_41 rfl rfl ?_
    refine v_cvf dX2_count_42 cw_X2_175 ⟨tn_X2_countAnchors, tl_X2_countAnchors⟩ rfl (by first | assumption | exact set_get (by assumption) | exact set_get (set_get (by assumption))) (c_countAnchors G hp hX) (by rfl) (by rfl) (Nat.le_of_ble_eq_true rfl) (Nat.le_of_ble_eq_true rfl) (Nat.le_of_ble_eq_true rfl) (Nat.le_of_ble_eq_true rfl) (Nat.le_of_ble_eq_true rfl) rfl ?_
    exact v_iret dX2_count_45 rfl ⟨Nat.le_of_ble_eq_true rfl, Nat.le_of_ble_eq_true rfl⟩ (⟨rfl, rfl⟩)
  · refine v_iload_n dX2_count_0 rfl rfl ?_
    refine v_tableIn (off := 45) (tgt := 46) dX2_count_1 (by decide) (by decide) (by decide) (by decide) ?_
    refine v_aload_n dX2_count_46 rfl rfl ?_
    refine v_cvf dX2_count_47 cw_X2_178 ⟨tn_X2_countMarks, tl_X2_countMarks⟩ rfl (by first | assumption | exact set_get (by assumption) | exact set_get (set_get (by assumption))) (c_countMarks G hp hX) (by rfl) (by rfl) (Nat.le_of_ble_eq_true rfl) (Nat.le_of_ble_eq_true rfl) (Nat.le_of_ble_eq_true rfl) (Nat.le_of_ble_eq_true rfl) (Nat.le_of_ble_eq_true rfl) rfl ?_
    exact v_iret dX2_count_50 rfl ⟨Nat.le_of_ble_eq_true rfl, Nat.le_of_ble_eq_true rfl⟩ (⟨rfl, rfl⟩)
  · refine v_iload_n dX2_count_0 rfl rfl ?_
    refine v_tableIn (off := 50) (tgt := 51) dX2_count_1 (by decide) (by decide) (by decide) (by decide) ?_
    refine v_aload_n dX2_count_51 rfl rfl ?_
    refine v_iconst (v := nI 0) dX2_count_52 (by decide) rfl ?_
    refine v_cvf dX2_count_53 cw_X2_181 ⟨tn_X2_countSensible, tl_X2_countSensible⟩ rfl (by first | assumption | exact set_get (by assumption) | exact set_get (set_get (by assumption))) (c_countSensible G hp hX (sh := 0) (by decide)) (by rfl) (by rfl) (Nat.le_of_ble_eq_true rfl) (Nat.le_of_ble_eq_true rfl) (Nat.le_of_ble_eq_true rfl) (Nat.le_of_ble_eq_true rfl) (Nat.le_of_ble_eq_true rfl) rfl ?_
    exact v_iret dX2_count_56 rfl ⟨Nat.le_of_ble_eq_true rfl, Nat.le_of_ble_eq_true rfl⟩ (⟨rfl, rfl⟩)
  · refine v_iload_n dX2_count_0 rfl rfl ?_
    refine v_tableIn (off := 56) (tgt := 57) dX2_count_1 (by decide) (by decide) (by decide) (by decide) ?_
    refine v_aload_n dX2_count_57 rfl rfl ?_
    refine v_iconst (v := nI 1) dX2_count_58 (by decide) rfl ?_
    refine v_cvf dX2_count_59 cw_X2_181 ⟨tn_X2_countSensible, tl_X2_countSensible⟩ rfl (by first | assumption | exact set_get (by assumption) | exact set_get (set_get (by assumption))) (c_countSensible G hp hX (sh := 1) (by decide)) (by rfl) (by rfl) (Nat.le_of_ble_eq_true rfl) (Nat.le_of_ble_eq_true rfl) (Nat.le_of_ble_eq_true rfl) (Nat.le_of_ble_eq_true rfl) (Nat.le_of_ble_eq_true rfl) rfl ?_
    exact v_iret dX2_count_62 rfl ⟨Nat.le_of_ble_eq_true rfl, Nat.le_of_ble_eq_true rfl⟩ (⟨rfl, rfl⟩)
theorem out_of {y : Int32} {n : Nat} (hn : n + 1 < 2 ^ 31) (h : ¬ InR y (n + 1)) : y.toInt < 0 ∨ (n : Int) < y.toInt := by
  by_cases h0 : 0 ≤ y
  · have h1 : nI (n + 1) ≤ y := Classical.byContradiction (fun q => h ⟨h0, q⟩)
    have h2 := Int32.le_iff_toInt_le.mp h1
    rw [nI_toInt hn] at h2
    exact Or.inr (by omega)
  · have h2 := Int32.lt_iff_toInt_lt.mp (Int32.not_le.mp h0)
    exact Or.inl h2
theorem x_count_n {y : Int32} (h : ¬ InR y 5) : Ct G mX2_count 8 0 0 [.ref (G.2.2.2 + 0), .int y] hp (Qf (some (.int (-100))) hp) := by
  refine Ct.start 0 (by decide) rfl (Nat.le_of_ble_eq_true rfl) ?_
  refine v_iload_n dX2_count_0 rfl rfl ?_
  refine v_tableOut (tgt := 63) dX2_count_1 (out_of (by decide) h) (by decide) ?_
  refine v_bipush (v := (-100)) dX2_count_63 (by decide) rfl ?_
  exact v_iret dX2_count_65 rfl ⟨Nat.le_of_ble_eq_true rfl, Nat.le_of_ble_eq_true rfl⟩ (⟨rfl, rfl⟩)
theorem x_trace (hX : PX G s x hp) : Ct G mX2_trace 0 0 0 [.ref (G.2.2.2 + 0)] hp (Qf (some (.long s.tc)) hp) := by
  have h0 := hX.1
  refine Ct.start 0 (by decide) rfl (Nat.le_of_ble_eq_true rfl) ?_
  refine v_aload_n dX2_trace_0 rfl rfl ?_
  refine v_getf dX2_trace_1 fl_X2_25 (by first | assumption | exact set_get (by assumption) | exact set_get (set_get (by assumption))) (by rfl) rfl ?_
  exact v_lret dX2_trace_4 rfl ⟨Nat.le_of_ble_eq_true rfl, Nat.le_of_ble_eq_true rfl⟩ (⟨rfl, rfl⟩)
end FACE2
end
section
-- LOOK: by first | assumption | exact set_get (by assumption) | exact set_get (set_get (by assumption))
/-! THE CLASS'S FACE: two sheets -/
noncomputable def mvI (s : ST) (w : Nat) : Int32 := if w = 0 then nI (cnt (fun w => ¬ ptsI s 0 w 4 = ptsI s 1 w 4) s.n) else nI (trnN (fun w => ptsI s 0 w 4) (fun w => ptsI s 1 w 4) s.n s.n)
theorem trnN_congr {p q p' q' : Nat → Int32} {n : Nat} (h : ∀ j, j < n → p j = p' j ∧ q j = q' j) : ∀ i, i ≤ n → trnN p q n i = trnN p' q' n i
  | 0, _ => rfl
  | i + 1, hi => by
    rw [trnN, trnN, trnN_congr h i (by omega), cnt_congr n (fun j hj => by rw [(h i (by omega)).1, (h i (by omega)).2, (h j hj).1, (h j hj).2])]
def cpyT (f g : Nat → Int32) : Nat → (Nat → Int32)
  | 0 => f
  | k + 1 => upd (cpyT f g k) k (g k)
theorem cpyT_at (f g : Nat → Int32) : ∀ k j, j < k → cpyT f g k j = g j
  | 0, j, h => absurd h (by omega)
  | k + 1, j, h => by
    by_cases e : j = k
    · subst e; exact upd_s _ _ _
    · exact (upd_n e).trans (cpyT_at f g k j (by omega))
def beS (s : ST) (a b : Nat) : ST := (upd s.1 b (s.1 a), upd s.2.1 b (s.2.1 a), upd s.2.2.1 b (s.2.2.1 a), updF s.2.2.2.1 b (cpyT (s.2.2.2.1 b) (s.2.2.2.1 a) 4), updF s.2.2.2.2.1 b (cpyT (s.2.2.2.2.1 b) (s.2.2.2.2.1 a) 4), s.2.2.2.2.2)
def cp0 (s : ST) : Nat → ST
  | 0 => s
  | k + 1 => beS (cp0 s k) k (4 + k)
def cp1 (s : ST) : Nat → ST
  | 0 => s
  | k + 1 => beS (cp1 s k) (4 + k) k
def sj (j : Nat) : Nat := if j < 4 then j + 4 else j - 4
def swS (s : ST) : ST := (fun j => s.1 (sj j), fun j => s.2.1 (sj j), fun j => s.2.2.1 (sj j), fun j => s.2.2.2.1 (sj j), fun j => s.2.2.2.2.1 (sj j), s.2.2.2.2.2)
theorem la_not (sw : Bool) {j : Nat} (hj : j < 8) : la (!sw) j = la sw (sj j) := by
  cases sw
  · show (if j < 4 then 19 + 3 * j else 3 * j - 5) = 7 + 3 * sj j
    unfold sj
    split <;> omega
  · show 7 + 3 * j = if sj j < 4 then 19 + 3 * sj j else 3 * sj j - 5
    unfold sj
    split
    · rw [if_neg (by omega)]; omega
    · rw [if_pos (by omega)]; omega
def cpS (s : ST) (w : Nat) : ST := if w = 0 then cp0 s 4 else if w = 1 then cp1 s 4 else swS s
section PXC
variable {G : GG} {hp h : List va_E} {s : ST} {x : XT}
theorem PX.beS (hX : PX G s x hp) {a b : Nat} (ha : a < 8) (hb : b < 8) (hL : LN G h (la x.1 b) (s.kd a) (s.fc a) (s.wt a) (cpyT (s.fr b) (s.fr a) 4) (cpyT (s.to b) (s.to a) 4)) (hf : ∀ i, (i < la x.1 b ∨ la x.1 b + 2 < i) → h[i]? = hp[i]?) (hlen2 : h.length = hp.length) : PX G (beS s a b) x h := by
  obtain ⟨h0, h1, hgl, h2, hgw, h3, h4, h5, h6, hln, hwk, hn, hlen⟩ := hX
  have hla := la_in x.1 hb
  refine ⟨(hf _ (by omega)).trans h0, (hf _ (by omega)).trans h1, hgl, (hf _ (by omega)).trans h2, hgw, (hf _ (by omega)).trans h3, (hf _ (by omega)).trans h4, (hf _ (by omega)).trans h5, (hf _ (by omega)).trans h6, fun i hi => ?_, fun w hw => (hwk w hw).frame (fun i q1 q2 => hf i (by omega)), hn, hlen2.trans hlen⟩
  by_cases e : i = b
  · subst e
    show LN G _ _ (upd s.kd i (s.kd a) i) (upd s.fc i (s.fc a) i) (upd s.wt i (s.wt a) i) (updF s.fr i (cpyT (s.fr i) (s.fr a) 4) i) (updF s.to i (cpyT (s.to i) (s.to a) 4) i)
    rw [upd_s, upd_s, upd_s, updF_s, updF_s]
    exact hL
  · show LN G _ _ (upd s.kd b (s.kd a) i) (upd s.fc b (s.fc a) i) (upd s.wt b (s.wt a) i) (updF s.fr b (cpyT (s.fr b) (s.fr a) 4) i) (updF s.to b (cpyT (s.to b) (s.to a) 4) i)
    rw [upd_n e, upd_n e, upd_n e, updF_n e, updF_n e]
    exact (hln i hi).frame (fun q q1 q2 => hf q (by have := la_apart x.1 hi hb e; omega))
end PXC
section FACE3
variable (G : GG) (hp : List va_E) {s : ST} {x : XT}
theorem x_moves_y (hX : PX G s x hp) (hI : Inv s) {w : Nat} (hw : w < 2) : Ct G mX2_moves 6 0 0 [.ref (G.2.2.2 + 0), .int (nI w)] hp (QX G hp (mvI s w) s) := by
  have hn := hX.2.2.2.2.2.2.2.2.2.2.2.1
  have key : ∀ k, k ≤ s.n → ∀ x h, PX G s x h → FrX hp h → (∀ j, j < k → x.2.2.2.2.2.1 j = ptsI s 0 j 4 ∧ x.2.2.2.2.2.2 j = ptsI s 1 j 4) → Vm G mX2_moves 6 0 0 (QX G hp (mvI s w) s) 13 [some (.ref (G.2.2.2 + 0)), some (.int (nI w)), some (.int (nI k))] [] h 0 0 := by
    refine loop_up ?_ (fun k hk ih => ?_)
    · intro x h hX hF hq
      have h0 := hX.1
      refine v_iload_n dX2_moves_13 rfl rfl ?_
      refine v_aload_n dX2_moves_14 rfl rfl ?_
      refine v_getf dX2_moves_15 fl_X2_21 (by first | assumption | exact set_get (by assumption) | exact set_get (set_get (by assumption))) (by rfl) rfl ?_
      refine v_icmp_geN (tgt := 61) dX2_moves_18 (by decide) rfl (by omega) (by omega) (fun c18 => ?_) (fun c18 => ?_)
      · refine v_iload_n dX2_moves_61 rfl rfl ?_
        refine v_if_neN (tgt := 72) dX2_moves_62 (by decide) rfl (by omega) (fun c62 => ?_) (fun c62 => ?_)
        · refine v_aload_n dX2_moves_72 rfl rfl ?_
          refine v_cvf dX2_moves_73 cw_X2_168 ⟨tn_X2_countTurned, tl_X2_countTurned⟩ rfl (by first | assumption | exact set_get (by assumption) | exact set_get (set_get (by assumption))) (c_countTurned G h hX) (by rfl) (by rfl) (Nat.le_of_ble_eq_true rfl) (Nat.le_of_ble_eq_true rfl) (Nat.le_of_ble_eq_true rfl) (Nat.le_of_ble_eq_true rfl) (Nat.le_of_ble_eq_true rfl) rfl ?_
          exact v_iret dX2_moves_76 rfl ⟨Nat.le_of_ble_eq_true rfl, Nat.le_of_ble_eq_true rfl⟩ (⟨by first | (rw [mvI, if_pos ‹_›, cnt_congr s.n (fun j hj => by rw [(hq j hj).1, (hq j hj).2])]; done) | (rw [mvI, if_neg ‹_›, trnN_congr hq s.n (Nat.le_refl _)]; done), ⟨x, hX⟩, hF⟩)
        · refine v_aload_n dX2_moves_65 rfl rfl ?_
          refine v_cvf dX2_moves_66 cw_X2_165 ⟨tn_X2_countMoved, tl_X2_countMoved⟩ rfl (by first | assumption | exact set_get (by assumption) | exact set_get (set_get (by assumption))) (c_countMoved G h hX) (by rfl) (by rfl) (Nat.le_of_ble_eq_true rfl) (Nat.le_of_ble_eq_true rfl) (Nat.le_of_ble_eq_true rfl) (Nat.le_of_ble_eq_true rfl) (Nat.le_of_ble_eq_true rfl) rfl ?_
          refine v_goto (tgt := 76) dX2_moves_69 (by decide) ?_
          exact v_iret dX2_moves_76 rfl ⟨Nat.le_of_ble_eq_true rfl, Nat.le_of_ble_eq_true rfl⟩ (⟨by first | (rw [mvI, if_pos ‹_›, cnt_congr s.n (fun j hj => by rw [(hq j hj).1, (hq j hj).2])]; done) | (rw [mvI, if_neg ‹_›, trnN_congr hq s.n (Nat.le_refl _)]; done), ⟨x, hX⟩, hF⟩)
      · exact absurd c18 (by omega)
    · intro x h hX hF hq
      obtain ⟨h0, h1, hgl, h2, hgw, h3, h4, h5, h6, hln, hwk, hn', hlen⟩ := id hX
      have hX2 := hX.setOp (upd x.2.2.2.2.2.1 k (ptsI s 0 k 4))
      obtain ⟨g0, g1, ggl, g2, ggw, g3, g4, g5, g6, gln, gwk, gn, glen⟩ := id hX2
      refine v_iload_n dX2_moves_13 rfl rfl ?_
      refine v_aload_n dX2_moves_14 rfl rfl ?_
      refine v_getf dX2_moves_15 fl_X2_21 (by first | assumption | exact set_get (by assumption) | exact set_get (set_get (by assumption))) (by rfl) rfl ?_
      refine v_icmp_geN (tgt := 61) dX2_moves_18 (by decide) rfl (by omega) (by omega) (fun c18 => ?_) (fun c18 => ?_)
      · exact absurd c18 (by omega)
      · refine v_aload_n dX2_moves_21 rfl rfl ?_
        refine v_getf dX2_moves_22 fl_X2_36 (by first | assumption | exact set_get (by assumption) | exact set_get (set_get (by assumption))) (by rfl) rfl ?_
        refine v_iload_n dX2_moves_25 rfl rfl ?_
        refine v_aload_n dX2_moves_26 rfl rfl ?_
        refine v_iconst (v := nI 0) dX2_moves_27 (by decide) rfl ?_
        refine v_aload_n dX2_moves_28 rfl rfl ?_
        refine v_getf dX2_moves_29 fl_X2_17 (by first | assumption | exact set_get (by assumption) | exact set_get (set_get (by assumption))) (by rfl) rfl ?_
        refine v_iload_n dX2_moves_32 rfl rfl ?_
        refine v_aaldW _ dX2_moves_33 (by first | assumption | exact set_get (by assumption) | exact set_get (set_get (by assumption))) rfl (by omega) (by decide) (by rw [hgw _ (by omega)]) rfl ?_
        refine v_cvf dX2_moves_34 cw_X2_99 ⟨tn_X2_pointsBy, tl_X2_pointsBy⟩ rfl (by first | assumption | exact set_get (by assumption) | exact set_get (set_get (by assumption))) (c_pointsBy G h hX hI (sh := 0) (by decide) hk) (by rfl) (by rfl) (Nat.le_of_ble_eq_true rfl) (Nat.le_of_ble_eq_true rfl) (Nat.le_of_ble_eq_true rfl) (Nat.le_of_ble_eq_true rfl) (Nat.le_of_ble_eq_true rfl) rfl ?_
        refine v_iast _ dX2_moves_37 (by first | assumption | exact set_get (by assumption) | exact set_get (set_get (by assumption))) rfl (by omega) (by decide) rfl ?_
        refine v_aload_n dX2_moves_38 rfl rfl ?_
        refine v_getf dX2_moves_39 fl_X2_39 (by first | assumption | exact set_get (by assumption) | exact set_get (set_get (by assumption))) (by rfl) rfl ?_
        refine v_iload_n dX2_moves_42 rfl rfl ?_
        refine v_aload_n dX2_moves_43 rfl rfl ?_
        refine v_iconst (v := nI 1) dX2_moves_44 (by decide) rfl ?_
        refine v_aload_n dX2_moves_45 rfl rfl ?_
        refine v_getf dX2_moves_46 fl_X2_17 (by first | assumption | exact set_get (by assumption) | exact set_get (set_get (by assumption))) (by rfl) rfl ?_
        refine v_iload_n dX2_moves_49 rfl rfl ?_
        refine v_aaldW _ dX2_moves_50 (by first | assumption | exact set_get (by assumption) | exact set_get (set_get (by assumption))) rfl (by omega) (by decide) (by rw [hgw _ (by omega)]) rfl ?_
        refine v_cvf dX2_moves_51 cw_X2_99 ⟨tn_X2_pointsBy, tl_X2_pointsBy⟩ rfl (by first | assumption | exact set_get (by assumption) | exact set_get (set_get (by assumption))) (c_pointsBy G _ hX2 hI (sh := 1) (by decide) hk) (by rfl) (by rfl) (Nat.le_of_ble_eq_true rfl) (Nat.le_of_ble_eq_true rfl) (Nat.le_of_ble_eq_true rfl) (Nat.le_of_ble_eq_true rfl) (Nat.le_of_ble_eq_true rfl) rfl ?_
        refine v_iast _ dX2_moves_54 (by first | assumption | exact set_get (by assumption) | exact set_get (set_get (by assumption))) rfl (by omega) (by decide) rfl ?_
        refine v_iinc1 dX2_moves_55 rfl (Nat.le_of_ble_eq_true rfl) rfl ?_
        refine v_goto (tgt := 13) dX2_moves_58 (by decide) ?_
        exact ih _ _ (hX2.setNp _) ((hF.set (by omega)).set (by omega)) (fun j hj => by
                  by_cases e : j = k
                  · subst e; exact ⟨upd_s _ _ _, upd_s _ _ _⟩
                  · exact ⟨(upd_n e).trans (hq j (by omega)).1, (upd_n e).trans (hq j (by omega)).2⟩)
  have h0 := hX.1
  refine Ct.start 1 (by decide) rfl (Nat.le_of_ble_eq_true rfl) ?_
  refine v_iload_n dX2_moves_0 rfl rfl ?_
  refine v_iconst (v := nI 2) dX2_moves_1 (by decide) rfl ?_
  refine v_csf dX2_moves_2 cw_X2_49 ts_X2_isBelow ((c_isBelow G hp (nI w) 2).yes (inR_nI hw (by decide))) (by rfl) (by rfl) (Nat.le_of_ble_eq_true rfl) (Nat.le_of_ble_eq_true rfl) (Nat.le_of_ble_eq_true rfl) (Nat.le_of_ble_eq_true rfl) (Nat.le_of_ble_eq_true rfl) rfl ?_
  refine v_if_ne (tgt := 11) dX2_moves_5 (by decide) rfl (fun _ => ?_) (fun q => absurd q (by decide))
  refine v_iconst (v := nI 0) dX2_moves_11 (by decide) rfl ?_
  refine v_istore_n dX2_moves_12 (Nat.le_of_ble_eq_true rfl) rfl ?_
  exact key 0 (Nat.zero_le _) x hp hX FrX.rf (fun j hj => absurd hj (by omega))
theorem x_moves_n {y : Int32} (h : ¬ InR y 2) : Ct G mX2_moves 6 0 0 [.ref (G.2.2.2 + 0), .int y] hp (Qf (some (.int (-100))) hp) := by
  refine Ct.start 1 (by decide) rfl (Nat.le_of_ble_eq_true rfl) ?_
  refine v_iload_n dX2_moves_0 rfl rfl ?_
  refine v_iconst (v := nI 2) dX2_moves_1 (by decide) rfl ?_
  refine v_csf dX2_moves_2 cw_X2_49 ts_X2_isBelow ((c_isBelow G hp y 2).no h) (by rfl) (by rfl) (Nat.le_of_ble_eq_true rfl) (Nat.le_of_ble_eq_true rfl) (Nat.le_of_ble_eq_true rfl) (Nat.le_of_ble_eq_true rfl) (Nat.le_of_ble_eq_true rfl) rfl ?_
  refine v_if_ne (tgt := 11) dX2_moves_5 (by decide) rfl (fun q => absurd (by decide) q) (fun _ => ?_)
  refine v_bipush (v := (-100)) dX2_moves_8 (by decide) rfl ?_
  exact v_iret dX2_moves_10 rfl ⟨Nat.le_of_ble_eq_true rfl, Nat.le_of_ble_eq_true rfl⟩ (⟨rfl, rfl⟩)
theorem c_becomeAs {a b : Nat} {kd fc wt kd2 fc2 wt2 : Int32} {f t f2 t2 : Nat → Int32} (hA : LN G hp a kd fc wt f t) (hB : LN G hp b kd2 fc2 wt2 f2 t2) (hab : a + 3 ≤ b ∨ b + 3 ≤ a) : Ct G mX0_becomeAs 0 0 0 [.ref (G.2.2.2 + a), .ref (G.2.2.2 + b)] hp (fun r h => r = none ∧ LN G h a kd2 fc2 wt2 (cpyT f f2 4) (cpyT t t2 4) ∧ (∀ i, (i < a ∨ a + 2 < i) → h[i]? = hp[i]?) ∧ h.length = hp.length) := by
  have key : ∀ k, k ≤ 4 → ∀ h, LN G h a kd2 fc2 wt2 (cpyT f f2 k) (cpyT t t2 k) → (∀ i, (i < a ∨ a + 2 < i) → h[i]? = hp[i]?) → h.length = hp.length → Vm G mX0_becomeAs 0 0 0 (fun r h => r = none ∧ LN G h a kd2 fc2 wt2 (cpyT f f2 4) (cpyT t t2 4) ∧ (∀ i, (i < a ∨ a + 2 < i) → h[i]? = hp[i]?) ∧ h.length = hp.length) 26 [some (.ref (G.2.2.2 + a)), some (.ref (G.2.2.2 + b)), some (.int (nI k))] [] h 0 0 := by
    refine loop_up ?_ (fun k hk ih => ?_)
    · intro h hL hf hlen
      refine v_iload_n dX0_becomeAs_26 rfl rfl ?_
      refine v_iconst (v := nI 4) dX0_becomeAs_27 (by decide) rfl ?_
      refine v_icmp_geN (tgt := 61) dX0_becomeAs_28 (by decide) rfl (by omega) (by omega) (fun c28 => ?_) (fun c28 => ?_)
      · exact v_vret dX0_becomeAs_61 rfl ⟨Nat.le_of_ble_eq_true rfl, Nat.le_of_ble_eq_true rfl⟩ (⟨rfl, hL, hf, hlen⟩)
      · exact absurd c28 (by omega)
    · intro h hL hf hlen
      have hB' := hB.frame (h := h) (fun i q1 q2 => hf i (by omega))
      obtain ⟨l1, l2, l3⟩ := hL
      obtain ⟨k1, k2, k3⟩ := hB'
      refine v_iload_n dX0_becomeAs_26 rfl rfl ?_
      refine v_iconst (v := nI 4) dX0_becomeAs_27 (by decide) rfl ?_
      refine v_icmp_geN (tgt := 61) dX0_becomeAs_28 (by decide) rfl (by omega) (by omega) (fun c28 => ?_) (fun c28 => ?_)
      · exact absurd c28 (by omega)
      · refine v_aload_n dX0_becomeAs_31 rfl rfl ?_
        refine v_getf dX0_becomeAs_32 fl_X0_18 (by first | assumption | exact set_get (by assumption) | exact set_get (set_get (by assumption))) (by rfl) rfl ?_
        refine v_iload_n dX0_becomeAs_35 rfl rfl ?_
        refine v_aload_n dX0_becomeAs_36 rfl rfl ?_
        refine v_getf dX0_becomeAs_37 fl_X0_18 (by first | assumption | exact set_get (by assumption) | exact set_get (set_get (by assumption))) (by rfl) rfl ?_
        refine v_iload_n dX0_becomeAs_40 rfl rfl ?_
        refine v_iald _ dX0_becomeAs_41 (by first | assumption | exact set_get (by assumption) | exact set_get (set_get (by assumption))) rfl (by omega) (by decide) rfl ?_
        refine v_iast _ dX0_becomeAs_42 (by first | assumption | exact set_get (by assumption) | exact set_get (set_get (by assumption))) rfl (by omega) (by decide) rfl ?_
        have l1' := (set_ne (e := aI G 4 (upd (cpyT f f2 k) k (f2 k))) (show a ≠ a + 1 by omega)).trans l1
        have l3' := (set_ne (e := aI G 4 (upd (cpyT f f2 k) k (f2 k))) (show a + 2 ≠ a + 1 by omega)).trans l3
        have k1' := (set_ne (e := aI G 4 (upd (cpyT f f2 k) k (f2 k))) (show b ≠ a + 1 by omega)).trans k1
        have k3' := (set_ne (e := aI G 4 (upd (cpyT f f2 k) k (f2 k))) (show b + 2 ≠ a + 1 by omega)).trans k3
        refine v_aload_n dX0_becomeAs_43 rfl rfl ?_
        refine v_getf dX0_becomeAs_44 fl_X0_22 (by first | assumption | exact set_get (by assumption) | exact set_get (set_get (by assumption))) (by rfl) rfl ?_
        refine v_iload_n dX0_becomeAs_47 rfl rfl ?_
        refine v_aload_n dX0_becomeAs_48 rfl rfl ?_
        refine v_getf dX0_becomeAs_49 fl_X0_22 (by first | assumption | exact set_get (by assumption) | exact set_get (set_get (by assumption))) (by rfl) rfl ?_
        refine v_iload_n dX0_becomeAs_52 rfl rfl ?_
        refine v_iald _ dX0_becomeAs_53 (by first | assumption | exact set_get (by assumption) | exact set_get (set_get (by assumption))) rfl (by omega) (by decide) rfl ?_
        refine v_iast _ dX0_becomeAs_54 (by first | assumption | exact set_get (by assumption) | exact set_get (set_get (by assumption))) rfl (by omega) (by decide) rfl ?_
        refine v_iinc1 dX0_becomeAs_55 rfl (Nat.le_of_ble_eq_true rfl) rfl ?_
        refine v_goto (tgt := 26) dX0_becomeAs_58 (by decide) ?_
        exact ih _ ⟨(set_ne (by omega)).trans l1', (set_ne (by omega)).trans (set_get l2), set_get l3'⟩ (fun i hi => (set_ne (by omega)).trans ((set_ne (by omega)).trans (hf i hi))) (by rw [List.length_set, List.length_set]; exact hlen)
  obtain ⟨l1, l2, l3⟩ := hA
  obtain ⟨k1, k2, k3⟩ := id hB
  refine Ct.start 1 (by decide) rfl (Nat.le_of_ble_eq_true rfl) ?_
  refine v_aload_n dX0_becomeAs_0 rfl rfl ?_
  refine v_aload_n dX0_becomeAs_1 rfl rfl ?_
  refine v_getf dX0_becomeAs_2 fl_X0_9 (by first | assumption | exact set_get (by assumption) | exact set_get (set_get (by assumption))) (by rfl) rfl ?_
  refine v_putf dX0_becomeAs_5 fl_X0_9 (by first | assumption | exact set_get (by assumption) | exact set_get (set_get (by assumption))) (by rfl) (by rfl) (by exact Nat.le_of_ble_eq_true rfl) rfl ?_
  refine v_aload_n dX0_becomeAs_8 rfl rfl ?_
  refine v_aload_n dX0_becomeAs_9 rfl rfl ?_
  refine v_getf dX0_becomeAs_10 fl_X0_25 ((set_ne (by omega)).trans k1) (by rfl) rfl ?_
  refine v_putf dX0_becomeAs_13 fl_X0_25 (by first | assumption | exact set_get (by assumption) | exact set_get (set_get (by assumption))) (by rfl) (by rfl) (by exact Nat.le_of_ble_eq_true rfl) rfl ?_
  refine v_aload_n dX0_becomeAs_16 rfl rfl ?_
  refine v_aload_n dX0_becomeAs_17 rfl rfl ?_
  refine v_getf dX0_becomeAs_18 fl_X0_15 ((set_ne (by omega)).trans ((set_ne (by omega)).trans k1)) (by rfl) rfl ?_
  refine v_putf dX0_becomeAs_21 fl_X0_15 (by first | assumption | exact set_get (by assumption) | exact set_get (set_get (by assumption))) (by rfl) (by rfl) (by exact Nat.le_of_ble_eq_true rfl) rfl ?_
  refine v_iconst (v := nI 0) dX0_becomeAs_24 (by decide) rfl ?_
  refine v_istore_n dX0_becomeAs_25 (Nat.le_of_ble_eq_true rfl) rfl ?_
  exact key 0 (Nat.zero_le _) _ ⟨set_get (set_get (set_get l1)), (set_ne (by omega)).trans ((set_ne (by omega)).trans ((set_ne (by omega)).trans l2)), (set_ne (by omega)).trans ((set_ne (by omega)).trans ((set_ne (by omega)).trans l3))⟩ (fun i hi => (set_ne (by omega)).trans ((set_ne (by omega)).trans (set_ne (by omega)))) (by rw [List.length_set, List.length_set, List.length_set])
theorem x_copy_y (hX : PX G s x hp) {w : Nat} (hw : w < 3) : Ct G mX2_copy 1 0 0 [.ref (G.2.2.2 + 0), .int (nI w)] hp (QX G hp (nI 1) (cpS s w)) := by
  have h0 := hX.1
  refine Ct.start 3 (by decide) rfl (Nat.le_of_ble_eq_true rfl) ?_
  have h3 : w = 0 ∨ w = 1 ∨ w = 2 := by omega
  rcases h3 with h3 | h3 | h3 <;> subst h3
  · have key : ∀ k, k ≤ 4 → ∀ x h, PX G (cp0 s k) x h → FrX hp h → ∀ l3 l4 : Option Value, Vm G mX2_copy 1 0 0 (QX G hp (nI 1) (cpS s 0)) 13 [some (.ref (G.2.2.2 + 0)), some (.int (nI 0)), some (.int (nI k)), l3, l4] [] h 0 0 := by
      refine loop_up ?_ (fun k hk ih => ?_)
      · intro x h hX hF l3 l4
        refine v_iload_n dX2_copy_13 rfl rfl ?_
        refine v_iconst (v := nI 4) dX2_copy_14 (by decide) rfl ?_
        refine v_icmp_geN (tgt := 85) dX2_copy_15 (by decide) rfl (by omega) (by omega) (fun c15 => ?_) (fun c15 => ?_)
        · refine v_iconst (v := nI 1) dX2_copy_85 (by decide) rfl ?_
          exact v_iret dX2_copy_86 rfl ⟨Nat.le_of_ble_eq_true rfl, Nat.le_of_ble_eq_true rfl⟩ (⟨rfl, ⟨x, hX⟩, hF⟩)
        · exact absurd c15 (by omega)
      · intro x h hX hF l3 l4
        obtain ⟨h0, h1, hgl, h2, hgw, h3, h4, h5, h6, hln, hwk, hn', hlen⟩ := id hX
        have hA := hln k (by omega)
        have hB := hln (4 + k) (by omega)
        have lb := hB.1
        have hla := la_in x.1 (j := 4 + k) (by omega)
        refine v_iload_n dX2_copy_13 rfl rfl ?_
        refine v_iconst (v := nI 4) dX2_copy_14 (by decide) rfl ?_
        refine v_icmp_geN (tgt := 85) dX2_copy_15 (by decide) rfl (by omega) (by omega) (fun c15 => ?_) (fun c15 => ?_)
        · exact absurd c15 (by omega)
        · refine v_aload_n dX2_copy_18 rfl rfl ?_
          refine v_getf dX2_copy_19 fl_X2_11 (by first | assumption | exact set_get (by assumption) | exact set_get (set_get (by assumption))) (by rfl) rfl ?_
          refine v_iload_n dX2_copy_22 rfl rfl ?_
          refine v_aaldL _ dX2_copy_23 (by first | assumption | exact set_get (by assumption) | exact set_get (set_get (by assumption))) rfl (by omega) (by decide) (by rw [hgl _ (by omega)]) rfl ?_
          refine v_astore_n dX2_copy_24 (Nat.le_of_ble_eq_true rfl) rfl ?_
          refine v_aload_n dX2_copy_25 rfl rfl ?_
          refine v_getf dX2_copy_26 fl_X2_11 (by first | assumption | exact set_get (by assumption) | exact set_get (set_get (by assumption))) (by rfl) rfl ?_
          refine v_iconst (v := nI 4) dX2_copy_29 (by decide) rfl ?_
          refine v_iload_n dX2_copy_30 rfl rfl ?_
          refine v_iaddN dX2_copy_31 rfl ?_
          refine v_aaldL _ dX2_copy_32 (by first | assumption | exact set_get (by assumption) | exact set_get (set_get (by assumption))) rfl (by omega) (by decide) (by rw [hgl _ (by omega)]) rfl ?_
          refine v_astore dX2_copy_33 (Nat.le_of_ble_eq_true rfl) rfl ?_
          refine v_iload_n dX2_copy_35 rfl rfl ?_
          refine v_if_ne (tgt := 48) dX2_copy_36 (by decide) rfl (fun q => absurd (by decide) q) (fun _ => ?_)
          refine v_aload dX2_copy_39 rfl rfl ?_
          refine v_aload_n dX2_copy_41 rfl rfl ?_
          refine v_cv dX2_copy_42 cw_X2_171 ⟨tn_X0_becomeAs, tl_X0_becomeAs⟩ rfl (by first | assumption | exact set_get (by assumption) | exact set_get (set_get (by assumption))) (c_becomeAs G h hB hA (la_apart x.1 (by omega) (by omega) (by omega))) (by rfl) (by rfl) (Nat.le_of_ble_eq_true rfl) (Nat.le_of_ble_eq_true rfl) (Nat.le_of_ble_eq_true rfl) (Nat.le_of_ble_eq_true rfl) (Nat.le_of_ble_eq_true rfl) rfl ?_
          rintro r h' ⟨rfl, hL', hf', hl'⟩
          refine v_goto (tgt := 79) dX2_copy_45 (by decide) ?_
          refine v_iinc1 dX2_copy_79 rfl (Nat.le_of_ble_eq_true rfl) rfl ?_
          refine v_goto (tgt := 13) dX2_copy_82 (by decide) ?_
          exact ih x h' (hX.beS (by omega) (by omega) hL' hf' hl') (hF.trans (fun i q1 q2 => hf' i (by omega))) _ _
    refine v_iload_n dX2_copy_0 rfl rfl ?_
    refine v_iconst (v := nI 3) dX2_copy_1 (by decide) rfl ?_
    refine v_csf dX2_copy_2 cw_X2_49 ts_X2_isBelow ((c_isBelow G hp (nI 0) 3).yes (by decide)) (by rfl) (by rfl) (Nat.le_of_ble_eq_true rfl) (Nat.le_of_ble_eq_true rfl) (Nat.le_of_ble_eq_true rfl) (Nat.le_of_ble_eq_true rfl) (Nat.le_of_ble_eq_true rfl) rfl ?_
    refine v_if_ne (tgt := 11) dX2_copy_5 (by decide) rfl (fun _ => ?_) (fun q => absurd q (by decide))
    refine v_iconst (v := nI 0) dX2_copy_11 (by decide) rfl ?_
    refine v_istore_n dX2_copy_12 (Nat.le_of_ble_eq_true rfl) rfl ?_
    exact key 0 (Nat.zero_le _) x hp hX FrX.rf _ _
  · have key : ∀ k, k ≤ 4 → ∀ x h, PX G (cp1 s k) x h → FrX hp h → ∀ l3 l4 : Option Value, Vm G mX2_copy 1 0 0 (QX G hp (nI 1) (cpS s 1)) 13 [some (.ref (G.2.2.2 + 0)), some (.int (nI 1)), some (.int (nI k)), l3, l4] [] h 0 0 := by
      refine loop_up ?_ (fun k hk ih => ?_)
      · intro x h hX hF l3 l4
        refine v_iload_n dX2_copy_13 rfl rfl ?_
        refine v_iconst (v := nI 4) dX2_copy_14 (by decide) rfl ?_
        refine v_icmp_geN (tgt := 85) dX2_copy_15 (by decide) rfl (by omega) (by omega) (fun c15 => ?_) (fun c15 => ?_)
        · refine v_iconst (v := nI 1) dX2_copy_85 (by decide) rfl ?_
          exact v_iret dX2_copy_86 rfl ⟨Nat.le_of_ble_eq_true rfl, Nat.le_of_ble_eq_true rfl⟩ (⟨rfl, ⟨x, hX⟩, hF⟩)
        · exact absurd c15 (by omega)
      · intro x h hX hF l3 l4
        obtain ⟨h0, h1, hgl, h2, hgw, h3, h4, h5, h6, hln, hwk, hn', hlen⟩ := id hX
        have hA := hln k (by omega)
        have hB := hln (4 + k) (by omega)
        have lb := hA.1
        have hla := la_in x.1 (j := k) (by omega)
        refine v_iload_n dX2_copy_13 rfl rfl ?_
        refine v_iconst (v := nI 4) dX2_copy_14 (by decide) rfl ?_
        refine v_icmp_geN (tgt := 85) dX2_copy_15 (by decide) rfl (by omega) (by omega) (fun c15 => ?_) (fun c15 => ?_)
        · exact absurd c15 (by omega)
        · refine v_aload_n dX2_copy_18 rfl rfl ?_
          refine v_getf dX2_copy_19 fl_X2_11 (by first | assumption | exact set_get (by assumption) | exact set_get (set_get (by assumption))) (by rfl) rfl ?_
          refine v_iload_n dX2_copy_22 rfl rfl ?_
          refine v_aaldL _ dX2_copy_23 (by first | assumption | exact set_get (by assumption) | exact set_get (set_get (by assumption))) rfl (by omega) (by decide) (by rw [hgl _ (by omega)]) rfl ?_
          refine v_astore_n dX2_copy_24 (Nat.le_of_ble_eq_true rfl) rfl ?_
          refine v_aload_n dX2_copy_25 rfl rfl ?_
          refine v_getf dX2_copy_26 fl_X2_11 (by first | assumption | exact set_get (by assumption) | exact set_get (set_get (by assumption))) (by rfl) rfl ?_
          refine v_iconst (v := nI 4) dX2_copy_29 (by decide) rfl ?_
          refine v_iload_n dX2_copy_30 rfl rfl ?_
          refine v_iaddN dX2_copy_31 rfl ?_
          refine v_aaldL _ dX2_copy_32 (by first | assumption | exact set_get (by assumption) | exact set_get (set_get (by assumption))) rfl (by omega) (by decide) (by rw [hgl _ (by omega)]) rfl ?_
          refine v_astore dX2_copy_33 (Nat.le_of_ble_eq_true rfl) rfl ?_
          refine v_iload_n dX2_copy_35 rfl rfl ?_
          refine v_if_ne (tgt := 48) dX2_copy_36 (by decide) rfl (fun _ => ?_) (fun q => absurd q (by decide))
          refine v_iload_n dX2_copy_48 rfl rfl ?_
          refine v_iconst (v := nI 1) dX2_copy_49 (by decide) rfl ?_
          refine v_icmp_ne (tgt := 62) dX2_copy_50 (by decide) rfl (fun q => absurd (by decide) q) (fun _ => ?_)
          refine v_aload_n dX2_copy_53 rfl rfl ?_
          refine v_aload dX2_copy_54 rfl rfl ?_
          refine v_cv dX2_copy_56 cw_X2_171 ⟨tn_X0_becomeAs, tl_X0_becomeAs⟩ rfl (by first | assumption | exact set_get (by assumption) | exact set_get (set_get (by assumption))) (c_becomeAs G h hA hB (la_apart x.1 (by omega) (by omega) (by omega))) (by rfl) (by rfl) (Nat.le_of_ble_eq_true rfl) (Nat.le_of_ble_eq_true rfl) (Nat.le_of_ble_eq_true rfl) (Nat.le_of_ble_eq_true rfl) (Nat.le_of_ble_eq_true rfl) rfl ?_
          rintro r h' ⟨rfl, hL', hf', hl'⟩
          refine v_goto (tgt := 79) dX2_copy_59 (by decide) ?_
          refine v_iinc1 dX2_copy_79 rfl (Nat.le_of_ble_eq_true rfl) rfl ?_
          refine v_goto (tgt := 13) dX2_copy_82 (by decide) ?_
          exact ih x h' (hX.beS (by omega) (by omega) hL' hf' hl') (hF.trans (fun i q1 q2 => hf' i (by omega))) _ _
    refine v_iload_n dX2_copy_0 rfl rfl ?_
    refine v_iconst (v := nI 3) dX2_copy_1 (by decide) rfl ?_
    refine v_csf dX2_copy_2 cw_X2_49 ts_X2_isBelow ((c_isBelow G hp (nI 1) 3).yes (by decide)) (by rfl) (by rfl) (Nat.le_of_ble_eq_true rfl) (Nat.le_of_ble_eq_true rfl) (Nat.le_of_ble_eq_true rfl) (Nat.le_of_ble_eq_true rfl) (Nat.le_of_ble_eq_true rfl) rfl ?_
    refine v_if_ne (tgt := 11) dX2_copy_5 (by decide) rfl (fun _ => ?_) (fun q => absurd q (by decide))
    refine v_iconst (v := nI 0) dX2_copy_11 (by decide) rfl ?_
    refine v_istore_n dX2_copy_12 (Nat.le_of_ble_eq_true rfl) rfl ?_
    exact key 0 (Nat.zero_le _) x hp hX FrX.rf _ _
  · obtain ⟨h0, h1, hgl, h2, hgw, h3, h4, h5, h6, hln, hwk, hn, hlen⟩ := hX
    have key : ∀ k, k ≤ 4 → ∀ gl : Nat → Option Nat, (∀ j, j < 8 → gl j = some (G.2.2.2 + la (if j % 4 < k then !x.1 else x.1) j)) → ∀ l3 l4 : Option Value, Vm G mX2_copy 1 0 0 (QX G hp (nI 1) (cpS s 2)) 13 [some (.ref (G.2.2.2 + 0)), some (.int (nI 2)), some (.int (nI k)), l3, l4] [] (hp.set 1 (aL G 8 gl)) 0 0 := by
      refine loop_up ?_ (fun k hk ih => ?_)
      · intro gl hq l3 l4
        have g1 := set_get (e' := aL G 8 gl) h1
        refine v_iload_n dX2_copy_13 rfl rfl ?_
        refine v_iconst (v := nI 4) dX2_copy_14 (by decide) rfl ?_
        refine v_icmp_geN (tgt := 85) dX2_copy_15 (by decide) rfl (by omega) (by omega) (fun c15 => ?_) (fun c15 => ?_)
        · refine v_iconst (v := nI 1) dX2_copy_85 (by decide) rfl ?_
          exact v_iret dX2_copy_86 rfl ⟨Nat.le_of_ble_eq_true rfl, Nat.le_of_ble_eq_true rfl⟩ (⟨rfl, ⟨(!x.1, gl, x.2.2), (set_ne (by decide)).trans h0, g1, fun j hj => by have := hq j hj; rwa [if_pos (by omega)] at this, (set_ne (by decide)).trans h2, hgw, (set_ne (by decide)).trans h3, (set_ne (by decide)).trans h4, (set_ne (by decide)).trans h5, (set_ne (by decide)).trans h6, fun j hj => by
                      show LN G _ (la (!x.1) j) (s.kd (sj j)) (s.fc (sj j)) (s.wt (sj j)) (s.fr (sj j)) (s.to (sj j))
                      rw [la_not x.1 hj]
                      have hs : sj j < 8 := by unfold sj; split <;> omega
                      exact (hln (sj j) hs).frame (fun i q1 q2 => set_ne (by have := la_in x.1 hs; omega)), fun w hw => (hwk w hw).frame (fun i q1 q2 => set_ne (by omega)), hn, by rw [List.length_set]; exact hlen⟩, FrX.rf.set (by omega)⟩)
        · exact absurd c15 (by omega)
      · intro gl hq l3 l4
        have g0 : (hp.set 1 (aL G 8 gl))[0]? = _ := (set_ne (by decide)).trans h0
        have g1 := set_get (e' := aL G 8 gl) h1
        have la1 := la_in x.1 (j := k) (by omega)
        have la2 := la_in x.1 (j := 4 + k) (by omega)
        have e1 : gl k = some (G.2.2.2 + la x.1 k) := by have := hq k (by omega); rwa [if_neg (by omega)] at this
        have e2 : gl (4 + k) = some (G.2.2.2 + la x.1 (4 + k)) := by have := hq (4 + k) (by omega); rwa [if_neg (by omega)] at this
        have v1 := (set_ne (e := aL G 8 gl) (show la x.1 k ≠ 1 by omega)).trans (hln k (by omega)).1
        have v2 := (set_ne (e := aL G 8 gl) (show la x.1 (4 + k) ≠ 1 by omega)).trans (hln (4 + k) (by omega)).1
        have n1 : la (!x.1) k = la x.1 (4 + k) := by rw [la_not x.1 (by omega), sj, if_pos (by omega), Nat.add_comm]
        have n2 : la (!x.1) (4 + k) = la x.1 k := by rw [la_not x.1 (by omega), sj, if_neg (by omega)]; congr 1; omega
        refine v_iload_n dX2_copy_13 rfl rfl ?_
        refine v_iconst (v := nI 4) dX2_copy_14 (by decide) rfl ?_
        refine v_icmp_geN (tgt := 85) dX2_copy_15 (by decide) rfl (by omega) (by omega) (fun c15 => ?_) (fun c15 => ?_)
        · exact absurd c15 (by omega)
        · refine v_aload_n dX2_copy_18 rfl rfl ?_
          refine v_getf dX2_copy_19 fl_X2_11 (by first | assumption | exact set_get (by assumption) | exact set_get (set_get (by assumption))) (by rfl) rfl ?_
          refine v_iload_n dX2_copy_22 rfl rfl ?_
          refine v_aaldL _ dX2_copy_23 (by first | assumption | exact set_get (by assumption) | exact set_get (set_get (by assumption))) rfl (by omega) (by decide) (by rw [e1]) rfl ?_
          refine v_astore_n dX2_copy_24 (Nat.le_of_ble_eq_true rfl) rfl ?_
          refine v_aload_n dX2_copy_25 rfl rfl ?_
          refine v_getf dX2_copy_26 fl_X2_11 (by first | assumption | exact set_get (by assumption) | exact set_get (set_get (by assumption))) (by rfl) rfl ?_
          refine v_iconst (v := nI 4) dX2_copy_29 (by decide) rfl ?_
          refine v_iload_n dX2_copy_30 rfl rfl ?_
          refine v_iaddN dX2_copy_31 rfl ?_
          refine v_aaldL _ dX2_copy_32 (by first | assumption | exact set_get (by assumption) | exact set_get (set_get (by assumption))) rfl (by omega) (by decide) (by rw [e2]) rfl ?_
          refine v_astore dX2_copy_33 (Nat.le_of_ble_eq_true rfl) rfl ?_
          refine v_iload_n dX2_copy_35 rfl rfl ?_
          refine v_if_ne (tgt := 48) dX2_copy_36 (by decide) rfl (fun _ => ?_) (fun q => absurd q (by decide))
          refine v_iload_n dX2_copy_48 rfl rfl ?_
          refine v_iconst (v := nI 1) dX2_copy_49 (by decide) rfl ?_
          refine v_icmp_ne (tgt := 62) dX2_copy_50 (by decide) rfl (fun _ => ?_) (fun q => absurd q (by decide))
          refine v_aload_n dX2_copy_62 rfl rfl ?_
          refine v_getf dX2_copy_63 fl_X2_11 (by first | assumption | exact set_get (by assumption) | exact set_get (set_get (by assumption))) (by rfl) rfl ?_
          refine v_iload_n dX2_copy_66 rfl rfl ?_
          refine v_aload dX2_copy_67 rfl rfl ?_
          refine v_aastL _ dX2_copy_69 (by first | assumption | exact set_get (by assumption) | exact set_get (set_get (by assumption))) (by assumption) rfl (by omega) (by decide) rfl ?_
          refine v_aload_n dX2_copy_70 rfl rfl ?_
          refine v_getf dX2_copy_71 fl_X2_11 ((set_ne (by decide)).trans g0) (by rfl) rfl ?_
          refine v_iconst (v := nI 4) dX2_copy_74 (by decide) rfl ?_
          refine v_iload_n dX2_copy_75 rfl rfl ?_
          refine v_iaddN dX2_copy_76 rfl ?_
          refine v_aload_n dX2_copy_77 rfl rfl ?_
          refine v_aastL _ dX2_copy_78 (by first | assumption | exact set_get (by assumption) | exact set_get (set_get (by assumption))) ((set_ne (by omega)).trans v1) rfl (by omega) (by decide) rfl ?_
          refine v_iinc1 dX2_copy_79 rfl (Nat.le_of_ble_eq_true rfl) rfl ?_
          refine v_goto (tgt := 13) dX2_copy_82 (by decide) ?_
          refine v_hp (List.set_set ..) (v_hp (List.set_set ..) ?_)
          exact ih _ (fun j hj => by
                      by_cases j1 : j = 4 + k
                      · subst j1
                        rw [if_pos (by omega), n2]
                        exact if_pos rfl
                      · rw [show va_up (va_up gl k (some (G.2.2.2 + la x.1 (4 + k)))) (4 + k) (some (G.2.2.2 + la x.1 k)) j = va_up gl k (some (G.2.2.2 + la x.1 (4 + k))) j from if_neg j1]
                        by_cases j2 : j = k
                        · subst j2
                          rw [if_pos (by omega), n1]
                          exact if_pos rfl
                        · rw [show va_up gl k (some (G.2.2.2 + la x.1 (4 + k))) j = gl j from if_neg j2, hq j hj]
                          by_cases j3 : j % 4 < k
                          · rw [if_pos j3, if_pos (by omega)]
                          · rw [if_neg j3, if_neg (by omega)]) _ _
    refine v_iload_n dX2_copy_0 rfl rfl ?_
    refine v_iconst (v := nI 3) dX2_copy_1 (by decide) rfl ?_
    refine v_csf dX2_copy_2 cw_X2_49 ts_X2_isBelow ((c_isBelow G hp (nI 2) 3).yes (by decide)) (by rfl) (by rfl) (Nat.le_of_ble_eq_true rfl) (Nat.le_of_ble_eq_true rfl) (Nat.le_of_ble_eq_true rfl) (Nat.le_of_ble_eq_true rfl) (Nat.le_of_ble_eq_true rfl) rfl ?_
    refine v_if_ne (tgt := 11) dX2_copy_5 (by decide) rfl (fun _ => ?_) (fun q => absurd q (by decide))
    refine v_iconst (v := nI 0) dX2_copy_11 (by decide) rfl ?_
    refine v_istore_n dX2_copy_12 (Nat.le_of_ble_eq_true rfl) rfl ?_
    exact v_hp (set_same h1).symm (key 0 (Nat.zero_le _) _ (fun j hj => by rw [if_neg (by omega)]; exact hgl j hj) _ _)
theorem x_copy_n {y : Int32} (h : ¬ InR y 3) : Ct G mX2_copy 1 0 0 [.ref (G.2.2.2 + 0), .int y] hp (Qf (some (.int (-100))) hp) := by
  refine Ct.start 3 (by decide) rfl (Nat.le_of_ble_eq_true rfl) ?_
  refine v_iload_n dX2_copy_0 rfl rfl ?_
  refine v_iconst (v := nI 3) dX2_copy_1 (by decide) rfl ?_
  refine v_csf dX2_copy_2 cw_X2_49 ts_X2_isBelow ((c_isBelow G hp y 3).no h) (by rfl) (by rfl) (Nat.le_of_ble_eq_true rfl) (Nat.le_of_ble_eq_true rfl) (Nat.le_of_ble_eq_true rfl) (Nat.le_of_ble_eq_true rfl) (Nat.le_of_ble_eq_true rfl) rfl ?_
  refine v_if_ne (tgt := 11) dX2_copy_5 (by decide) rfl (fun q => absurd (by decide) q) (fun _ => ?_)
  refine v_bipush (v := (-100)) dX2_copy_8 (by decide) rfl ?_
  exact v_iret dX2_copy_10 rfl ⟨Nat.le_of_ble_eq_true rfl, Nat.le_of_ble_eq_true rfl⟩ (⟨rfl, rfl⟩)
end FACE3
end
section
-- LOOK: by first | exact hB0 .. | exact hB1 .. | exact hB2 ..
/-! CONSTRUCTORS OF THE CLASS; a new WORK -/
theorem hA0 (h0 : List va_E) (e e' : va_E) (r : List va_E) : (h0 ++ e :: r).set h0.length e' = h0 ++ e' :: r := by
  rw [List.set_append_right _ _ (Nat.le_refl _), Nat.sub_self]; rfl
theorem hA1 (h0 : List va_E) (a e e' : va_E) (r : List va_E) : (h0 ++ a :: e :: r).set (h0.length + 1) e' = h0 ++ a :: e' :: r := by
  rw [List.set_append_right _ _ (by omega), show h0.length + 1 - h0.length = 1 by omega]; rfl
theorem hA2 (h0 : List va_E) (a b e e' : va_E) (r : List va_E) : (h0 ++ a :: b :: e :: r).set (h0.length + 2) e' = h0 ++ a :: b :: e' :: r := by
  rw [List.set_append_right _ _ (by omega), show h0.length + 2 - h0.length = 2 by omega]; rfl
theorem hB0 (h0 : List va_E) (e : va_E) (r : List va_E) : (h0 ++ e :: r)[h0.length]? = some e := by
  rw [List.getElem?_append_right (Nat.le_refl _), Nat.sub_self]; rfl
theorem hB1 (h0 : List va_E) (a e : va_E) (r : List va_E) : (h0 ++ a :: e :: r)[h0.length + 1]? = some e := by
  rw [List.getElem?_append_right (by omega), show h0.length + 1 - h0.length = 1 by omega]; rfl
theorem hB2 (h0 : List va_E) (a b e : va_E) (r : List va_E) : (h0 ++ a :: b :: e :: r)[h0.length + 2]? = some e := by
  rw [List.getElem?_append_right (by omega), show h0.length + 2 - h0.length = 2 by omega]; rfl
def wF0 (a b c d : Int32) : Nat → Int32 := upd (upd (upd (upd (fun _ => 0) 0 a) 1 b) 2 c) 3 d
def wM0 : Nat → Int32 := upd (upd (upd (fun _ => 0) 0 (-900)) 1 (-900)) 2 (-900)
def lF0 : Nat → Int32 := upd (upd (upd (fun _ => 0) 1 (nI 1)) 2 (nI 4)) 3 (nI 7)
def lT0 : Nat → Int32 := upd (upd (upd (fun _ => 0) 1 (nI 3)) 2 (nI 6)) 3 (nI 9)
section MAKE
variable (G : GG)
theorem c_workInit (h0 : List va_E) (a b c d : Int32) : Ct G mX1_init 1 2 7 [.ref (G.2.2.2 + h0.length), .int a, .int b, .int c, .int d] (h0 ++ [ob 1 [.null, .null, .int 0]]) (Qf none (h0 ++ [ob 1 [.ref (G.2.2.2 + (h0.length + 1)), .ref (G.2.2.2 + (h0.length + 2)), .int (-900)], aI G 4 (wF0 a b c d), aI G 3 wM0])) := by
  refine Ct.start 1 (by decide) rfl (Nat.le_of_ble_eq_true rfl) ?_
  refine v_aload_n dX1_init_0 rfl rfl ?_
  refine v_objInit dX1_init_1 to_X1_3 tn_obj tc_obj (Nat.le_of_ble_eq_true rfl) (Nat.le_of_ble_eq_true rfl) rfl ?_
  try simp only [hA0, hA1, hA2, List.length_append, List.length_cons, List.length_nil, List.append_assoc, List.cons_append, List.nil_append, Nat.zero_add, Nat.reduceAdd]
  refine v_aload_n dX1_init_4 rfl rfl ?_
  refine v_iconst (v := nI 4) dX1_init_5 (by decide) rfl ?_
  refine v_newa (N := 4) dX1_init_6 t_arrI rfl (by decide) (Nat.le_of_ble_eq_true rfl) (Nat.le_of_ble_eq_true rfl) rfl ?_
  try simp only [hA0, hA1, hA2, List.length_append, List.length_cons, List.length_nil, List.append_assoc, List.cons_append, List.nil_append, Nat.zero_add, Nat.reduceAdd]
  refine v_putF dX1_init_8 fl_X1_9 rfl rfl (by first | exact hB0 .. | exact hB1 .. | exact hB2 ..) (by rfl) (by rfl) (by exact Nat.le_of_ble_eq_true rfl) rfl ?_
  try simp only [hA0, hA1, hA2, List.length_append, List.length_cons, List.length_nil, List.append_assoc, List.cons_append, List.nil_append, Nat.zero_add, Nat.reduceAdd]
  refine v_aload_n dX1_init_11 rfl rfl ?_
  refine v_iconst (v := nI 3) dX1_init_12 (by decide) rfl ?_
  refine v_newa (N := 3) dX1_init_13 t_arrI rfl (by decide) (Nat.le_of_ble_eq_true rfl) (Nat.le_of_ble_eq_true rfl) rfl ?_
  try simp only [hA0, hA1, hA2, List.length_append, List.length_cons, List.length_nil, List.append_assoc, List.cons_append, List.nil_append, Nat.zero_add, Nat.reduceAdd]
  refine v_putF dX1_init_15 fl_X1_15 rfl rfl (by first | exact hB0 .. | exact hB1 .. | exact hB2 ..) (by rfl) (by rfl) (by exact Nat.le_of_ble_eq_true rfl) rfl ?_
  try simp only [hA0, hA1, hA2, List.length_append, List.length_cons, List.length_nil, List.append_assoc, List.cons_append, List.nil_append, Nat.zero_add, Nat.reduceAdd]
  refine v_aload_n dX1_init_18 rfl rfl ?_
  refine v_sipush (v := (-900)) dX1_init_19 (by decide) rfl ?_
  refine v_putf dX1_init_22 fl_X1_18 (by first | exact hB0 .. | exact hB1 .. | exact hB2 ..) (by rfl) (by rfl) (by exact Nat.le_of_ble_eq_true rfl) rfl ?_
  try simp only [hA0, hA1, hA2, List.length_append, List.length_cons, List.length_nil, List.append_assoc, List.cons_append, List.nil_append, Nat.zero_add, Nat.reduceAdd]
  refine v_aload_n dX1_init_25 rfl rfl ?_
  refine v_getf dX1_init_26 fl_X1_9 (by first | exact hB0 .. | exact hB1 .. | exact hB2 ..) (by rfl) rfl ?_
  refine v_iconst (v := nI 0) dX1_init_29 (by decide) rfl ?_
  refine v_iload_n dX1_init_30 rfl rfl ?_
  refine v_iast 0 dX1_init_31 (by first | exact hB0 .. | exact hB1 .. | exact hB2 ..) rfl (by decide) (by decide) rfl ?_
  try simp only [hA0, hA1, hA2, List.length_append, List.length_cons, List.length_nil, List.append_assoc, List.cons_append, List.nil_append, Nat.zero_add, Nat.reduceAdd]
  refine v_aload_n dX1_init_32 rfl rfl ?_
  refine v_getf dX1_init_33 fl_X1_9 (by first | exact hB0 .. | exact hB1 .. | exact hB2 ..) (by rfl) rfl ?_
  refine v_iconst (v := nI 1) dX1_init_36 (by decide) rfl ?_
  refine v_iload_n dX1_init_37 rfl rfl ?_
  refine v_iast 1 dX1_init_38 (by first | exact hB0 .. | exact hB1 .. | exact hB2 ..) rfl (by decide) (by decide) rfl ?_
  try simp only [hA0, hA1, hA2, List.length_append, List.length_cons, List.length_nil, List.append_assoc, List.cons_append, List.nil_append, Nat.zero_add, Nat.reduceAdd]
  refine v_aload_n dX1_init_39 rfl rfl ?_
  refine v_getf dX1_init_40 fl_X1_9 (by first | exact hB0 .. | exact hB1 .. | exact hB2 ..) (by rfl) rfl ?_
  refine v_iconst (v := nI 2) dX1_init_43 (by decide) rfl ?_
  refine v_iload_n dX1_init_44 rfl rfl ?_
  refine v_iast 2 dX1_init_45 (by first | exact hB0 .. | exact hB1 .. | exact hB2 ..) rfl (by decide) (by decide) rfl ?_
  try simp only [hA0, hA1, hA2, List.length_append, List.length_cons, List.length_nil, List.append_assoc, List.cons_append, List.nil_append, Nat.zero_add, Nat.reduceAdd]
  refine v_aload_n dX1_init_46 rfl rfl ?_
  refine v_getf dX1_init_47 fl_X1_9 (by first | exact hB0 .. | exact hB1 .. | exact hB2 ..) (by rfl) rfl ?_
  refine v_iconst (v := nI 3) dX1_init_50 (by decide) rfl ?_
  refine v_iload dX1_init_51 rfl rfl ?_
  refine v_iast 3 dX1_init_53 (by first | exact hB0 .. | exact hB1 .. | exact hB2 ..) rfl (by decide) (by decide) rfl ?_
  try simp only [hA0, hA1, hA2, List.length_append, List.length_cons, List.length_nil, List.append_assoc, List.cons_append, List.nil_append, Nat.zero_add, Nat.reduceAdd]
  refine v_iconst (v := nI 0) dX1_init_54 (by decide) rfl ?_
  refine v_istore dX1_init_55 (Nat.le_of_ble_eq_true rfl) rfl ?_
  refine v_iload dX1_init_57 rfl rfl ?_
  refine v_iconst (v := nI 3) dX1_init_59 (by decide) rfl ?_
  refine v_icmp_ge (tgt := 79) dX1_init_60 (by decide) rfl (fun q => absurd q (by decide)) (fun _ => ?_)
  refine v_aload_n dX1_init_63 rfl rfl ?_
  refine v_getf dX1_init_64 fl_X1_15 (by first | exact hB0 .. | exact hB1 .. | exact hB2 ..) (by rfl) rfl ?_
  refine v_iload dX1_init_67 rfl rfl ?_
  refine v_sipush (v := (-900)) dX1_init_69 (by decide) rfl ?_
  refine v_iast 0 dX1_init_72 (by first | exact hB0 .. | exact hB1 .. | exact hB2 ..) rfl (by decide) (by decide) rfl ?_
  try simp only [hA0, hA1, hA2, List.length_append, List.length_cons, List.length_nil, List.append_assoc, List.cons_append, List.nil_append, Nat.zero_add, Nat.reduceAdd]
  refine v_iinc (v := nI 1) dX1_init_73 rfl (by decide) (Nat.le_of_ble_eq_true rfl) rfl ?_
  refine v_goto (tgt := 57) dX1_init_76 (by decide) ?_
  refine v_iload dX1_init_57 rfl rfl ?_
  refine v_iconst (v := nI 3) dX1_init_59 (by decide) rfl ?_
  refine v_icmp_ge (tgt := 79) dX1_init_60 (by decide) rfl (fun q => absurd q (by decide)) (fun _ => ?_)
  refine v_aload_n dX1_init_63 rfl rfl ?_
  refine v_getf dX1_init_64 fl_X1_15 (by first | exact hB0 .. | exact hB1 .. | exact hB2 ..) (by rfl) rfl ?_
  refine v_iload dX1_init_67 rfl rfl ?_
  refine v_sipush (v := (-900)) dX1_init_69 (by decide) rfl ?_
  refine v_iast 1 dX1_init_72 (by first | exact hB0 .. | exact hB1 .. | exact hB2 ..) rfl (by decide) (by decide) rfl ?_
  try simp only [hA0, hA1, hA2, List.length_append, List.length_cons, List.length_nil, List.append_assoc, List.cons_append, List.nil_append, Nat.zero_add, Nat.reduceAdd]
  refine v_iinc (v := nI 2) dX1_init_73 rfl (by decide) (Nat.le_of_ble_eq_true rfl) rfl ?_
  refine v_goto (tgt := 57) dX1_init_76 (by decide) ?_
  refine v_iload dX1_init_57 rfl rfl ?_
  refine v_iconst (v := nI 3) dX1_init_59 (by decide) rfl ?_
  refine v_icmp_ge (tgt := 79) dX1_init_60 (by decide) rfl (fun q => absurd q (by decide)) (fun _ => ?_)
  refine v_aload_n dX1_init_63 rfl rfl ?_
  refine v_getf dX1_init_64 fl_X1_15 (by first | exact hB0 .. | exact hB1 .. | exact hB2 ..) (by rfl) rfl ?_
  refine v_iload dX1_init_67 rfl rfl ?_
  refine v_sipush (v := (-900)) dX1_init_69 (by decide) rfl ?_
  refine v_iast 2 dX1_init_72 (by first | exact hB0 .. | exact hB1 .. | exact hB2 ..) rfl (by decide) (by decide) rfl ?_
  try simp only [hA0, hA1, hA2, List.length_append, List.length_cons, List.length_nil, List.append_assoc, List.cons_append, List.nil_append, Nat.zero_add, Nat.reduceAdd]
  refine v_iinc (v := nI 3) dX1_init_73 rfl (by decide) (Nat.le_of_ble_eq_true rfl) rfl ?_
  refine v_goto (tgt := 57) dX1_init_76 (by decide) ?_
  refine v_iload dX1_init_57 rfl rfl ?_
  refine v_iconst (v := nI 3) dX1_init_59 (by decide) rfl ?_
  refine v_icmp_ge (tgt := 79) dX1_init_60 (by decide) rfl (fun _ => ?_) (fun q => absurd (by decide) q)
  exact v_vret dX1_init_79 rfl ⟨Nat.le_of_ble_eq_true rfl, Nat.le_of_ble_eq_true rfl⟩ (⟨rfl, rfl⟩)
theorem c_lineInit (h0 : List va_E) (y : Int32) : Ct G mX0_init 1 2 8 [.ref (G.2.2.2 + h0.length), .int y] (h0 ++ [ob 0 [.int 0, .int 0, .int 0, .null, .null]]) (Qf none (h0 ++ [ob 0 [.int (nI 0), .int y, .int (nI 1), .ref (G.2.2.2 + (h0.length + 1)), .ref (G.2.2.2 + (h0.length + 2))], aI G 4 lF0, aI G 4 lT0])) := by
  refine Ct.start 1 (by decide) rfl (Nat.le_of_ble_eq_true rfl) ?_
  refine v_aload_n dX0_init_0 rfl rfl ?_
  refine v_objInit dX0_init_1 to_X0_3 tn_obj tc_obj (Nat.le_of_ble_eq_true rfl) (Nat.le_of_ble_eq_true rfl) rfl ?_
  try simp only [hA0, hA1, hA2, List.length_append, List.length_cons, List.length_nil, List.append_assoc, List.cons_append, List.nil_append, Nat.zero_add, Nat.reduceAdd]
  refine v_aload_n dX0_init_4 rfl rfl ?_
  refine v_iconst (v := nI 0) dX0_init_5 (by decide) rfl ?_
  refine v_putf dX0_init_6 fl_X0_9 (by first | exact hB0 .. | exact hB1 .. | exact hB2 ..) (by rfl) (by rfl) (by exact Nat.le_of_ble_eq_true rfl) rfl ?_
  try simp only [hA0, hA1, hA2, List.length_append, List.length_cons, List.length_nil, List.append_assoc, List.cons_append, List.nil_append, Nat.zero_add, Nat.reduceAdd]
  refine v_aload_n dX0_init_9 rfl rfl ?_
  refine v_iconst (v := nI 1) dX0_init_10 (by decide) rfl ?_
  refine v_putf dX0_init_11 fl_X0_15 (by first | exact hB0 .. | exact hB1 .. | exact hB2 ..) (by rfl) (by rfl) (by exact Nat.le_of_ble_eq_true rfl) rfl ?_
  try simp only [hA0, hA1, hA2, List.length_append, List.length_cons, List.length_nil, List.append_assoc, List.cons_append, List.nil_append, Nat.zero_add, Nat.reduceAdd]
  refine v_aload_n dX0_init_14 rfl rfl ?_
  refine v_iconst (v := nI 4) dX0_init_15 (by decide) rfl ?_
  refine v_newa (N := 4) dX0_init_16 t_arrI rfl (by decide) (Nat.le_of_ble_eq_true rfl) (Nat.le_of_ble_eq_true rfl) rfl ?_
  try simp only [hA0, hA1, hA2, List.length_append, List.length_cons, List.length_nil, List.append_assoc, List.cons_append, List.nil_append, Nat.zero_add, Nat.reduceAdd]
  refine v_putF dX0_init_18 fl_X0_18 rfl rfl (by first | exact hB0 .. | exact hB1 .. | exact hB2 ..) (by rfl) (by rfl) (by exact Nat.le_of_ble_eq_true rfl) rfl ?_
  try simp only [hA0, hA1, hA2, List.length_append, List.length_cons, List.length_nil, List.append_assoc, List.cons_append, List.nil_append, Nat.zero_add, Nat.reduceAdd]
  refine v_aload_n dX0_init_21 rfl rfl ?_
  refine v_iconst (v := nI 4) dX0_init_22 (by decide) rfl ?_
  refine v_newa (N := 4) dX0_init_23 t_arrI rfl (by decide) (Nat.le_of_ble_eq_true rfl) (Nat.le_of_ble_eq_true rfl) rfl ?_
  try simp only [hA0, hA1, hA2, List.length_append, List.length_cons, List.length_nil, List.append_assoc, List.cons_append, List.nil_append, Nat.zero_add, Nat.reduceAdd]
  refine v_putF dX0_init_25 fl_X0_22 rfl rfl (by first | exact hB0 .. | exact hB1 .. | exact hB2 ..) (by rfl) (by rfl) (by exact Nat.le_of_ble_eq_true rfl) rfl ?_
  try simp only [hA0, hA1, hA2, List.length_append, List.length_cons, List.length_nil, List.append_assoc, List.cons_append, List.nil_append, Nat.zero_add, Nat.reduceAdd]
  refine v_aload_n dX0_init_28 rfl rfl ?_
  refine v_iload_n dX0_init_29 rfl rfl ?_
  refine v_putf dX0_init_30 fl_X0_25 (by first | exact hB0 .. | exact hB1 .. | exact hB2 ..) (by rfl) (by rfl) (by exact Nat.le_of_ble_eq_true rfl) rfl ?_
  try simp only [hA0, hA1, hA2, List.length_append, List.length_cons, List.length_nil, List.append_assoc, List.cons_append, List.nil_append, Nat.zero_add, Nat.reduceAdd]
  refine v_iconst (v := nI 1) dX0_init_33 (by decide) rfl ?_
  refine v_istore_n dX0_init_34 (Nat.le_of_ble_eq_true rfl) rfl ?_
  refine v_iload_n dX0_init_35 rfl rfl ?_
  refine v_iconst (v := nI 4) dX0_init_36 (by decide) rfl ?_
  refine v_icmp_ge (tgt := 66) dX0_init_37 (by decide) rfl (fun q => absurd q (by decide)) (fun _ => ?_)
  refine v_aload_n dX0_init_40 rfl rfl ?_
  refine v_getf dX0_init_41 fl_X0_18 (by first | exact hB0 .. | exact hB1 .. | exact hB2 ..) (by rfl) rfl ?_
  refine v_iload_n dX0_init_44 rfl rfl ?_
  refine v_iconst (v := nI 3) dX0_init_45 (by decide) rfl ?_
  refine v_iload_n dX0_init_46 rfl rfl ?_
  refine v_imul dX0_init_47 rfl ?_
  refine v_top (y := nI 3) (by decide) ?_
  refine v_iconst (v := nI 2) dX0_init_48 (by decide) rfl ?_
  refine v_isub dX0_init_49 rfl ?_
  refine v_top (y := nI 1) (by decide) ?_
  refine v_iast 1 dX0_init_50 (by first | exact hB0 .. | exact hB1 .. | exact hB2 ..) rfl (by decide) (by decide) rfl ?_
  try simp only [hA0, hA1, hA2, List.length_append, List.length_cons, List.length_nil, List.append_assoc, List.cons_append, List.nil_append, Nat.zero_add, Nat.reduceAdd]
  refine v_aload_n dX0_init_51 rfl rfl ?_
  refine v_getf dX0_init_52 fl_X0_22 (by first | exact hB0 .. | exact hB1 .. | exact hB2 ..) (by rfl) rfl ?_
  refine v_iload_n dX0_init_55 rfl rfl ?_
  refine v_iconst (v := nI 3) dX0_init_56 (by decide) rfl ?_
  refine v_iload_n dX0_init_57 rfl rfl ?_
  refine v_imul dX0_init_58 rfl ?_
  refine v_top (y := nI 3) (by decide) ?_
  refine v_iast 1 dX0_init_59 (by first | exact hB0 .. | exact hB1 .. | exact hB2 ..) rfl (by decide) (by decide) rfl ?_
  try simp only [hA0, hA1, hA2, List.length_append, List.length_cons, List.length_nil, List.append_assoc, List.cons_append, List.nil_append, Nat.zero_add, Nat.reduceAdd]
  refine v_iinc (v := nI 2) dX0_init_60 rfl (by decide) (Nat.le_of_ble_eq_true rfl) rfl ?_
  refine v_goto (tgt := 35) dX0_init_63 (by decide) ?_
  refine v_iload_n dX0_init_35 rfl rfl ?_
  refine v_iconst (v := nI 4) dX0_init_36 (by decide) rfl ?_
  refine v_icmp_ge (tgt := 66) dX0_init_37 (by decide) rfl (fun q => absurd q (by decide)) (fun _ => ?_)
  refine v_aload_n dX0_init_40 rfl rfl ?_
  refine v_getf dX0_init_41 fl_X0_18 (by first | exact hB0 .. | exact hB1 .. | exact hB2 ..) (by rfl) rfl ?_
  refine v_iload_n dX0_init_44 rfl rfl ?_
  refine v_iconst (v := nI 3) dX0_init_45 (by decide) rfl ?_
  refine v_iload_n dX0_init_46 rfl rfl ?_
  refine v_imul dX0_init_47 rfl ?_
  refine v_top (y := nI 6) (by decide) ?_
  refine v_iconst (v := nI 2) dX0_init_48 (by decide) rfl ?_
  refine v_isub dX0_init_49 rfl ?_
  refine v_top (y := nI 4) (by decide) ?_
  refine v_iast 2 dX0_init_50 (by first | exact hB0 .. | exact hB1 .. | exact hB2 ..) rfl (by decide) (by decide) rfl ?_
  try simp only [hA0, hA1, hA2, List.length_append, List.length_cons, List.length_nil, List.append_assoc, List.cons_append, List.nil_append, Nat.zero_add, Nat.reduceAdd]
  refine v_aload_n dX0_init_51 rfl rfl ?_
  refine v_getf dX0_init_52 fl_X0_22 (by first | exact hB0 .. | exact hB1 .. | exact hB2 ..) (by rfl) rfl ?_
  refine v_iload_n dX0_init_55 rfl rfl ?_
  refine v_iconst (v := nI 3) dX0_init_56 (by decide) rfl ?_
  refine v_iload_n dX0_init_57 rfl rfl ?_
  refine v_imul dX0_init_58 rfl ?_
  refine v_top (y := nI 6) (by decide) ?_
  refine v_iast 2 dX0_init_59 (by first | exact hB0 .. | exact hB1 .. | exact hB2 ..) rfl (by decide) (by decide) rfl ?_
  try simp only [hA0, hA1, hA2, List.length_append, List.length_cons, List.length_nil, List.append_assoc, List.cons_append, List.nil_append, Nat.zero_add, Nat.reduceAdd]
  refine v_iinc (v := nI 3) dX0_init_60 rfl (by decide) (Nat.le_of_ble_eq_true rfl) rfl ?_
  refine v_goto (tgt := 35) dX0_init_63 (by decide) ?_
  refine v_iload_n dX0_init_35 rfl rfl ?_
  refine v_iconst (v := nI 4) dX0_init_36 (by decide) rfl ?_
  refine v_icmp_ge (tgt := 66) dX0_init_37 (by decide) rfl (fun q => absurd q (by decide)) (fun _ => ?_)
  refine v_aload_n dX0_init_40 rfl rfl ?_
  refine v_getf dX0_init_41 fl_X0_18 (by first | exact hB0 .. | exact hB1 .. | exact hB2 ..) (by rfl) rfl ?_
  refine v_iload_n dX0_init_44 rfl rfl ?_
  refine v_iconst (v := nI 3) dX0_init_45 (by decide) rfl ?_
  refine v_iload_n dX0_init_46 rfl rfl ?_
  refine v_imul dX0_init_47 rfl ?_
  refine v_top (y := nI 9) (by decide) ?_
  refine v_iconst (v := nI 2) dX0_init_48 (by decide) rfl ?_
  refine v_isub dX0_init_49 rfl ?_
  refine v_top (y := nI 7) (by decide) ?_
  refine v_iast 3 dX0_init_50 (by first | exact hB0 .. | exact hB1 .. | exact hB2 ..) rfl (by decide) (by decide) rfl ?_
  try simp only [hA0, hA1, hA2, List.length_append, List.length_cons, List.length_nil, List.append_assoc, List.cons_append, List.nil_append, Nat.zero_add, Nat.reduceAdd]
  refine v_aload_n dX0_init_51 rfl rfl ?_
  refine v_getf dX0_init_52 fl_X0_22 (by first | exact hB0 .. | exact hB1 .. | exact hB2 ..) (by rfl) rfl ?_
  refine v_iload_n dX0_init_55 rfl rfl ?_
  refine v_iconst (v := nI 3) dX0_init_56 (by decide) rfl ?_
  refine v_iload_n dX0_init_57 rfl rfl ?_
  refine v_imul dX0_init_58 rfl ?_
  refine v_top (y := nI 9) (by decide) ?_
  refine v_iast 3 dX0_init_59 (by first | exact hB0 .. | exact hB1 .. | exact hB2 ..) rfl (by decide) (by decide) rfl ?_
  try simp only [hA0, hA1, hA2, List.length_append, List.length_cons, List.length_nil, List.append_assoc, List.cons_append, List.nil_append, Nat.zero_add, Nat.reduceAdd]
  refine v_iinc (v := nI 4) dX0_init_60 rfl (by decide) (Nat.le_of_ble_eq_true rfl) rfl ?_
  refine v_goto (tgt := 35) dX0_init_63 (by decide) ?_
  refine v_iload_n dX0_init_35 rfl rfl ?_
  refine v_iconst (v := nI 4) dX0_init_36 (by decide) rfl ?_
  refine v_icmp_ge (tgt := 66) dX0_init_37 (by decide) rfl (fun _ => ?_) (fun q => absurd (by decide) q)
  exact v_vret dX0_init_66 rfl ⟨Nat.le_of_ble_eq_true rfl, Nat.le_of_ble_eq_true rfl⟩ (⟨rfl, rfl⟩)
end MAKE
end
section
-- LOOK: by first | assumption | rfl
/-! A NEW OBJECT OF THE CLASS; a new WORK -/
theorem get_app {hp r : List va_E} {i : Nat} (h : i < hp.length) : (hp ++ r)[i]? = hp[i]? := List.getElem?_append_left h
def gl0 (G : GG) : Nat → Option Nat := va_up (va_up (va_up (va_up (va_up (va_up (va_up (va_up (fun _ => none) 0 (some (G.2.2.2 + 7))) 1 (some (G.2.2.2 + 10))) 2 (some (G.2.2.2 + 13))) 3 (some (G.2.2.2 + 16))) 4 (some (G.2.2.2 + 19))) 5 (some (G.2.2.2 + 22))) 6 (some (G.2.2.2 + 25))) 7 (some (G.2.2.2 + 28))
def H31 (G : GG) : List va_E := [ob 2 [.ref (G.2.2.2 + 1), .ref (G.2.2.2 + 2), .int (nI 0), .long 0, .ref (G.2.2.2 + 3), .ref (G.2.2.2 + 4), .ref (G.2.2.2 + 5), .ref (G.2.2.2 + 6)], aL G 8 (gl0 G), aW G 12 (fun _ => none), aI G 6 (fun _ => 0), aI G 4 (fun _ => 0), aI G 12 (fun _ => 0), aI G 12 (fun _ => 0), ob 0 [.int (nI 0), .int (nI 0), .int (nI 1), .ref (G.2.2.2 + 8), .ref (G.2.2.2 + 9)], aI G 4 lF0, aI G 4 lT0, ob 0 [.int (nI 0), .int (nI 1), .int (nI 1), .ref (G.2.2.2 + 11), .ref (G.2.2.2 + 12)], aI G 4 lF0, aI G 4 lT0, ob 0 [.int (nI 0), .int (nI 2), .int (nI 1), .ref (G.2.2.2 + 14), .ref (G.2.2.2 + 15)], aI G 4 lF0, aI G 4 lT0, ob 0 [.int (nI 0), .int (nI 3), .int (nI 1), .ref (G.2.2.2 + 17), .ref (G.2.2.2 + 18)], aI G 4 lF0, aI G 4 lT0, ob 0 [.int (nI 0), .int (nI 0), .int (nI 1), .ref (G.2.2.2 + 20), .ref (G.2.2.2 + 21)], aI G 4 lF0, aI G 4 lT0, ob 0 [.int (nI 0), .int (nI 1), .int (nI 1), .ref (G.2.2.2 + 23), .ref (G.2.2.2 + 24)], aI G 4 lF0, aI G 4 lT0, ob 0 [.int (nI 0), .int (nI 2), .int (nI 1), .ref (G.2.2.2 + 26), .ref (G.2.2.2 + 27)], aI G 4 lF0, aI G 4 lT0, ob 0 [.int (nI 0), .int (nI 3), .int (nI 1), .ref (G.2.2.2 + 29), .ref (G.2.2.2 + 30)], aI G 4 lF0, aI G 4 lT0]
section MAKE2
variable (G : GG)
set_option maxHeartbeats 1000000 in
set_option maxRecDepth 10000 in
theorem c_sheetsInit : Ct G mX2_init 2 30 158 [.ref (G.2.2.2 + 0)] [ob 2 [.null, .null, .int 0, .long 0, .null, .null, .null, .null]] (Qf none (H31 G)) := by
  refine Ct.start 1 (by decide) rfl (Nat.le_of_ble_eq_true rfl) ?_
  refine v_aload_n dX2_init_0 rfl rfl ?_
  refine v_objInit dX2_init_1 to_X2_3 tn_obj tc_obj (Nat.le_of_ble_eq_true rfl) (Nat.le_of_ble_eq_true rfl) rfl ?_
  try simp only [List.length_cons, List.length_nil, List.cons_append, List.nil_append, List.set_cons_zero, List.set_cons_succ, Nat.zero_add, Nat.reduceAdd]
  refine v_aload_n dX2_init_4 rfl rfl ?_
  refine v_bipush (v := nI 8) dX2_init_5 (by decide) rfl ?_
  refine v_anewL (N := 8) dX2_init_7 tk_X2_9 rfl (by decide) (Nat.le_of_ble_eq_true rfl) (Nat.le_of_ble_eq_true rfl) rfl ?_
  try simp only [List.length_cons, List.length_nil, List.cons_append, List.nil_append, List.set_cons_zero, List.set_cons_succ, Nat.zero_add, Nat.reduceAdd]
  refine v_putF dX2_init_10 fl_X2_11 rfl rfl (by first | assumption | rfl) (by rfl) (by rfl) (by exact Nat.le_of_ble_eq_true rfl) rfl ?_
  try simp only [List.length_cons, List.length_nil, List.cons_append, List.nil_append, List.set_cons_zero, List.set_cons_succ, Nat.zero_add, Nat.reduceAdd]
  refine v_aload_n dX2_init_13 rfl rfl ?_
  refine v_bipush (v := nI 12) dX2_init_14 (by decide) rfl ?_
  refine v_anewW (N := 12) dX2_init_16 tk_X2_15 rfl (by decide) (Nat.le_of_ble_eq_true rfl) (Nat.le_of_ble_eq_true rfl) rfl ?_
  try simp only [List.length_cons, List.length_nil, List.cons_append, List.nil_append, List.set_cons_zero, List.set_cons_succ, Nat.zero_add, Nat.reduceAdd]
  refine v_putF dX2_init_19 fl_X2_17 rfl rfl (by first | assumption | rfl) (by rfl) (by rfl) (by exact Nat.le_of_ble_eq_true rfl) rfl ?_
  try simp only [List.length_cons, List.length_nil, List.cons_append, List.nil_append, List.set_cons_zero, List.set_cons_succ, Nat.zero_add, Nat.reduceAdd]
  refine v_aload_n dX2_init_22 rfl rfl ?_
  refine v_iconst (v := nI 0) dX2_init_23 (by decide) rfl ?_
  refine v_putf dX2_init_24 fl_X2_21 (by first | assumption | rfl) (by rfl) (by rfl) (by exact Nat.le_of_ble_eq_true rfl) rfl ?_
  try simp only [List.length_cons, List.length_nil, List.cons_append, List.nil_append, List.set_cons_zero, List.set_cons_succ, Nat.zero_add, Nat.reduceAdd]
  refine v_aload_n dX2_init_27 rfl rfl ?_
  refine v_lconst (v := 0) dX2_init_28 (by decide) rfl ?_
  refine v_putf dX2_init_29 fl_X2_25 (by first | assumption | rfl) (by rfl) (by rfl) (by exact Nat.le_of_ble_eq_true rfl) rfl ?_
  try simp only [List.length_cons, List.length_nil, List.cons_append, List.nil_append, List.set_cons_zero, List.set_cons_succ, Nat.zero_add, Nat.reduceAdd]
  refine v_aload_n dX2_init_32 rfl rfl ?_
  refine v_bipush (v := nI 6) dX2_init_33 (by decide) rfl ?_
  refine v_newa (N := 6) dX2_init_35 t_arrI rfl (by decide) (Nat.le_of_ble_eq_true rfl) (Nat.le_of_ble_eq_true rfl) rfl ?_
  try simp only [List.length_cons, List.length_nil, List.cons_append, List.nil_append, List.set_cons_zero, List.set_cons_succ, Nat.zero_add, Nat.reduceAdd]
  refine v_putF dX2_init_37 fl_X2_29 rfl rfl (by first | assumption | rfl) (by rfl) (by rfl) (by exact Nat.le_of_ble_eq_true rfl) rfl ?_
  try simp only [List.length_cons, List.length_nil, List.cons_append, List.nil_append, List.set_cons_zero, List.set_cons_succ, Nat.zero_add, Nat.reduceAdd]
  refine v_aload_n dX2_init_40 rfl rfl ?_
  refine v_iconst (v := nI 4) dX2_init_41 (by decide) rfl ?_
  refine v_newa (N := 4) dX2_init_42 t_arrI rfl (by decide) (Nat.le_of_ble_eq_true rfl) (Nat.le_of_ble_eq_true rfl) rfl ?_
  try simp only [List.length_cons, List.length_nil, List.cons_append, List.nil_append, List.set_cons_zero, List.set_cons_succ, Nat.zero_add, Nat.reduceAdd]
  refine v_putF dX2_init_44 fl_X2_33 rfl rfl (by first | assumption | rfl) (by rfl) (by rfl) (by exact Nat.le_of_ble_eq_true rfl) rfl ?_
  try simp only [List.length_cons, List.length_nil, List.cons_append, List.nil_append, List.set_cons_zero, List.set_cons_succ, Nat.zero_add, Nat.reduceAdd]
  refine v_aload_n dX2_init_47 rfl rfl ?_
  refine v_bipush (v := nI 12) dX2_init_48 (by decide) rfl ?_
  refine v_newa (N := 12) dX2_init_50 t_arrI rfl (by decide) (Nat.le_of_ble_eq_true rfl) (Nat.le_of_ble_eq_true rfl) rfl ?_
  try simp only [List.length_cons, List.length_nil, List.cons_append, List.nil_append, List.set_cons_zero, List.set_cons_succ, Nat.zero_add, Nat.reduceAdd]
  refine v_putF dX2_init_52 fl_X2_36 rfl rfl (by first | assumption | rfl) (by rfl) (by rfl) (by exact Nat.le_of_ble_eq_true rfl) rfl ?_
  try simp only [List.length_cons, List.length_nil, List.cons_append, List.nil_append, List.set_cons_zero, List.set_cons_succ, Nat.zero_add, Nat.reduceAdd]
  refine v_aload_n dX2_init_55 rfl rfl ?_
  refine v_bipush (v := nI 12) dX2_init_56 (by decide) rfl ?_
  refine v_newa (N := 12) dX2_init_58 t_arrI rfl (by decide) (Nat.le_of_ble_eq_true rfl) (Nat.le_of_ble_eq_true rfl) rfl ?_
  try simp only [List.length_cons, List.length_nil, List.cons_append, List.nil_append, List.set_cons_zero, List.set_cons_succ, Nat.zero_add, Nat.reduceAdd]
  refine v_putF dX2_init_60 fl_X2_39 rfl rfl (by first | assumption | rfl) (by rfl) (by rfl) (by exact Nat.le_of_ble_eq_true rfl) rfl ?_
  try simp only [List.length_cons, List.length_nil, List.cons_append, List.nil_append, List.set_cons_zero, List.set_cons_succ, Nat.zero_add, Nat.reduceAdd]
  refine v_iconst (v := nI 0) dX2_init_63 (by decide) rfl ?_
  refine v_istore_n dX2_init_64 (Nat.le_of_ble_eq_true rfl) rfl ?_
  refine v_iload_n dX2_init_65 rfl rfl ?_
  refine v_bipush (v := nI 8) dX2_init_66 (by decide) rfl ?_
  refine v_icmp_ge (tgt := 93) dX2_init_68 (by decide) rfl (fun q => absurd q (by decide)) (fun _ => ?_)
  refine v_aload_n dX2_init_71 rfl rfl ?_
  refine v_getf dX2_init_72 fl_X2_11 (by first | assumption | rfl) (by rfl) rfl ?_
  refine v_iload_n dX2_init_75 rfl rfl ?_
  refine v_new (fs := [.int 0, .int 0, .int 0, .null, .null]) dX2_init_76 ci0 tk_X2_9 tt_X0 ti_X0 (by decide) (Nat.le_of_ble_eq_true rfl) (Nat.le_of_ble_eq_true rfl) rfl ?_
  refine v_dup dX2_init_79 rfl rfl ?_
  refine v_iload_n dX2_init_80 rfl rfl ?_
  refine v_iconst (v := nI 4) dX2_init_81 (by decide) rfl ?_
  refine v_irem dX2_init_82 (by decide) rfl ?_
  refine v_top (y := nI 0) (by decide) ?_
  refine v_cin dX2_init_83 cw_X2_42 ⟨rfl, tn_X0_init⟩ rfl (c_lineInit G _ (nI 0)) (by rfl) (by rfl) (Nat.le_of_ble_eq_true rfl) (Nat.le_of_ble_eq_true rfl) (Nat.le_of_ble_eq_true rfl) (Nat.le_of_ble_eq_true rfl) (Nat.le_of_ble_eq_true rfl) rfl ?_
  try simp only [List.length_cons, List.length_nil, List.cons_append, List.nil_append, List.set_cons_zero, List.set_cons_succ, Nat.zero_add, Nat.reduceAdd]
  refine v_aastL 0 dX2_init_86 (by first | assumption | rfl) (by rfl) rfl (by decide) (by decide) rfl ?_
  try simp only [List.length_cons, List.length_nil, List.cons_append, List.nil_append, List.set_cons_zero, List.set_cons_succ, Nat.zero_add, Nat.reduceAdd]
  refine v_iinc (v := nI 1) dX2_init_87 rfl (by decide) (Nat.le_of_ble_eq_true rfl) rfl ?_
  refine v_goto (tgt := 65) dX2_init_90 (by decide) ?_
  refine v_iload_n dX2_init_65 rfl rfl ?_
  refine v_bipush (v := nI 8) dX2_init_66 (by decide) rfl ?_
  refine v_icmp_ge (tgt := 93) dX2_init_68 (by decide) rfl (fun q => absurd q (by decide)) (fun _ => ?_)
  refine v_aload_n dX2_init_71 rfl rfl ?_
  refine v_getf dX2_init_72 fl_X2_11 (by first | assumption | rfl) (by rfl) rfl ?_
  refine v_iload_n dX2_init_75 rfl rfl ?_
  refine v_new (fs := [.int 0, .int 0, .int 0, .null, .null]) dX2_init_76 ci0 tk_X2_9 tt_X0 ti_X0 (by decide) (Nat.le_of_ble_eq_true rfl) (Nat.le_of_ble_eq_true rfl) rfl ?_
  refine v_dup dX2_init_79 rfl rfl ?_
  refine v_iload_n dX2_init_80 rfl rfl ?_
  refine v_iconst (v := nI 4) dX2_init_81 (by decide) rfl ?_
  refine v_irem dX2_init_82 (by decide) rfl ?_
  refine v_top (y := nI 1) (by decide) ?_
  refine v_cin dX2_init_83 cw_X2_42 ⟨rfl, tn_X0_init⟩ rfl (c_lineInit G _ (nI 1)) (by rfl) (by rfl) (Nat.le_of_ble_eq_true rfl) (Nat.le_of_ble_eq_true rfl) (Nat.le_of_ble_eq_true rfl) (Nat.le_of_ble_eq_true rfl) (Nat.le_of_ble_eq_true rfl) rfl ?_
  try simp only [List.length_cons, List.length_nil, List.cons_append, List.nil_append, List.set_cons_zero, List.set_cons_succ, Nat.zero_add, Nat.reduceAdd]
  refine v_aastL 1 dX2_init_86 (by first | assumption | rfl) (by rfl) rfl (by decide) (by decide) rfl ?_
  try simp only [List.length_cons, List.length_nil, List.cons_append, List.nil_append, List.set_cons_zero, List.set_cons_succ, Nat.zero_add, Nat.reduceAdd]
  refine v_iinc (v := nI 2) dX2_init_87 rfl (by decide) (Nat.le_of_ble_eq_true rfl) rfl ?_
  refine v_goto (tgt := 65) dX2_init_90 (by decide) ?_
  refine v_iload_n dX2_init_65 rfl rfl ?_
  refine v_bipush (v := nI 8) dX2_init_66 (by decide) rfl ?_
  refine v_icmp_ge (tgt := 93) dX2_init_68 (by decide) rfl (fun q => absurd q (by decide)) (fun _ => ?_)
  refine v_aload_n dX2_init_71 rfl rfl ?_
  refine v_getf dX2_init_72 fl_X2_11 (by first | assumption | rfl) (by rfl) rfl ?_
  refine v_iload_n dX2_init_75 rfl rfl ?_
  refine v_new (fs := [.int 0, .int 0, .int 0, .null, .null]) dX2_init_76 ci0 tk_X2_9 tt_X0 ti_X0 (by decide) (Nat.le_of_ble_eq_true rfl) (Nat.le_of_ble_eq_true rfl) rfl ?_
  refine v_dup dX2_init_79 rfl rfl ?_
  refine v_iload_n dX2_init_80 rfl rfl ?_
  refine v_iconst (v := nI 4) dX2_init_81 (by decide) rfl ?_
  refine v_irem dX2_init_82 (by decide) rfl ?_
  refine v_top (y := nI 2) (by decide) ?_
  refine v_cin dX2_init_83 cw_X2_42 ⟨rfl, tn_X0_init⟩ rfl (c_lineInit G _ (nI 2)) (by rfl) (by rfl) (Nat.le_of_ble_eq_true rfl) (Nat.le_of_ble_eq_true rfl) (Nat.le_of_ble_eq_true rfl) (Nat.le_of_ble_eq_true rfl) (Nat.le_of_ble_eq_true rfl) rfl ?_
  try simp only [List.length_cons, List.length_nil, List.cons_append, List.nil_append, List.set_cons_zero, List.set_cons_succ, Nat.zero_add, Nat.reduceAdd]
  refine v_aastL 2 dX2_init_86 (by first | assumption | rfl) (by rfl) rfl (by decide) (by decide) rfl ?_
  try simp only [List.length_cons, List.length_nil, List.cons_append, List.nil_append, List.set_cons_zero, List.set_cons_succ, Nat.zero_add, Nat.reduceAdd]
  refine v_iinc (v := nI 3) dX2_init_87 rfl (by decide) (Nat.le_of_ble_eq_true rfl) rfl ?_
  refine v_goto (tgt := 65) dX2_init_90 (by decide) ?_
  refine v_iload_n dX2_init_65 rfl rfl ?_
  refine v_bipush (v := nI 8) dX2_init_66 (by decide) rfl ?_
  refine v_icmp_ge (tgt := 93) dX2_init_68 (by decide) rfl (fun q => absurd q (by decide)) (fun _ => ?_)
  refine v_aload_n dX2_init_71 rfl rfl ?_
  refine v_getf dX2_init_72 fl_X2_11 (by first | assumption | rfl) (by rfl) rfl ?_
  refine v_iload_n dX2_init_75 rfl rfl ?_
  refine v_new (fs := [.int 0, .int 0, .int 0, .null, .null]) dX2_init_76 ci0 tk_X2_9 tt_X0 ti_X0 (by decide) (Nat.le_of_ble_eq_true rfl) (Nat.le_of_ble_eq_true rfl) rfl ?_
  refine v_dup dX2_init_79 rfl rfl ?_
  refine v_iload_n dX2_init_80 rfl rfl ?_
  refine v_iconst (v := nI 4) dX2_init_81 (by decide) rfl ?_
  refine v_irem dX2_init_82 (by decide) rfl ?_
  refine v_top (y := nI 3) (by decide) ?_
  refine v_cin dX2_init_83 cw_X2_42 ⟨rfl, tn_X0_init⟩ rfl (c_lineInit G _ (nI 3)) (by rfl) (by rfl) (Nat.le_of_ble_eq_true rfl) (Nat.le_of_ble_eq_true rfl) (Nat.le_of_ble_eq_true rfl) (Nat.le_of_ble_eq_true rfl) (Nat.le_of_ble_eq_true rfl) rfl ?_
  try simp only [List.length_cons, List.length_nil, List.cons_append, List.nil_append, List.set_cons_zero, List.set_cons_succ, Nat.zero_add, Nat.reduceAdd]
  refine v_aastL 3 dX2_init_86 (by first | assumption | rfl) (by rfl) rfl (by decide) (by decide) rfl ?_
  try simp only [List.length_cons, List.length_nil, List.cons_append, List.nil_append, List.set_cons_zero, List.set_cons_succ, Nat.zero_add, Nat.reduceAdd]
  refine v_iinc (v := nI 4) dX2_init_87 rfl (by decide) (Nat.le_of_ble_eq_true rfl) rfl ?_
  refine v_goto (tgt := 65) dX2_init_90 (by decide) ?_
  refine v_iload_n dX2_init_65 rfl rfl ?_
  refine v_bipush (v := nI 8) dX2_init_66 (by decide) rfl ?_
  refine v_icmp_ge (tgt := 93) dX2_init_68 (by decide) rfl (fun q => absurd q (by decide)) (fun _ => ?_)
  refine v_aload_n dX2_init_71 rfl rfl ?_
  refine v_getf dX2_init_72 fl_X2_11 (by first | assumption | rfl) (by rfl) rfl ?_
  refine v_iload_n dX2_init_75 rfl rfl ?_
  refine v_new (fs := [.int 0, .int 0, .int 0, .null, .null]) dX2_init_76 ci0 tk_X2_9 tt_X0 ti_X0 (by decide) (Nat.le_of_ble_eq_true rfl) (Nat.le_of_ble_eq_true rfl) rfl ?_
  refine v_dup dX2_init_79 rfl rfl ?_
  refine v_iload_n dX2_init_80 rfl rfl ?_
  refine v_iconst (v := nI 4) dX2_init_81 (by decide) rfl ?_
  refine v_irem dX2_init_82 (by decide) rfl ?_
  refine v_top (y := nI 0) (by decide) ?_
  refine v_cin dX2_init_83 cw_X2_42 ⟨rfl, tn_X0_init⟩ rfl (c_lineInit G _ (nI 0)) (by rfl) (by rfl) (Nat.le_of_ble_eq_true rfl) (Nat.le_of_ble_eq_true rfl) (Nat.le_of_ble_eq_true rfl) (Nat.le_of_ble_eq_true rfl) (Nat.le_of_ble_eq_true rfl) rfl ?_
  try simp only [List.length_cons, List.length_nil, List.cons_append, List.nil_append, List.set_cons_zero, List.set_cons_succ, Nat.zero_add, Nat.reduceAdd]
  refine v_aastL 4 dX2_init_86 (by first | assumption | rfl) (by rfl) rfl (by decide) (by decide) rfl ?_
  try simp only [List.length_cons, List.length_nil, List.cons_append, List.nil_append, List.set_cons_zero, List.set_cons_succ, Nat.zero_add, Nat.reduceAdd]
  refine v_iinc (v := nI 5) dX2_init_87 rfl (by decide) (Nat.le_of_ble_eq_true rfl) rfl ?_
  refine v_goto (tgt := 65) dX2_init_90 (by decide) ?_
  refine v_iload_n dX2_init_65 rfl rfl ?_
  refine v_bipush (v := nI 8) dX2_init_66 (by decide) rfl ?_
  refine v_icmp_ge (tgt := 93) dX2_init_68 (by decide) rfl (fun q => absurd q (by decide)) (fun _ => ?_)
  refine v_aload_n dX2_init_71 rfl rfl ?_
  refine v_getf dX2_init_72 fl_X2_11 (by first | assumption | rfl) (by rfl) rfl ?_
  refine v_iload_n dX2_init_75 rfl rfl ?_
  refine v_new (fs := [.int 0, .int 0, .int 0, .null, .null]) dX2_init_76 ci0 tk_X2_9 tt_X0 ti_X0 (by decide) (Nat.le_of_ble_eq_true rfl) (Nat.le_of_ble_eq_true rfl) rfl ?_
  refine v_dup dX2_init_79 rfl rfl ?_
  refine v_iload_n dX2_init_80 rfl rfl ?_
  refine v_iconst (v := nI 4) dX2_init_81 (by decide) rfl ?_
  refine v_irem dX2_init_82 (by decide) rfl ?_
  refine v_top (y := nI 1) (by decide) ?_
  refine v_cin dX2_init_83 cw_X2_42 ⟨rfl, tn_X0_init⟩ rfl (c_lineInit G _ (nI 1)) (by rfl) (by rfl) (Nat.le_of_ble_eq_true rfl) (Nat.le_of_ble_eq_true rfl) (Nat.le_of_ble_eq_true rfl) (Nat.le_of_ble_eq_true rfl) (Nat.le_of_ble_eq_true rfl) rfl ?_
  try simp only [List.length_cons, List.length_nil, List.cons_append, List.nil_append, List.set_cons_zero, List.set_cons_succ, Nat.zero_add, Nat.reduceAdd]
  refine v_aastL 5 dX2_init_86 (by first | assumption | rfl) (by rfl) rfl (by decide) (by decide) rfl ?_
  try simp only [List.length_cons, List.length_nil, List.cons_append, List.nil_append, List.set_cons_zero, List.set_cons_succ, Nat.zero_add, Nat.reduceAdd]
  refine v_iinc (v := nI 6) dX2_init_87 rfl (by decide) (Nat.le_of_ble_eq_true rfl) rfl ?_
  refine v_goto (tgt := 65) dX2_init_90 (by decide) ?_
  refine v_iload_n dX2_init_65 rfl rfl ?_
  refine v_bipush (v := nI 8) dX2_init_66 (by decide) rfl ?_
  refine v_icmp_ge (tgt := 93) dX2_init_68 (by decide) rfl (fun q => absurd q (by decide)) (fun _ => ?_)
  refine v_aload_n dX2_init_71 rfl rfl ?_
  refine v_getf dX2_init_72 fl_X2_11 (by first | assumption | rfl) (by rfl) rfl ?_
  refine v_iload_n dX2_init_75 rfl rfl ?_
  refine v_new (fs := [.int 0, .int 0, .int 0, .null, .null]) dX2_init_76 ci0 tk_X2_9 tt_X0 ti_X0 (by decide) (Nat.le_of_ble_eq_true rfl) (Nat.le_of_ble_eq_true rfl) rfl ?_
  refine v_dup dX2_init_79 rfl rfl ?_
  refine v_iload_n dX2_init_80 rfl rfl ?_
  refine v_iconst (v := nI 4) dX2_init_81 (by decide) rfl ?_
  refine v_irem dX2_init_82 (by decide) rfl ?_
  refine v_top (y := nI 2) (by decide) ?_
  refine v_cin dX2_init_83 cw_X2_42 ⟨rfl, tn_X0_init⟩ rfl (c_lineInit G _ (nI 2)) (by rfl) (by rfl) (Nat.le_of_ble_eq_true rfl) (Nat.le_of_ble_eq_true rfl) (Nat.le_of_ble_eq_true rfl) (Nat.le_of_ble_eq_true rfl) (Nat.le_of_ble_eq_true rfl) rfl ?_
  try simp only [List.length_cons, List.length_nil, List.cons_append, List.nil_append, List.set_cons_zero, List.set_cons_succ, Nat.zero_add, Nat.reduceAdd]
  refine v_aastL 6 dX2_init_86 (by first | assumption | rfl) (by rfl) rfl (by decide) (by decide) rfl ?_
  try simp only [List.length_cons, List.length_nil, List.cons_append, List.nil_append, List.set_cons_zero, List.set_cons_succ, Nat.zero_add, Nat.reduceAdd]
  refine v_iinc (v := nI 7) dX2_init_87 rfl (by decide) (Nat.le_of_ble_eq_true rfl) rfl ?_
  refine v_goto (tgt := 65) dX2_init_90 (by decide) ?_
  refine v_iload_n dX2_init_65 rfl rfl ?_
  refine v_bipush (v := nI 8) dX2_init_66 (by decide) rfl ?_
  refine v_icmp_ge (tgt := 93) dX2_init_68 (by decide) rfl (fun q => absurd q (by decide)) (fun _ => ?_)
  refine v_aload_n dX2_init_71 rfl rfl ?_
  refine v_getf dX2_init_72 fl_X2_11 (by first | assumption | rfl) (by rfl) rfl ?_
  refine v_iload_n dX2_init_75 rfl rfl ?_
  refine v_new (fs := [.int 0, .int 0, .int 0, .null, .null]) dX2_init_76 ci0 tk_X2_9 tt_X0 ti_X0 (by decide) (Nat.le_of_ble_eq_true rfl) (Nat.le_of_ble_eq_true rfl) rfl ?_
  refine v_dup dX2_init_79 rfl rfl ?_
  refine v_iload_n dX2_init_80 rfl rfl ?_
  refine v_iconst (v := nI 4) dX2_init_81 (by decide) rfl ?_
  refine v_irem dX2_init_82 (by decide) rfl ?_
  refine v_top (y := nI 3) (by decide) ?_
  refine v_cin dX2_init_83 cw_X2_42 ⟨rfl, tn_X0_init⟩ rfl (c_lineInit G _ (nI 3)) (by rfl) (by rfl) (Nat.le_of_ble_eq_true rfl) (Nat.le_of_ble_eq_true rfl) (Nat.le_of_ble_eq_true rfl) (Nat.le_of_ble_eq_true rfl) (Nat.le_of_ble_eq_true rfl) rfl ?_
  try simp only [List.length_cons, List.length_nil, List.cons_append, List.nil_append, List.set_cons_zero, List.set_cons_succ, Nat.zero_add, Nat.reduceAdd]
  refine v_aastL 7 dX2_init_86 (by first | assumption | rfl) (by rfl) rfl (by decide) (by decide) rfl ?_
  try simp only [List.length_cons, List.length_nil, List.cons_append, List.nil_append, List.set_cons_zero, List.set_cons_succ, Nat.zero_add, Nat.reduceAdd]
  refine v_iinc (v := nI 8) dX2_init_87 rfl (by decide) (Nat.le_of_ble_eq_true rfl) rfl ?_
  refine v_goto (tgt := 65) dX2_init_90 (by decide) ?_
  refine v_iload_n dX2_init_65 rfl rfl ?_
  refine v_bipush (v := nI 8) dX2_init_66 (by decide) rfl ?_
  refine v_icmp_ge (tgt := 93) dX2_init_68 (by decide) rfl (fun _ => ?_) (fun q => absurd (by decide) q)
  exact v_vret dX2_init_93 rfl ⟨Nat.le_of_ble_eq_true rfl, Nat.le_of_ble_eq_true rfl⟩ (⟨rfl, rfl⟩)
end MAKE2
def addW (s : ST) (a b c d : Int32) : ST := (s.1, s.2.1, s.2.2.1, s.2.2.2.1, s.2.2.2.2.1, s.2.2.2.2.2.1 + 1, updF s.2.2.2.2.2.2.1 s.2.2.2.2.2.1 (wF0 a b c d), updF s.2.2.2.2.2.2.2.1 s.2.2.2.2.2.1 wM0, upd s.2.2.2.2.2.2.2.2.1 s.2.2.2.2.2.1 (-900), s.2.2.2.2.2.2.2.2.2)
section ADDW
variable {G : GG} {hp h : List va_E} {s : ST} {x : XT}
theorem PX.addW (hX : PX G s x hp) (hn12 : s.n < 12) (a b c d : Int32) (h0' : h[0]? = some (ob 2 [.ref (G.2.2.2 + 1), .ref (G.2.2.2 + 2), .int (nI (s.n + 1)), .long s.tc, .ref (G.2.2.2 + 3), .ref (G.2.2.2 + 4), .ref (G.2.2.2 + 5), .ref (G.2.2.2 + 6)])) (h2' : h[2]? = some (aW G 12 (va_up x.2.2.1 s.n (some (G.2.2.2 + hp.length))))) (hf : ∀ i, i ≠ 0 → i ≠ 2 → i < hp.length → h[i]? = hp[i]?) (hW : WK G h hp.length (wF0 a b c d) wM0 (-900)) (hl : h.length = hp.length + 3) : PX G (addW s a b c d) (x.1, x.2.1, va_up x.2.2.1 s.n (some (G.2.2.2 + hp.length)), x.2.2.2) h := by
  obtain ⟨h0, h1, hgl, h2, hgw, h3, h4, h5, h6, hln, hwk, hn, hlen⟩ := hX
  refine ⟨h0', (hf 1 (by decide) (by decide) (by omega)).trans h1, hgl, h2', fun w hw => ?_, (hf _ (by decide) (by decide) (by omega)).trans h3, (hf _ (by decide) (by decide) (by omega)).trans h4, (hf _ (by decide) (by decide) (by omega)).trans h5, (hf _ (by decide) (by decide) (by omega)).trans h6, fun j hj => (hln j hj).frame (fun i q1 q2 => hf i (by have := la_in x.1 hj; omega) (by have := la_in x.1 hj; omega) (by have := la_in x.1 hj; omega)), fun w hw => ?_, hn12, ?_⟩
  · have hw : w < s.n + 1 := hw
    by_cases e : w = s.n
    · subst e
      rw [← hlen]
      exact if_pos rfl
    · exact (if_neg e).trans (hgw w (by omega))
  · have hw : w < s.n + 1 := hw
    by_cases e : w = s.n
    · subst e
      show WK G h _ (updF s.wf s.n (wF0 a b c d) s.n) (updF s.mr s.n wM0 s.n) (upd s.tr s.n (-900) s.n)
      rw [updF_s, updF_s, upd_s, ← hlen]
      exact hW
    · show WK G h _ (updF s.wf s.n (wF0 a b c d) w) (updF s.mr s.n wM0 w) (upd s.tr s.n (-900) w)
      rw [updF_n e, updF_n e, upd_n e]
      exact (hwk w (by omega)).frame (fun i q1 q2 => hf i (by omega) (by omega) (by omega))
  · show h.length = 42 + 3 * (s.n + 1)
    omega
end ADDW
section WORKF
variable (G : GG) (hp : List va_E) {s : ST} {x : XT}
theorem x_work_y (hX : PX G s x hp) (hn12 : s.n < 12) {a b c d : Int32} (ha : InR a 10) (hb : InR b 10) (hc : InR c 10) (hd : InR d 10) : Ct G mX2_work 2 3 10 [.ref (G.2.2.2 + 0), .int a, .int b, .int c, .int d] hp (QX G hp (nI s.n) (addW s a b c d)) := by
  obtain ⟨h0, h1, hgl, h2, hgw, h3, h4, h5, h6, hln, hwk, hn, hlen⟩ := id hX
  refine Ct.start 0 (by decide) rfl (Nat.le_of_ble_eq_true rfl) ?_
  refine v_iload_n dX2_work_0 rfl rfl ?_
  refine v_bipush (v := nI 9) dX2_work_1 (by decide) rfl ?_
  refine v_csf dX2_work_3 cw_X2_53 ts_X2_isUpTo ((c_isUpTo G hp a 9 (by decide)).yes ha) (by rfl) (by rfl) (Nat.le_of_ble_eq_true rfl) (Nat.le_of_ble_eq_true rfl) (Nat.le_of_ble_eq_true rfl) (Nat.le_of_ble_eq_true rfl) (Nat.le_of_ble_eq_true rfl) rfl ?_
  refine v_if_eq (tgt := 37) dX2_work_6 (by decide) rfl (fun q => absurd q (by decide)) (fun _ => ?_)
  refine v_iload_n dX2_work_9 rfl rfl ?_
  refine v_bipush (v := nI 9) dX2_work_10 (by decide) rfl ?_
  refine v_csf dX2_work_12 cw_X2_53 ts_X2_isUpTo ((c_isUpTo G hp b 9 (by decide)).yes hb) (by rfl) (by rfl) (Nat.le_of_ble_eq_true rfl) (Nat.le_of_ble_eq_true rfl) (Nat.le_of_ble_eq_true rfl) (Nat.le_of_ble_eq_true rfl) (Nat.le_of_ble_eq_true rfl) rfl ?_
  refine v_if_eq (tgt := 37) dX2_work_15 (by decide) rfl (fun q => absurd q (by decide)) (fun _ => ?_)
  refine v_iload_n dX2_work_18 rfl rfl ?_
  refine v_bipush (v := nI 9) dX2_work_19 (by decide) rfl ?_
  refine v_csf dX2_work_21 cw_X2_53 ts_X2_isUpTo ((c_isUpTo G hp c 9 (by decide)).yes hc) (by rfl) (by rfl) (Nat.le_of_ble_eq_true rfl) (Nat.le_of_ble_eq_true rfl) (Nat.le_of_ble_eq_true rfl) (Nat.le_of_ble_eq_true rfl) (Nat.le_of_ble_eq_true rfl) rfl ?_
  refine v_if_eq (tgt := 37) dX2_work_24 (by decide) rfl (fun q => absurd q (by decide)) (fun _ => ?_)
  refine v_iload dX2_work_27 rfl rfl ?_
  refine v_bipush (v := nI 9) dX2_work_29 (by decide) rfl ?_
  refine v_csf dX2_work_31 cw_X2_53 ts_X2_isUpTo ((c_isUpTo G hp d 9 (by decide)).yes hd) (by rfl) (by rfl) (Nat.le_of_ble_eq_true rfl) (Nat.le_of_ble_eq_true rfl) (Nat.le_of_ble_eq_true rfl) (Nat.le_of_ble_eq_true rfl) (Nat.le_of_ble_eq_true rfl) rfl ?_
  refine v_if_ne (tgt := 40) dX2_work_34 (by decide) rfl (fun _ => ?_) (fun q => absurd q (by decide))
  refine v_aload_n dX2_work_40 rfl rfl ?_
  refine v_getf dX2_work_41 fl_X2_21 (by first | assumption | rfl) (by rfl) rfl ?_
  refine v_bipush (v := nI 12) dX2_work_44 (by decide) rfl ?_
  refine v_icmp_ltN (tgt := 53) dX2_work_46 (by decide) rfl (by omega) (by omega) (fun c46 => ?_) (fun c46 => ?_)
  · refine v_aload_n dX2_work_53 rfl rfl ?_
    refine v_getf dX2_work_54 fl_X2_17 (by first | assumption | rfl) (by rfl) rfl ?_
    refine v_aload_n dX2_work_57 rfl rfl ?_
    refine v_getf dX2_work_58 fl_X2_21 (by first | assumption | rfl) (by rfl) rfl ?_
    refine v_new (fs := [.null, .null, .int 0]) dX2_work_61 ci1 tk_X2_15 tt_X1 ti_X1 (by decide) (Nat.le_of_ble_eq_true rfl) (Nat.le_of_ble_eq_true rfl) rfl ?_
    refine v_dup dX2_work_64 rfl rfl ?_
    refine v_iload_n dX2_work_65 rfl rfl ?_
    refine v_iload_n dX2_work_66 rfl rfl ?_
    refine v_iload_n dX2_work_67 rfl rfl ?_
    refine v_iload dX2_work_68 rfl rfl ?_
    refine v_cin dX2_work_70 cw_X2_89 ⟨rfl, tn_X1_init⟩ rfl (c_workInit G hp a b c d) (by rfl) (by rfl) (Nat.le_of_ble_eq_true rfl) (Nat.le_of_ble_eq_true rfl) (Nat.le_of_ble_eq_true rfl) (Nat.le_of_ble_eq_true rfl) (Nat.le_of_ble_eq_true rfl) rfl ?_
    refine v_aastW _ dX2_work_73 ((get_app (by omega)).trans h2) (hB0 ..) rfl (by omega) (by decide) rfl ?_
    refine v_aload_n dX2_work_74 rfl rfl ?_
    refine v_dup dX2_work_75 rfl rfl ?_
    refine v_getf dX2_work_76 fl_X2_21 ((set_ne (by decide)).trans ((get_app (by omega)).trans h0)) (by rfl) rfl ?_
    refine v_iconst (v := nI 1) dX2_work_79 (by decide) rfl ?_
    refine v_iaddN dX2_work_80 rfl ?_
    refine v_putf dX2_work_81 fl_X2_21 ((set_ne (by decide)).trans ((get_app (by omega)).trans h0)) (by rfl) (by rfl) (by exact Nat.le_of_ble_eq_true rfl) rfl ?_
    refine v_aload_n dX2_work_84 rfl rfl ?_
    refine v_getf dX2_work_85 fl_X2_21 (set_get ((set_ne (by decide)).trans ((get_app (by omega)).trans h0))) (by rfl) rfl ?_
    refine v_iconst (v := nI 1) dX2_work_88 (by decide) rfl ?_
    refine v_isubN dX2_work_89 (by omega) rfl ?_
    exact v_iret dX2_work_90 rfl ⟨Nat.le_of_ble_eq_true rfl, Nat.le_of_ble_eq_true rfl⟩ (⟨rfl, ⟨_, hX.addW hn12 a b c d (set_get ((set_ne (by decide)).trans ((get_app (by omega)).trans h0))) ((set_ne (by decide)).trans (set_get ((get_app (by omega)).trans h2))) (fun i q1 q2 q3 => (set_ne q1).trans ((set_ne q2).trans (get_app q3))) ⟨(set_ne (by omega)).trans ((set_ne (by omega)).trans (hB0 ..)), (set_ne (by omega)).trans ((set_ne (by omega)).trans (hB1 ..)), (set_ne (by omega)).trans ((set_ne (by omega)).trans (hB2 ..))⟩ (by rw [List.length_set, List.length_set, List.length_append]; rfl)⟩, fun i q1 q2 => (set_ne (by omega)).trans ((set_ne (by omega)).trans (get_app (by omega)))⟩)
  · exact absurd c46 (by omega)
theorem x_work_full (hX : PX G s x hp) (hn12 : s.n = 12) {a b c d : Int32} (ha : InR a 10) (hb : InR b 10) (hc : InR c 10) (hd : InR d 10) : Ct G mX2_work 2 3 10 [.ref (G.2.2.2 + 0), .int a, .int b, .int c, .int d] hp (Qf (some (.int (-300))) hp) := by
  have h0 := hX.1
  refine Ct.start 0 (by decide) rfl (Nat.le_of_ble_eq_true rfl) ?_
  refine v_iload_n dX2_work_0 rfl rfl ?_
  refine v_bipush (v := nI 9) dX2_work_1 (by decide) rfl ?_
  refine v_csf dX2_work_3 cw_X2_53 ts_X2_isUpTo ((c_isUpTo G hp a 9 (by decide)).yes ha) (by rfl) (by rfl) (Nat.le_of_ble_eq_true rfl) (Nat.le_of_ble_eq_true rfl) (Nat.le_of_ble_eq_true rfl) (Nat.le_of_ble_eq_true rfl) (Nat.le_of_ble_eq_true rfl) rfl ?_
  refine v_if_eq (tgt := 37) dX2_work_6 (by decide) rfl (fun q => absurd q (by decide)) (fun _ => ?_)
  refine v_iload_n dX2_work_9 rfl rfl ?_
  refine v_bipush (v := nI 9) dX2_work_10 (by decide) rfl ?_
  refine v_csf dX2_work_12 cw_X2_53 ts_X2_isUpTo ((c_isUpTo G hp b 9 (by decide)).yes hb) (by rfl) (by rfl) (Nat.le_of_ble_eq_true rfl) (Nat.le_of_ble_eq_true rfl) (Nat.le_of_ble_eq_true rfl) (Nat.le_of_ble_eq_true rfl) (Nat.le_of_ble_eq_true rfl) rfl ?_
  refine v_if_eq (tgt := 37) dX2_work_15 (by decide) rfl (fun q => absurd q (by decide)) (fun _ => ?_)
  refine v_iload_n dX2_work_18 rfl rfl ?_
  refine v_bipush (v := nI 9) dX2_work_19 (by decide) rfl ?_
  refine v_csf dX2_work_21 cw_X2_53 ts_X2_isUpTo ((c_isUpTo G hp c 9 (by decide)).yes hc) (by rfl) (by rfl) (Nat.le_of_ble_eq_true rfl) (Nat.le_of_ble_eq_true rfl) (Nat.le_of_ble_eq_true rfl) (Nat.le_of_ble_eq_true rfl) (Nat.le_of_ble_eq_true rfl) rfl ?_
  refine v_if_eq (tgt := 37) dX2_work_24 (by decide) rfl (fun q => absurd q (by decide)) (fun _ => ?_)
  refine v_iload dX2_work_27 rfl rfl ?_
  refine v_bipush (v := nI 9) dX2_work_29 (by decide) rfl ?_
  refine v_csf dX2_work_31 cw_X2_53 ts_X2_isUpTo ((c_isUpTo G hp d 9 (by decide)).yes hd) (by rfl) (by rfl) (Nat.le_of_ble_eq_true rfl) (Nat.le_of_ble_eq_true rfl) (Nat.le_of_ble_eq_true rfl) (Nat.le_of_ble_eq_true rfl) (Nat.le_of_ble_eq_true rfl) rfl ?_
  refine v_if_ne (tgt := 40) dX2_work_34 (by decide) rfl (fun _ => ?_) (fun q => absurd q (by decide))
  refine v_aload_n dX2_work_40 rfl rfl ?_
  refine v_getf dX2_work_41 fl_X2_21 (by first | assumption | rfl) (by rfl) rfl ?_
  refine v_bipush (v := nI 12) dX2_work_44 (by decide) rfl ?_
  refine v_icmp_ltN (tgt := 53) dX2_work_46 (by decide) rfl (by omega) (by omega) (fun c46 => ?_) (fun c46 => ?_)
  · exact absurd c46 (by omega)
  · refine v_sipush (v := (-300)) dX2_work_49 (by decide) rfl ?_
    exact v_iret dX2_work_52 rfl ⟨Nat.le_of_ble_eq_true rfl, Nat.le_of_ble_eq_true rfl⟩ (⟨rfl, rfl⟩)
theorem x_work_n {a b c d : Int32} (h : ¬ (InR a 10 ∧ InR b 10 ∧ InR c 10 ∧ InR d 10)) : Ct G mX2_work 2 3 10 [.ref (G.2.2.2 + 0), .int a, .int b, .int c, .int d] hp (Qf (some (.int (-100))) hp) := by
  refine Ct.start 0 (by decide) rfl (Nat.le_of_ble_eq_true rfl) ?_
  refine v_iload_n dX2_work_0 rfl rfl ?_
  refine v_bipush (v := nI 9) dX2_work_1 (by decide) rfl ?_
  by_cases q3 : InR a 10
  · refine v_csf dX2_work_3 cw_X2_53 ts_X2_isUpTo ((c_isUpTo G hp a 9 (by decide)).yes ‹_›) (by rfl) (by rfl) (Nat.le_of_ble_eq_true rfl) (Nat.le_of_ble_eq_true rfl) (Nat.le_of_ble_eq_true rfl) (Nat.le_of_ble_eq_true rfl) (Nat.le_of_ble_eq_true rfl) rfl ?_
    refine v_if_eq (tgt := 37) dX2_work_6 (by decide) rfl (fun q => absurd q (by decide)) (fun _ => ?_)
    refine v_iload_n dX2_work_9 rfl rfl ?_
    refine v_bipush (v := nI 9) dX2_work_10 (by decide) rfl ?_
    by_cases q12 : InR b 10
    · refine v_csf dX2_work_12 cw_X2_53 ts_X2_isUpTo ((c_isUpTo G hp b 9 (by decide)).yes ‹_›) (by rfl) (by rfl) (Nat.le_of_ble_eq_true rfl) (Nat.le_of_ble_eq_true rfl) (Nat.le_of_ble_eq_true rfl) (Nat.le_of_ble_eq_true rfl) (Nat.le_of_ble_eq_true rfl) rfl ?_
      refine v_if_eq (tgt := 37) dX2_work_15 (by decide) rfl (fun q => absurd q (by decide)) (fun _ => ?_)
      refine v_iload_n dX2_work_18 rfl rfl ?_
      refine v_bipush (v := nI 9) dX2_work_19 (by decide) rfl ?_
      by_cases q21 : InR c 10
      · refine v_csf dX2_work_21 cw_X2_53 ts_X2_isUpTo ((c_isUpTo G hp c 9 (by decide)).yes ‹_›) (by rfl) (by rfl) (Nat.le_of_ble_eq_true rfl) (Nat.le_of_ble_eq_true rfl) (Nat.le_of_ble_eq_true rfl) (Nat.le_of_ble_eq_true rfl) (Nat.le_of_ble_eq_true rfl) rfl ?_
        refine v_if_eq (tgt := 37) dX2_work_24 (by decide) rfl (fun q => absurd q (by decide)) (fun _ => ?_)
        refine v_iload dX2_work_27 rfl rfl ?_
        refine v_bipush (v := nI 9) dX2_work_29 (by decide) rfl ?_
        by_cases q31 : InR d 10
        · refine v_csf dX2_work_31 cw_X2_53 ts_X2_isUpTo ((c_isUpTo G hp d 9 (by decide)).yes ‹_›) (by rfl) (by rfl) (Nat.le_of_ble_eq_true rfl) (Nat.le_of_ble_eq_true rfl) (Nat.le_of_ble_eq_true rfl) (Nat.le_of_ble_eq_true rfl) (Nat.le_of_ble_eq_true rfl) rfl ?_
          refine v_if_ne (tgt := 40) dX2_work_34 (by decide) rfl (fun _ => ?_) (fun q => absurd q (by decide))
          exact absurd ⟨q3, q12, q21, q31⟩ h
        · refine v_csf dX2_work_31 cw_X2_53 ts_X2_isUpTo ((c_isUpTo G hp d 9 (by decide)).no ‹_›) (by rfl) (by rfl) (Nat.le_of_ble_eq_true rfl) (Nat.le_of_ble_eq_true rfl) (Nat.le_of_ble_eq_true rfl) (Nat.le_of_ble_eq_true rfl) (Nat.le_of_ble_eq_true rfl) rfl ?_
          refine v_if_ne (tgt := 40) dX2_work_34 (by decide) rfl (fun q => absurd (by decide) q) (fun _ => ?_)
          refine v_bipush (v := (-100)) dX2_work_37 (by decide) rfl ?_
          exact v_iret dX2_work_39 rfl ⟨Nat.le_of_ble_eq_true rfl, Nat.le_of_ble_eq_true rfl⟩ (⟨rfl, rfl⟩)
      · refine v_csf dX2_work_21 cw_X2_53 ts_X2_isUpTo ((c_isUpTo G hp c 9 (by decide)).no ‹_›) (by rfl) (by rfl) (Nat.le_of_ble_eq_true rfl) (Nat.le_of_ble_eq_true rfl) (Nat.le_of_ble_eq_true rfl) (Nat.le_of_ble_eq_true rfl) (Nat.le_of_ble_eq_true rfl) rfl ?_
        refine v_if_eq (tgt := 37) dX2_work_24 (by decide) rfl (fun _ => ?_) (fun q => absurd (by decide) q)
        refine v_bipush (v := (-100)) dX2_work_37 (by decide) rfl ?_
        exact v_iret dX2_work_39 rfl ⟨Nat.le_of_ble_eq_true rfl, Nat.le_of_ble_eq_true rfl⟩ (⟨rfl, rfl⟩)
    · refine v_csf dX2_work_12 cw_X2_53 ts_X2_isUpTo ((c_isUpTo G hp b 9 (by decide)).no ‹_›) (by rfl) (by rfl) (Nat.le_of_ble_eq_true rfl) (Nat.le_of_ble_eq_true rfl) (Nat.le_of_ble_eq_true rfl) (Nat.le_of_ble_eq_true rfl) (Nat.le_of_ble_eq_true rfl) rfl ?_
      refine v_if_eq (tgt := 37) dX2_work_15 (by decide) rfl (fun _ => ?_) (fun q => absurd (by decide) q)
      refine v_bipush (v := (-100)) dX2_work_37 (by decide) rfl ?_
      exact v_iret dX2_work_39 rfl ⟨Nat.le_of_ble_eq_true rfl, Nat.le_of_ble_eq_true rfl⟩ (⟨rfl, rfl⟩)
  · refine v_csf dX2_work_3 cw_X2_53 ts_X2_isUpTo ((c_isUpTo G hp a 9 (by decide)).no ‹_›) (by rfl) (by rfl) (Nat.le_of_ble_eq_true rfl) (Nat.le_of_ble_eq_true rfl) (Nat.le_of_ble_eq_true rfl) (Nat.le_of_ble_eq_true rfl) (Nat.le_of_ble_eq_true rfl) rfl ?_
    refine v_if_eq (tgt := 37) dX2_work_6 (by decide) rfl (fun _ => ?_) (fun q => absurd (by decide) q)
    refine v_bipush (v := (-100)) dX2_work_37 (by decide) rfl ?_
    exact v_iret dX2_work_39 rfl ⟨Nat.le_of_ble_eq_true rfl, Nat.le_of_ble_eq_true rfl⟩ (⟨rfl, rfl⟩)
end WORKF
end
