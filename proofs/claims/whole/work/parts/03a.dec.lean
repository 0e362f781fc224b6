theorem dX0_init_0 : decode cX0_init 0 = .ok (.aload_n 0, 1) := by decide +kernel
theorem dX0_init_1 : decode cX0_init 1 = .ok (.invokespecial 3, 3) := by decide +kernel
theorem dX0_init_4 : decode cX0_init 4 = .ok (.aload_n 0, 1) := by decide +kernel
theorem dX0_init_5 : decode cX0_init 5 = .ok (.iconst 0, 1) := by decide +kernel
theorem dX0_init_6 : decode cX0_init 6 = .ok (.putfield 9, 3) := by decide +kernel
theorem dX0_init_9 : decode cX0_init 9 = .ok (.aload_n 0, 1) := by decide +kernel
theorem dX0_init_10 : decode cX0_init 10 = .ok (.iconst 1, 1) := by decide +kernel
theorem dX0_init_11 : decode cX0_init 11 = .ok (.putfield 15, 3) := by decide +kernel
theorem dX0_init_14 : decode cX0_init 14 = .ok (.aload_n 0, 1) := by decide +kernel
theorem dX0_init_15 : decode cX0_init 15 = .ok (.iconst 4, 1) := by decide +kernel
theorem dX0_init_16 : decode cX0_init 16 = .ok (.newarray .int, 2) := by decide +kernel
theorem dX0_init_18 : decode cX0_init 18 = .ok (.putfield 18, 3) := by decide +kernel
theorem dX0_init_21 : decode cX0_init 21 = .ok (.aload_n 0, 1) := by decide +kernel
theorem dX0_init_22 : decode cX0_init 22 = .ok (.iconst 4, 1) := by decide +kernel
theorem dX0_init_23 : decode cX0_init 23 = .ok (.newarray .int, 2) := by decide +kernel
theorem dX0_init_25 : decode cX0_init 25 = .ok (.putfield 22, 3) := by decide +kernel
theorem dX0_init_28 : decode cX0_init 28 = .ok (.aload_n 0, 1) := by decide +kernel
theorem dX0_init_29 : decode cX0_init 29 = .ok (.iload_n 1, 1) := by decide +kernel
theorem dX0_init_30 : decode cX0_init 30 = .ok (.putfield 25, 3) := by decide +kernel
theorem dX0_init_33 : decode cX0_init 33 = .ok (.iconst 1, 1) := by decide +kernel
theorem dX0_init_34 : decode cX0_init 34 = .ok (.istore_n 2, 1) := by decide +kernel
theorem dX0_init_35 : decode cX0_init 35 = .ok (.iload_n 2, 1) := by decide +kernel
theorem dX0_init_36 : decode cX0_init 36 = .ok (.iconst 4, 1) := by decide +kernel
theorem dX0_init_37 : decode cX0_init 37 = .ok (.if_icmp .ge 29, 3) := by decide +kernel
theorem dX0_init_40 : decode cX0_init 40 = .ok (.aload_n 0, 1) := by decide +kernel
theorem dX0_init_41 : decode cX0_init 41 = .ok (.getfield 18, 3) := by decide +kernel
theorem dX0_init_44 : decode cX0_init 44 = .ok (.iload_n 2, 1) := by decide +kernel
theorem dX0_init_45 : decode cX0_init 45 = .ok (.iconst 3, 1) := by decide +kernel
theorem dX0_init_46 : decode cX0_init 46 = .ok (.iload_n 2, 1) := by decide +kernel
theorem dX0_init_47 : decode cX0_init 47 = .ok (.imul, 1) := by decide +kernel
theorem dX0_init_48 : decode cX0_init 48 = .ok (.iconst 2, 1) := by decide +kernel
theorem dX0_init_49 : decode cX0_init 49 = .ok (.isub, 1) := by decide +kernel
theorem dX0_init_50 : decode cX0_init 50 = .ok (.iastore, 1) := by decide +kernel
theorem dX0_init_51 : decode cX0_init 51 = .ok (.aload_n 0, 1) := by decide +kernel
theorem dX0_init_52 : decode cX0_init 52 = .ok (.getfield 22, 3) := by decide +kernel
theorem dX0_init_55 : decode cX0_init 55 = .ok (.iload_n 2, 1) := by decide +kernel
theorem dX0_init_56 : decode cX0_init 56 = .ok (.iconst 3, 1) := by decide +kernel
theorem dX0_init_57 : decode cX0_init 57 = .ok (.iload_n 2, 1) := by decide +kernel
theorem dX0_init_58 : decode cX0_init 58 = .ok (.imul, 1) := by decide +kernel
theorem dX0_init_59 : decode cX0_init 59 = .ok (.iastore, 1) := by decide +kernel
theorem dX0_init_60 : decode cX0_init 60 = .ok (.iinc 2 1, 3) := by decide +kernel
theorem dX0_init_63 : decode cX0_init 63 = .ok (.goto (-28), 3) := by decide +kernel
theorem dX0_init_66 : decode cX0_init 66 = .ok (.return_, 1) := by decide +kernel
theorem dX0_becomeAs_0 : decode cX0_becomeAs 0 = .ok (.aload_n 0, 1) := by decide +kernel
theorem dX0_becomeAs_1 : decode cX0_becomeAs 1 = .ok (.aload_n 1, 1) := by decide +kernel
theorem dX0_becomeAs_2 : decode cX0_becomeAs 2 = .ok (.getfield 9, 3) := by decide +kernel
theorem dX0_becomeAs_5 : decode cX0_becomeAs 5 = .ok (.putfield 9, 3) := by decide +kernel
theorem dX0_becomeAs_8 : decode cX0_becomeAs 8 = .ok (.aload_n 0, 1) := by decide +kernel
theorem dX0_becomeAs_9 : decode cX0_becomeAs 9 = .ok (.aload_n 1, 1) := by decide +kernel
theorem dX0_becomeAs_10 : decode cX0_becomeAs 10 = .ok (.getfield 25, 3) := by decide +kernel
theorem dX0_becomeAs_13 : decode cX0_becomeAs 13 = .ok (.putfield 25, 3) := by decide +kernel
theorem dX0_becomeAs_16 : decode cX0_becomeAs 16 = .ok (.aload_n 0, 1) := by decide +kernel
theorem dX0_becomeAs_17 : decode cX0_becomeAs 17 = .ok (.aload_n 1, 1) := by decide +kernel
theorem dX0_becomeAs_18 : decode cX0_becomeAs 18 = .ok (.getfield 15, 3) := by decide +kernel
theorem dX0_becomeAs_21 : decode cX0_becomeAs 21 = .ok (.putfield 15, 3) := by decide +kernel
theorem dX0_becomeAs_24 : decode cX0_becomeAs 24 = .ok (.iconst 0, 1) := by decide +kernel
theorem dX0_becomeAs_25 : decode cX0_becomeAs 25 = .ok (.istore_n 2, 1) := by decide +kernel
theorem dX0_becomeAs_26 : decode cX0_becomeAs 26 = .ok (.iload_n 2, 1) := by decide +kernel
theorem dX0_becomeAs_27 : decode cX0_becomeAs 27 = .ok (.iconst 4, 1) := by decide +kernel
theorem dX0_becomeAs_28 : decode cX0_becomeAs 28 = .ok (.if_icmp .ge 33, 3) := by decide +kernel
theorem dX0_becomeAs_31 : decode cX0_becomeAs 31 = .ok (.aload_n 0, 1) := by decide +kernel
theorem dX0_becomeAs_32 : decode cX0_becomeAs 32 = .ok (.getfield 18, 3) := by decide +kernel
theorem dX0_becomeAs_35 : decode cX0_becomeAs 35 = .ok (.iload_n 2, 1) := by decide +kernel
theorem dX0_becomeAs_36 : decode cX0_becomeAs 36 = .ok (.aload_n 1, 1) := by decide +kernel
theorem dX0_becomeAs_37 : decode cX0_becomeAs 37 = .ok (.getfield 18, 3) := by decide +kernel
theorem dX0_becomeAs_40 : decode cX0_becomeAs 40 = .ok (.iload_n 2, 1) := by decide +kernel
theorem dX0_becomeAs_41 : decode cX0_becomeAs 41 = .ok (.iaload, 1) := by decide +kernel
theorem dX0_becomeAs_42 : decode cX0_becomeAs 42 = .ok (.iastore, 1) := by decide +kernel
theorem dX0_becomeAs_43 : decode cX0_becomeAs 43 = .ok (.aload_n 0, 1) := by decide +kernel
theorem dX0_becomeAs_44 : decode cX0_becomeAs 44 = .ok (.getfield 22, 3) := by decide +kernel
theorem dX0_becomeAs_47 : decode cX0_becomeAs 47 = .ok (.iload_n 2, 1) := by decide +kernel
theorem dX0_becomeAs_48 : decode cX0_becomeAs 48 = .ok (.aload_n 1, 1) := by decide +kernel
theorem dX0_becomeAs_49 : decode cX0_becomeAs 49 = .ok (.getfield 22, 3) := by decide +kernel
theorem dX0_becomeAs_52 : decode cX0_becomeAs 52 = .ok (.iload_n 2, 1) := by decide +kernel
theorem dX0_becomeAs_53 : decode cX0_becomeAs 53 = .ok (.iaload, 1) := by decide +kernel
theorem dX0_becomeAs_54 : decode cX0_becomeAs 54 = .ok (.iastore, 1) := by decide +kernel
theorem dX0_becomeAs_55 : decode cX0_becomeAs 55 = .ok (.iinc 2 1, 3) := by decide +kernel
theorem dX0_becomeAs_58 : decode cX0_becomeAs 58 = .ok (.goto (-32), 3) := by decide +kernel
theorem dX0_becomeAs_61 : decode cX0_becomeAs 61 = .ok (.return_, 1) := by decide +kernel
theorem dX0_levelFor_0 : decode cX0_levelFor 0 = .ok (.aload_n 0, 1) := by decide +kernel
theorem dX0_levelFor_1 : decode cX0_levelFor 1 = .ok (.iload_n 1, 1) := by decide +kernel
theorem dX0_levelFor_2 : decode cX0_levelFor 2 = .ok (.invokevirtual 28, 3) := by decide +kernel
theorem dX0_levelFor_5 : decode cX0_levelFor 5 = .ok (.istore_n 2, 1) := by decide +kernel
theorem dX0_levelFor_6 : decode cX0_levelFor 6 = .ok (.aload_n 0, 1) := by decide +kernel
theorem dX0_levelFor_7 : decode cX0_levelFor 7 = .ok (.getfield 9, 3) := by decide +kernel
theorem dX0_levelFor_10 : decode cX0_levelFor 10 = .ok (.ifCond .ne 5, 3) := by decide +kernel
theorem dX0_levelFor_13 : decode cX0_levelFor 13 = .ok (.iload_n 2, 1) := by decide +kernel
theorem dX0_levelFor_14 : decode cX0_levelFor 14 = .ok (.ireturn, 1) := by decide +kernel
theorem dX0_levelFor_15 : decode cX0_levelFor 15 = .ok (.iload_n 2, 1) := by decide +kernel
theorem dX0_levelFor_16 : decode cX0_levelFor 16 = .ok (.sipush (-900), 3) := by decide +kernel
theorem dX0_levelFor_19 : decode cX0_levelFor 19 = .ok (.if_icmp .ne 11, 3) := by decide +kernel
theorem dX0_levelFor_22 : decode cX0_levelFor 22 = .ok (.aload_n 0, 1) := by decide +kernel
theorem dX0_levelFor_23 : decode cX0_levelFor 23 = .ok (.iload_n 1, 1) := by decide +kernel
theorem dX0_levelFor_24 : decode cX0_levelFor 24 = .ok (.invokevirtual 32, 3) := by decide +kernel
theorem dX0_levelFor_27 : decode cX0_levelFor 27 = .ok (.goto 4, 3) := by decide +kernel
theorem dX0_levelFor_30 : decode cX0_levelFor 30 = .ok (.iload_n 2, 1) := by decide +kernel
theorem dX0_levelFor_31 : decode cX0_levelFor 31 = .ok (.istore_n 3, 1) := by decide +kernel
theorem dX0_levelFor_32 : decode cX0_levelFor 32 = .ok (.aload_n 0, 1) := by decide +kernel
theorem dX0_levelFor_33 : decode cX0_levelFor 33 = .ok (.getfield 9, 3) := by decide +kernel
theorem dX0_levelFor_36 : decode cX0_levelFor 36 = .ok (.iconst 1, 1) := by decide +kernel
theorem dX0_levelFor_37 : decode cX0_levelFor 37 = .ok (.if_icmp .ne 7, 3) := by decide +kernel
theorem dX0_levelFor_40 : decode cX0_levelFor 40 = .ok (.iload_n 3, 1) := by decide +kernel
theorem dX0_levelFor_41 : decode cX0_levelFor 41 = .ok (.goto 9, 3) := by decide +kernel
theorem dX0_levelFor_44 : decode cX0_levelFor 44 = .ok (.aload_n 0, 1) := by decide +kernel
theorem dX0_levelFor_45 : decode cX0_levelFor 45 = .ok (.iload_n 3, 1) := by decide +kernel
theorem dX0_levelFor_46 : decode cX0_levelFor 46 = .ok (.iload_n 1, 1) := by decide +kernel
theorem dX0_levelFor_47 : decode cX0_levelFor 47 = .ok (.invokevirtual 35, 3) := by decide +kernel
theorem dX0_levelFor_50 : decode cX0_levelFor 50 = .ok (.ireturn, 1) := by decide +kernel
theorem dX0_traceOfAsking_0 : decode cX0_traceOfAsking 0 = .ok (.aload_n 0, 1) := by decide +kernel
theorem dX0_traceOfAsking_1 : decode cX0_traceOfAsking 1 = .ok (.getfield 9, 3) := by decide +kernel
theorem dX0_traceOfAsking_4 : decode cX0_traceOfAsking 4 = .ok (.ifCond .ne 5, 3) := by decide +kernel
theorem dX0_traceOfAsking_7 : decode cX0_traceOfAsking 7 = .ok (.iconst 1, 1) := by decide +kernel
theorem dX0_traceOfAsking_8 : decode cX0_traceOfAsking 8 = .ok (.ireturn, 1) := by decide +kernel
theorem dX0_traceOfAsking_9 : decode cX0_traceOfAsking 9 = .ok (.aload_n 0, 1) := by decide +kernel
theorem dX0_traceOfAsking_10 : decode cX0_traceOfAsking 10 = .ok (.getfield 9, 3) := by decide +kernel
theorem dX0_traceOfAsking_13 : decode cX0_traceOfAsking 13 = .ok (.iconst 1, 1) := by decide +kernel
theorem dX0_traceOfAsking_14 : decode cX0_traceOfAsking 14 = .ok (.if_icmp .ne 8, 3) := by decide +kernel
theorem dX0_traceOfAsking_17 : decode cX0_traceOfAsking 17 = .ok (.bipush 11, 2) := by decide +kernel
theorem dX0_traceOfAsking_19 : decode cX0_traceOfAsking 19 = .ok (.goto 5, 3) := by decide +kernel
theorem dX0_traceOfAsking_22 : decode cX0_traceOfAsking 22 = .ok (.bipush 111, 2) := by decide +kernel
theorem dX0_traceOfAsking_24 : decode cX0_traceOfAsking 24 = .ok (.ireturn, 1) := by decide +kernel
theorem dX0_strictLevel_0 : decode cX0_strictLevel 0 = .ok (.iconst 3, 1) := by decide +kernel
theorem dX0_strictLevel_1 : decode cX0_strictLevel 1 = .ok (.istore_n 2, 1) := by decide +kernel
theorem dX0_strictLevel_2 : decode cX0_strictLevel 2 = .ok (.iload_n 2, 1) := by decide +kernel
theorem dX0_strictLevel_3 : decode cX0_strictLevel 3 = .ok (.ifCond .lt 20, 3) := by decide +kernel
theorem dX0_strictLevel_6 : decode cX0_strictLevel 6 = .ok (.aload_n 0, 1) := by decide +kernel
theorem dX0_strictLevel_7 : decode cX0_strictLevel 7 = .ok (.iload_n 2, 1) := by decide +kernel
theorem dX0_strictLevel_8 : decode cX0_strictLevel 8 = .ok (.iload_n 1, 1) := by decide +kernel
theorem dX0_strictLevel_9 : decode cX0_strictLevel 9 = .ok (.invokevirtual 39, 3) := by decide +kernel
theorem dX0_strictLevel_12 : decode cX0_strictLevel 12 = .ok (.ifCond .eq 5, 3) := by decide +kernel
theorem dX0_strictLevel_15 : decode cX0_strictLevel 15 = .ok (.iload_n 2, 1) := by decide +kernel
theorem dX0_strictLevel_16 : decode cX0_strictLevel 16 = .ok (.ireturn, 1) := by decide +kernel
theorem dX0_strictLevel_17 : decode cX0_strictLevel 17 = .ok (.iinc 2 (-1), 3) := by decide +kernel
theorem dX0_strictLevel_20 : decode cX0_strictLevel 20 = .ok (.goto (-18), 3) := by decide +kernel
theorem dX0_strictLevel_23 : decode cX0_strictLevel 23 = .ok (.sipush (-900), 3) := by decide +kernel
theorem dX0_strictLevel_26 : decode cX0_strictLevel 26 = .ok (.ireturn, 1) := by decide +kernel
theorem dX0_kindLevel_0 : decode cX0_kindLevel 0 = .ok (.aload_n 0, 1) := by decide +kernel
theorem dX0_kindLevel_1 : decode cX0_kindLevel 1 = .ok (.iload_n 1, 1) := by decide +kernel
theorem dX0_kindLevel_2 : decode cX0_kindLevel 2 = .ok (.iload_n 2, 1) := by decide +kernel
theorem dX0_kindLevel_3 : decode cX0_kindLevel 3 = .ok (.invokevirtual 39, 3) := by decide +kernel
theorem dX0_kindLevel_6 : decode cX0_kindLevel 6 = .ok (.ifCond .eq 17, 3) := by decide +kernel
theorem dX0_kindLevel_9 : decode cX0_kindLevel 9 = .ok (.aload_n 0, 1) := by decide +kernel
theorem dX0_kindLevel_10 : decode cX0_kindLevel 10 = .ok (.getfield 22, 3) := by decide +kernel
theorem dX0_kindLevel_13 : decode cX0_kindLevel 13 = .ok (.iload_n 1, 1) := by decide +kernel
theorem dX0_kindLevel_14 : decode cX0_kindLevel 14 = .ok (.iaload, 1) := by decide +kernel
theorem dX0_kindLevel_15 : decode cX0_kindLevel 15 = .ok (.iload_n 2, 1) := by decide +kernel
theorem dX0_kindLevel_16 : decode cX0_kindLevel 16 = .ok (.if_icmp .ne 7, 3) := by decide +kernel
theorem dX0_kindLevel_19 : decode cX0_kindLevel 19 = .ok (.iconst 1, 1) := by decide +kernel
theorem dX0_kindLevel_20 : decode cX0_kindLevel 20 = .ok (.goto 4, 3) := by decide +kernel
theorem dX0_kindLevel_23 : decode cX0_kindLevel 23 = .ok (.iconst 0, 1) := by decide +kernel
theorem dX0_kindLevel_24 : decode cX0_kindLevel 24 = .ok (.istore_n 3, 1) := by decide +kernel
theorem dX0_kindLevel_25 : decode cX0_kindLevel 25 = .ok (.iload_n 3, 1) := by decide +kernel
theorem dX0_kindLevel_26 : decode cX0_kindLevel 26 = .ok (.ifCond .eq 13, 3) := by decide +kernel
theorem dX0_kindLevel_29 : decode cX0_kindLevel 29 = .ok (.iconst 3, 1) := by decide +kernel
theorem dX0_kindLevel_30 : decode cX0_kindLevel 30 = .ok (.iload_n 1, 1) := by decide +kernel
theorem dX0_kindLevel_31 : decode cX0_kindLevel 31 = .ok (.iconst 1, 1) := by decide +kernel
theorem dX0_kindLevel_32 : decode cX0_kindLevel 32 = .ok (.iadd, 1) := by decide +kernel
theorem dX0_kindLevel_33 : decode cX0_kindLevel 33 = .ok (.invokestatic 43, 3) := by decide +kernel
theorem dX0_kindLevel_36 : decode cX0_kindLevel 36 = .ok (.goto 4, 3) := by decide +kernel
theorem dX0_kindLevel_39 : decode cX0_kindLevel 39 = .ok (.iload_n 1, 1) := by decide +kernel
theorem dX0_kindLevel_40 : decode cX0_kindLevel 40 = .ok (.ireturn, 1) := by decide +kernel
theorem dX0_greatestBelow_0 : decode cX0_greatestBelow 0 = .ok (.iconst 3, 1) := by decide +kernel
theorem dX0_greatestBelow_1 : decode cX0_greatestBelow 1 = .ok (.istore_n 2, 1) := by decide +kernel
theorem dX0_greatestBelow_2 : decode cX0_greatestBelow 2 = .ok (.iload_n 2, 1) := by decide +kernel
theorem dX0_greatestBelow_3 : decode cX0_greatestBelow 3 = .ok (.ifCond .lt 36, 3) := by decide +kernel
theorem dX0_greatestBelow_6 : decode cX0_greatestBelow 6 = .ok (.aload_n 0, 1) := by decide +kernel
theorem dX0_greatestBelow_7 : decode cX0_greatestBelow 7 = .ok (.getfield 18, 3) := by decide +kernel
theorem dX0_greatestBelow_10 : decode cX0_greatestBelow 10 = .ok (.iload_n 2, 1) := by decide +kernel
theorem dX0_greatestBelow_11 : decode cX0_greatestBelow 11 = .ok (.iaload, 1) := by decide +kernel
theorem dX0_greatestBelow_12 : decode cX0_greatestBelow 12 = .ok (.aload_n 0, 1) := by decide +kernel
theorem dX0_greatestBelow_13 : decode cX0_greatestBelow 13 = .ok (.getfield 22, 3) := by decide +kernel
theorem dX0_greatestBelow_16 : decode cX0_greatestBelow 16 = .ok (.iload_n 2, 1) := by decide +kernel
theorem dX0_greatestBelow_17 : decode cX0_greatestBelow 17 = .ok (.iaload, 1) := by decide +kernel
theorem dX0_greatestBelow_18 : decode cX0_greatestBelow 18 = .ok (.if_icmp .gt 15, 3) := by decide +kernel
theorem dX0_greatestBelow_21 : decode cX0_greatestBelow 21 = .ok (.aload_n 0, 1) := by decide +kernel
theorem dX0_greatestBelow_22 : decode cX0_greatestBelow 22 = .ok (.getfield 22, 3) := by decide +kernel
theorem dX0_greatestBelow_25 : decode cX0_greatestBelow 25 = .ok (.iload_n 2, 1) := by decide +kernel
theorem dX0_greatestBelow_26 : decode cX0_greatestBelow 26 = .ok (.iaload, 1) := by decide +kernel
theorem dX0_greatestBelow_27 : decode cX0_greatestBelow 27 = .ok (.iload_n 1, 1) := by decide +kernel
theorem dX0_greatestBelow_28 : decode cX0_greatestBelow 28 = .ok (.if_icmp .ge 5, 3) := by decide +kernel
theorem dX0_greatestBelow_31 : decode cX0_greatestBelow 31 = .ok (.iload_n 2, 1) := by decide +kernel
theorem dX0_greatestBelow_32 : decode cX0_greatestBelow 32 = .ok (.ireturn, 1) := by decide +kernel
theorem dX0_greatestBelow_33 : decode cX0_greatestBelow 33 = .ok (.iinc 2 (-1), 3) := by decide +kernel
theorem dX0_greatestBelow_36 : decode cX0_greatestBelow 36 = .ok (.goto (-34), 3) := by decide +kernel
theorem dX0_greatestBelow_39 : decode cX0_greatestBelow 39 = .ok (.iconst 0, 1) := by decide +kernel
theorem dX0_greatestBelow_40 : decode cX0_greatestBelow 40 = .ok (.ireturn, 1) := by decide +kernel
theorem dX0_spanHas_0 : decode cX0_spanHas 0 = .ok (.aload_n 0, 1) := by decide +kernel
theorem dX0_spanHas_1 : decode cX0_spanHas 1 = .ok (.getfield 18, 3) := by decide +kernel
theorem dX0_spanHas_4 : decode cX0_spanHas 4 = .ok (.iload_n 1, 1) := by decide +kernel
theorem dX0_spanHas_5 : decode cX0_spanHas 5 = .ok (.iaload, 1) := by decide +kernel
theorem dX0_spanHas_6 : decode cX0_spanHas 6 = .ok (.iload_n 2, 1) := by decide +kernel
theorem dX0_spanHas_7 : decode cX0_spanHas 7 = .ok (.if_icmp .gt 17, 3) := by decide +kernel
theorem dX0_spanHas_10 : decode cX0_spanHas 10 = .ok (.iload_n 2, 1) := by decide +kernel
theorem dX0_spanHas_11 : decode cX0_spanHas 11 = .ok (.aload_n 0, 1) := by decide +kernel
theorem dX0_spanHas_12 : decode cX0_spanHas 12 = .ok (.getfield 22, 3) := by decide +kernel
theorem dX0_spanHas_15 : decode cX0_spanHas 15 = .ok (.iload_n 1, 1) := by decide +kernel
theorem dX0_spanHas_16 : decode cX0_spanHas 16 = .ok (.iaload, 1) := by decide +kernel
theorem dX0_spanHas_17 : decode cX0_spanHas 17 = .ok (.if_icmp .gt 7, 3) := by decide +kernel
theorem dX0_spanHas_20 : decode cX0_spanHas 20 = .ok (.iconst 1, 1) := by decide +kernel
theorem dX0_spanHas_21 : decode cX0_spanHas 21 = .ok (.goto 4, 3) := by decide +kernel
theorem dX0_spanHas_24 : decode cX0_spanHas 24 = .ok (.iconst 0, 1) := by decide +kernel
theorem dX0_spanHas_25 : decode cX0_spanHas 25 = .ok (.ireturn, 1) := by decide +kernel
theorem dX0_countSpansWith_0 : decode cX0_countSpansWith 0 = .ok (.iconst 0, 1) := by decide +kernel
theorem dX0_countSpansWith_1 : decode cX0_countSpansWith 1 = .ok (.istore_n 2, 1) := by decide +kernel
theorem dX0_countSpansWith_2 : decode cX0_countSpansWith 2 = .ok (.iconst 0, 1) := by decide +kernel
theorem dX0_countSpansWith_3 : decode cX0_countSpansWith 3 = .ok (.istore_n 3, 1) := by decide +kernel
theorem dX0_countSpansWith_4 : decode cX0_countSpansWith 4 = .ok (.iload_n 3, 1) := by decide +kernel
theorem dX0_countSpansWith_5 : decode cX0_countSpansWith 5 = .ok (.iconst 4, 1) := by decide +kernel
theorem dX0_countSpansWith_6 : decode cX0_countSpansWith 6 = .ok (.if_icmp .ge 21, 3) := by decide +kernel
theorem dX0_countSpansWith_9 : decode cX0_countSpansWith 9 = .ok (.aload_n 0, 1) := by decide +kernel
theorem dX0_countSpansWith_10 : decode cX0_countSpansWith 10 = .ok (.iload_n 3, 1) := by decide +kernel
theorem dX0_countSpansWith_11 : decode cX0_countSpansWith 11 = .ok (.iload_n 1, 1) := by decide +kernel
theorem dX0_countSpansWith_12 : decode cX0_countSpansWith 12 = .ok (.invokevirtual 39, 3) := by decide +kernel
theorem dX0_countSpansWith_15 : decode cX0_countSpansWith 15 = .ok (.ifCond .eq 6, 3) := by decide +kernel
theorem dX0_countSpansWith_18 : decode cX0_countSpansWith 18 = .ok (.iinc 2 1, 3) := by decide +kernel
theorem dX0_countSpansWith_21 : decode cX0_countSpansWith 21 = .ok (.iinc 3 1, 3) := by decide +kernel
theorem dX0_countSpansWith_24 : decode cX0_countSpansWith 24 = .ok (.goto (-20), 3) := by decide +kernel
theorem dX0_countSpansWith_27 : decode cX0_countSpansWith 27 = .ok (.iload_n 2, 1) := by decide +kernel
theorem dX0_countSpansWith_28 : decode cX0_countSpansWith 28 = .ok (.ireturn, 1) := by decide +kernel
theorem dX0_gaps_0 : decode cX0_gaps 0 = .ok (.iconst 0, 1) := by decide +kernel
theorem dX0_gaps_1 : decode cX0_gaps 1 = .ok (.istore_n 1, 1) := by decide +kernel
theorem dX0_gaps_2 : decode cX0_gaps 2 = .ok (.iconst 0, 1) := by decide +kernel
theorem dX0_gaps_3 : decode cX0_gaps 3 = .ok (.istore_n 2, 1) := by decide +kernel
theorem dX0_gaps_4 : decode cX0_gaps 4 = .ok (.iload_n 2, 1) := by decide +kernel
theorem dX0_gaps_5 : decode cX0_gaps 5 = .ok (.bipush 9, 2) := by decide +kernel
theorem dX0_gaps_7 : decode cX0_gaps 7 = .ok (.if_icmp .gt 23, 3) := by decide +kernel
theorem dX0_gaps_10 : decode cX0_gaps 10 = .ok (.aload_n 0, 1) := by decide +kernel
theorem dX0_gaps_11 : decode cX0_gaps 11 = .ok (.iload_n 2, 1) := by decide +kernel
theorem dX0_gaps_12 : decode cX0_gaps 12 = .ok (.invokevirtual 48, 3) := by decide +kernel
theorem dX0_gaps_15 : decode cX0_gaps 15 = .ok (.ifCond .ne 9, 3) := by decide +kernel
theorem dX0_gaps_18 : decode cX0_gaps 18 = .ok (.iload_n 1, 1) := by decide +kernel
theorem dX0_gaps_19 : decode cX0_gaps 19 = .ok (.iconst 1, 1) := by decide +kernel
theorem dX0_gaps_20 : decode cX0_gaps 20 = .ok (.iload_n 2, 1) := by decide +kernel
theorem dX0_gaps_21 : decode cX0_gaps 21 = .ok (.ishl, 1) := by decide +kernel
theorem dX0_gaps_22 : decode cX0_gaps 22 = .ok (.ior, 1) := by decide +kernel
theorem dX0_gaps_23 : decode cX0_gaps 23 = .ok (.istore_n 1, 1) := by decide +kernel
theorem dX0_gaps_24 : decode cX0_gaps 24 = .ok (.iinc 2 1, 3) := by decide +kernel
theorem dX0_gaps_27 : decode cX0_gaps 27 = .ok (.goto (-23), 3) := by decide +kernel
theorem dX0_gaps_30 : decode cX0_gaps 30 = .ok (.iload_n 1, 1) := by decide +kernel
theorem dX0_gaps_31 : decode cX0_gaps 31 = .ok (.ireturn, 1) := by decide +kernel
theorem dX0_overlaps_0 : decode cX0_overlaps 0 = .ok (.iconst 0, 1) := by decide +kernel
theorem dX0_overlaps_1 : decode cX0_overlaps 1 = .ok (.istore_n 1, 1) := by decide +kernel
theorem dX0_overlaps_2 : decode cX0_overlaps 2 = .ok (.iconst 0, 1) := by decide +kernel
theorem dX0_overlaps_3 : decode cX0_overlaps 3 = .ok (.istore_n 2, 1) := by decide +kernel
theorem dX0_overlaps_4 : decode cX0_overlaps 4 = .ok (.iload_n 2, 1) := by decide +kernel
theorem dX0_overlaps_5 : decode cX0_overlaps 5 = .ok (.bipush 9, 2) := by decide +kernel
theorem dX0_overlaps_7 : decode cX0_overlaps 7 = .ok (.if_icmp .gt 24, 3) := by decide +kernel
theorem dX0_overlaps_10 : decode cX0_overlaps 10 = .ok (.aload_n 0, 1) := by decide +kernel
theorem dX0_overlaps_11 : decode cX0_overlaps 11 = .ok (.iload_n 2, 1) := by decide +kernel
theorem dX0_overlaps_12 : decode cX0_overlaps 12 = .ok (.invokevirtual 48, 3) := by decide +kernel
theorem dX0_overlaps_15 : decode cX0_overlaps 15 = .ok (.iconst 2, 1) := by decide +kernel
theorem dX0_overlaps_16 : decode cX0_overlaps 16 = .ok (.if_icmp .lt 9, 3) := by decide +kernel
theorem dX0_overlaps_19 : decode cX0_overlaps 19 = .ok (.iload_n 1, 1) := by decide +kernel
theorem dX0_overlaps_20 : decode cX0_overlaps 20 = .ok (.iconst 1, 1) := by decide +kernel
theorem dX0_overlaps_21 : decode cX0_overlaps 21 = .ok (.iload_n 2, 1) := by decide +kernel
theorem dX0_overlaps_22 : decode cX0_overlaps 22 = .ok (.ishl, 1) := by decide +kernel
theorem dX0_overlaps_23 : decode cX0_overlaps 23 = .ok (.ior, 1) := by decide +kernel
theorem dX0_overlaps_24 : decode cX0_overlaps 24 = .ok (.istore_n 1, 1) := by decide +kernel
theorem dX0_overlaps_25 : decode cX0_overlaps 25 = .ok (.iinc 2 1, 3) := by decide +kernel
theorem dX0_overlaps_28 : decode cX0_overlaps 28 = .ok (.goto (-24), 3) := by decide +kernel
theorem dX0_overlaps_31 : decode cX0_overlaps 31 = .ok (.iload_n 1, 1) := by decide +kernel
theorem dX0_overlaps_32 : decode cX0_overlaps 32 = .ok (.ireturn, 1) := by decide +kernel
theorem dX0_isSensible_0 : decode cX0_isSensible 0 = .ok (.aload_n 0, 1) := by decide +kernel
theorem dX0_isSensible_1 : decode cX0_isSensible 1 = .ok (.invokevirtual 51, 3) := by decide +kernel
theorem dX0_isSensible_4 : decode cX0_isSensible 4 = .ok (.ifCond .ne 21, 3) := by decide +kernel
theorem dX0_isSensible_7 : decode cX0_isSensible 7 = .ok (.aload_n 0, 1) := by decide +kernel
theorem dX0_isSensible_8 : decode cX0_isSensible 8 = .ok (.invokevirtual 55, 3) := by decide +kernel
theorem dX0_isSensible_11 : decode cX0_isSensible 11 = .ok (.ifCond .ne 14, 3) := by decide +kernel
theorem dX0_isSensible_14 : decode cX0_isSensible 14 = .ok (.aload_n 0, 1) := by decide +kernel
theorem dX0_isSensible_15 : decode cX0_isSensible 15 = .ok (.invokevirtual 58, 3) := by decide +kernel
theorem dX0_isSensible_18 : decode cX0_isSensible 18 = .ok (.ifCond .eq 7, 3) := by decide +kernel
theorem dX0_isSensible_21 : decode cX0_isSensible 21 = .ok (.iconst 1, 1) := by decide +kernel
theorem dX0_isSensible_22 : decode cX0_isSensible 22 = .ok (.goto 4, 3) := by decide +kernel
theorem dX0_isSensible_25 : decode cX0_isSensible 25 = .ok (.iconst 0, 1) := by decide +kernel
theorem dX0_isSensible_26 : decode cX0_isSensible 26 = .ok (.ireturn, 1) := by decide +kernel
theorem dX0_neverFalls_0 : decode cX0_neverFalls 0 = .ok (.iconst 1, 1) := by decide +kernel
theorem dX0_neverFalls_1 : decode cX0_neverFalls 1 = .ok (.istore_n 1, 1) := by decide +kernel
theorem dX0_neverFalls_2 : decode cX0_neverFalls 2 = .ok (.iload_n 1, 1) := by decide +kernel
theorem dX0_neverFalls_3 : decode cX0_neverFalls 3 = .ok (.bipush 9, 2) := by decide +kernel
theorem dX0_neverFalls_5 : decode cX0_neverFalls 5 = .ok (.if_icmp .gt 26, 3) := by decide +kernel
theorem dX0_neverFalls_8 : decode cX0_neverFalls 8 = .ok (.aload_n 0, 1) := by decide +kernel
theorem dX0_neverFalls_9 : decode cX0_neverFalls 9 = .ok (.iload_n 1, 1) := by decide +kernel
theorem dX0_neverFalls_10 : decode cX0_neverFalls 10 = .ok (.invokevirtual 62, 3) := by decide +kernel
theorem dX0_neverFalls_13 : decode cX0_neverFalls 13 = .ok (.aload_n 0, 1) := by decide +kernel
theorem dX0_neverFalls_14 : decode cX0_neverFalls 14 = .ok (.iload_n 1, 1) := by decide +kernel
theorem dX0_neverFalls_15 : decode cX0_neverFalls 15 = .ok (.iconst 1, 1) := by decide +kernel
theorem dX0_neverFalls_16 : decode cX0_neverFalls 16 = .ok (.isub, 1) := by decide +kernel
theorem dX0_neverFalls_17 : decode cX0_neverFalls 17 = .ok (.invokevirtual 62, 3) := by decide +kernel
theorem dX0_neverFalls_20 : decode cX0_neverFalls 20 = .ok (.if_icmp .ge 5, 3) := by decide +kernel
theorem dX0_neverFalls_23 : decode cX0_neverFalls 23 = .ok (.iconst 0, 1) := by decide +kernel
theorem dX0_neverFalls_24 : decode cX0_neverFalls 24 = .ok (.ireturn, 1) := by decide +kernel
theorem dX0_neverFalls_25 : decode cX0_neverFalls 25 = .ok (.iinc 1 1, 3) := by decide +kernel
theorem dX0_neverFalls_28 : decode cX0_neverFalls 28 = .ok (.goto (-26), 3) := by decide +kernel
theorem dX0_neverFalls_31 : decode cX0_neverFalls 31 = .ok (.iconst 1, 1) := by decide +kernel
theorem dX0_neverFalls_32 : decode cX0_neverFalls 32 = .ok (.ireturn, 1) := by decide +kernel
theorem dX1_init_0 : decode cX1_init 0 = .ok (.aload_n 0, 1) := by decide +kernel
theorem dX1_init_1 : decode cX1_init 1 = .ok (.invokespecial 3, 3) := by decide +kernel
theorem dX1_init_4 : decode cX1_init 4 = .ok (.aload_n 0, 1) := by decide +kernel
theorem dX1_init_5 : decode cX1_init 5 = .ok (.iconst 4, 1) := by decide +kernel
theorem dX1_init_6 : decode cX1_init 6 = .ok (.newarray .int, 2) := by decide +kernel
theorem dX1_init_8 : decode cX1_init 8 = .ok (.putfield 9, 3) := by decide +kernel
theorem dX1_init_11 : decode cX1_init 11 = .ok (.aload_n 0, 1) := by decide +kernel
theorem dX1_init_12 : decode cX1_init 12 = .ok (.iconst 3, 1) := by decide +kernel
theorem dX1_init_13 : decode cX1_init 13 = .ok (.newarray .int, 2) := by decide +kernel
theorem dX1_init_15 : decode cX1_init 15 = .ok (.putfield 15, 3) := by decide +kernel
theorem dX1_init_18 : decode cX1_init 18 = .ok (.aload_n 0, 1) := by decide +kernel
theorem dX1_init_19 : decode cX1_init 19 = .ok (.sipush (-900), 3) := by decide +kernel
theorem dX1_init_22 : decode cX1_init 22 = .ok (.putfield 18, 3) := by decide +kernel
theorem dX1_init_25 : decode cX1_init 25 = .ok (.aload_n 0, 1) := by decide +kernel
theorem dX1_init_26 : decode cX1_init 26 = .ok (.getfield 9, 3) := by decide +kernel
theorem dX1_init_29 : decode cX1_init 29 = .ok (.iconst 0, 1) := by decide +kernel
theorem dX1_init_30 : decode cX1_init 30 = .ok (.iload_n 1, 1) := by decide +kernel
theorem dX1_init_31 : decode cX1_init 31 = .ok (.iastore, 1) := by decide +kernel
theorem dX1_init_32 : decode cX1_init 32 = .ok (.aload_n 0, 1) := by decide +kernel
theorem dX1_init_33 : decode cX1_init 33 = .ok (.getfield 9, 3) := by decide +kernel
theorem dX1_init_36 : decode cX1_init 36 = .ok (.iconst 1, 1) := by decide +kernel
theorem dX1_init_37 : decode cX1_init 37 = .ok (.iload_n 2, 1) := by decide +kernel
theorem dX1_init_38 : decode cX1_init 38 = .ok (.iastore, 1) := by decide +kernel
theorem dX1_init_39 : decode cX1_init 39 = .ok (.aload_n 0, 1) := by decide +kernel
theorem dX1_init_40 : decode cX1_init 40 = .ok (.getfield 9, 3) := by decide +kernel
theorem dX1_init_43 : decode cX1_init 43 = .ok (.iconst 2, 1) := by decide +kernel
theorem dX1_init_44 : decode cX1_init 44 = .ok (.iload_n 3, 1) := by decide +kernel
theorem dX1_init_45 : decode cX1_init 45 = .ok (.iastore, 1) := by decide +kernel
theorem dX1_init_46 : decode cX1_init 46 = .ok (.aload_n 0, 1) := by decide +kernel
theorem dX1_init_47 : decode cX1_init 47 = .ok (.getfield 9, 3) := by decide +kernel
theorem dX1_init_50 : decode cX1_init 50 = .ok (.iconst 3, 1) := by decide +kernel
theorem dX1_init_51 : decode cX1_init 51 = .ok (.iload 4, 2) := by decide +kernel
theorem dX1_init_53 : decode cX1_init 53 = .ok (.iastore, 1) := by decide +kernel
theorem dX1_init_54 : decode cX1_init 54 = .ok (.iconst 0, 1) := by decide +kernel
theorem dX1_init_55 : decode cX1_init 55 = .ok (.istore 5, 2) := by decide +kernel
theorem dX1_init_57 : decode cX1_init 57 = .ok (.iload 5, 2) := by decide +kernel
theorem dX1_init_59 : decode cX1_init 59 = .ok (.iconst 3, 1) := by decide +kernel
theorem dX1_init_60 : decode cX1_init 60 = .ok (.if_icmp .ge 19, 3) := by decide +kernel
theorem dX1_init_63 : decode cX1_init 63 = .ok (.aload_n 0, 1) := by decide +kernel
theorem dX1_init_64 : decode cX1_init 64 = .ok (.getfield 15, 3) := by decide +kernel
theorem dX1_init_67 : decode cX1_init 67 = .ok (.iload 5, 2) := by decide +kernel
theorem dX1_init_69 : decode cX1_init 69 = .ok (.sipush (-900), 3) := by decide +kernel
theorem dX1_init_72 : decode cX1_init 72 = .ok (.iastore, 1) := by decide +kernel
theorem dX1_init_73 : decode cX1_init 73 = .ok (.iinc 5 1, 3) := by decide +kernel
theorem dX1_init_76 : decode cX1_init 76 = .ok (.goto (-19), 3) := by decide +kernel
theorem dX1_init_79 : decode cX1_init 79 = .ok (.return_, 1) := by decide +kernel
theorem dX1_isAnchor_0 : decode cX1_isAnchor 0 = .ok (.aload_n 0, 1) := by decide +kernel
theorem dX1_isAnchor_1 : decode cX1_isAnchor 1 = .ok (.getfield 18, 3) := by decide +kernel
theorem dX1_isAnchor_4 : decode cX1_isAnchor 4 = .ok (.sipush (-900), 3) := by decide +kernel
theorem dX1_isAnchor_7 : decode cX1_isAnchor 7 = .ok (.if_icmp .eq 7, 3) := by decide +kernel
theorem dX1_isAnchor_10 : decode cX1_isAnchor 10 = .ok (.iconst 1, 1) := by decide +kernel
theorem dX1_isAnchor_11 : decode cX1_isAnchor 11 = .ok (.goto 4, 3) := by decide +kernel
theorem dX1_isAnchor_14 : decode cX1_isAnchor 14 = .ok (.iconst 0, 1) := by decide +kernel
theorem dX1_isAnchor_15 : decode cX1_isAnchor 15 = .ok (.ireturn, 1) := by decide +kernel
theorem dX1_isMarkedBy_0 : decode cX1_isMarkedBy 0 = .ok (.aload_n 0, 1) := by decide +kernel
theorem dX1_isMarkedBy_1 : decode cX1_isMarkedBy 1 = .ok (.getfield 15, 3) := by decide +kernel
theorem dX1_isMarkedBy_4 : decode cX1_isMarkedBy 4 = .ok (.iload_n 1, 1) := by decide +kernel
theorem dX1_isMarkedBy_5 : decode cX1_isMarkedBy 5 = .ok (.iaload, 1) := by decide +kernel
theorem dX1_isMarkedBy_6 : decode cX1_isMarkedBy 6 = .ok (.sipush (-900), 3) := by decide +kernel
theorem dX1_isMarkedBy_9 : decode cX1_isMarkedBy 9 = .ok (.if_icmp .eq 7, 3) := by decide +kernel
theorem dX1_isMarkedBy_12 : decode cX1_isMarkedBy 12 = .ok (.iconst 1, 1) := by decide +kernel
theorem dX1_isMarkedBy_13 : decode cX1_isMarkedBy 13 = .ok (.goto 4, 3) := by decide +kernel
theorem dX1_isMarkedBy_16 : decode cX1_isMarkedBy 16 = .ok (.iconst 0, 1) := by decide +kernel
theorem dX1_isMarkedBy_17 : decode cX1_isMarkedBy 17 = .ok (.ireturn, 1) := by decide +kernel
theorem dX1_isMarkedByBoth_0 : decode cX1_isMarkedByBoth 0 = .ok (.aload_n 0, 1) := by decide +kernel
theorem dX1_isMarkedByBoth_1 : decode cX1_isMarkedByBoth 1 = .ok (.iload_n 1, 1) := by decide +kernel
theorem dX1_isMarkedByBoth_2 : decode cX1_isMarkedByBoth 2 = .ok (.invokevirtual 22, 3) := by decide +kernel
theorem dX1_isMarkedByBoth_5 : decode cX1_isMarkedByBoth 5 = .ok (.ifCond .eq 15, 3) := by decide +kernel
theorem dX1_isMarkedByBoth_8 : decode cX1_isMarkedByBoth 8 = .ok (.aload_n 0, 1) := by decide +kernel
theorem dX1_isMarkedByBoth_9 : decode cX1_isMarkedByBoth 9 = .ok (.iload_n 2, 1) := by decide +kernel
theorem dX1_isMarkedByBoth_10 : decode cX1_isMarkedByBoth 10 = .ok (.invokevirtual 22, 3) := by decide +kernel
theorem dX1_isMarkedByBoth_13 : decode cX1_isMarkedByBoth 13 = .ok (.ifCond .eq 7, 3) := by decide +kernel
theorem dX1_isMarkedByBoth_16 : decode cX1_isMarkedByBoth 16 = .ok (.iconst 1, 1) := by decide +kernel
theorem dX1_isMarkedByBoth_17 : decode cX1_isMarkedByBoth 17 = .ok (.goto 4, 3) := by decide +kernel
theorem dX1_isMarkedByBoth_20 : decode cX1_isMarkedByBoth 20 = .ok (.iconst 0, 1) := by decide +kernel
theorem dX1_isMarkedByBoth_21 : decode cX1_isMarkedByBoth 21 = .ok (.ireturn, 1) := by decide +kernel
theorem dX2_init_0 : decode cX2_init 0 = .ok (.aload_n 0, 1) := by decide +kernel
theorem dX2_init_1 : decode cX2_init 1 = .ok (.invokespecial 3, 3) := by decide +kernel
theorem dX2_init_4 : decode cX2_init 4 = .ok (.aload_n 0, 1) := by decide +kernel
theorem dX2_init_5 : decode cX2_init 5 = .ok (.bipush 8, 2) := by decide +kernel
theorem dX2_init_7 : decode cX2_init 7 = .ok (.anewarray 9, 3) := by decide +kernel
theorem dX2_init_10 : decode cX2_init 10 = .ok (.putfield 11, 3) := by decide +kernel
theorem dX2_init_13 : decode cX2_init 13 = .ok (.aload_n 0, 1) := by decide +kernel
theorem dX2_init_14 : decode cX2_init 14 = .ok (.bipush 12, 2) := by decide +kernel
theorem dX2_init_16 : decode cX2_init 16 = .ok (.anewarray 15, 3) := by decide +kernel
theorem dX2_init_19 : decode cX2_init 19 = .ok (.putfield 17, 3) := by decide +kernel
theorem dX2_init_22 : decode cX2_init 22 = .ok (.aload_n 0, 1) := by decide +kernel
theorem dX2_init_23 : decode cX2_init 23 = .ok (.iconst 0, 1) := by decide +kernel
theorem dX2_init_24 : decode cX2_init 24 = .ok (.putfield 21, 3) := by decide +kernel
theorem dX2_init_27 : decode cX2_init 27 = .ok (.aload_n 0, 1) := by decide +kernel
theorem dX2_init_28 : decode cX2_init 28 = .ok (.lconst 0, 1) := by decide +kernel
theorem dX2_init_29 : decode cX2_init 29 = .ok (.putfield 25, 3) := by decide +kernel
theorem dX2_init_32 : decode cX2_init 32 = .ok (.aload_n 0, 1) := by decide +kernel
theorem dX2_init_33 : decode cX2_init 33 = .ok (.bipush 6, 2) := by decide +kernel
theorem dX2_init_35 : decode cX2_init 35 = .ok (.newarray .int, 2) := by decide +kernel
theorem dX2_init_37 : decode cX2_init 37 = .ok (.putfield 29, 3) := by decide +kernel
theorem dX2_init_40 : decode cX2_init 40 = .ok (.aload_n 0, 1) := by decide +kernel
theorem dX2_init_41 : decode cX2_init 41 = .ok (.iconst 4, 1) := by decide +kernel
theorem dX2_init_42 : decode cX2_init 42 = .ok (.newarray .int, 2) := by decide +kernel
theorem dX2_init_44 : decode cX2_init 44 = .ok (.putfield 33, 3) := by decide +kernel
theorem dX2_init_47 : decode cX2_init 47 = .ok (.aload_n 0, 1) := by decide +kernel
theorem dX2_init_48 : decode cX2_init 48 = .ok (.bipush 12, 2) := by decide +kernel
theorem dX2_init_50 : decode cX2_init 50 = .ok (.newarray .int, 2) := by decide +kernel
theorem dX2_init_52 : decode cX2_init 52 = .ok (.putfield 36, 3) := by decide +kernel
theorem dX2_init_55 : decode cX2_init 55 = .ok (.aload_n 0, 1) := by decide +kernel
theorem dX2_init_56 : decode cX2_init 56 = .ok (.bipush 12, 2) := by decide +kernel
theorem dX2_init_58 : decode cX2_init 58 = .ok (.newarray .int, 2) := by decide +kernel
theorem dX2_init_60 : decode cX2_init 60 = .ok (.putfield 39, 3) := by decide +kernel
theorem dX2_init_63 : decode cX2_init 63 = .ok (.iconst 0, 1) := by decide +kernel
theorem dX2_init_64 : decode cX2_init 64 = .ok (.istore_n 1, 1) := by decide +kernel
theorem dX2_init_65 : decode cX2_init 65 = .ok (.iload_n 1, 1) := by decide +kernel
theorem dX2_init_66 : decode cX2_init 66 = .ok (.bipush 8, 2) := by decide +kernel
theorem dX2_init_68 : decode cX2_init 68 = .ok (.if_icmp .ge 25, 3) := by decide +kernel
theorem dX2_init_71 : decode cX2_init 71 = .ok (.aload_n 0, 1) := by decide +kernel
theorem dX2_init_72 : decode cX2_init 72 = .ok (.getfield 11, 3) := by decide +kernel
theorem dX2_init_75 : decode cX2_init 75 = .ok (.iload_n 1, 1) := by decide +kernel
theorem dX2_init_76 : decode cX2_init 76 = .ok (.new 9, 3) := by decide +kernel
theorem dX2_init_79 : decode cX2_init 79 = .ok (.dup, 1) := by decide +kernel
theorem dX2_init_80 : decode cX2_init 80 = .ok (.iload_n 1, 1) := by decide +kernel
theorem dX2_init_81 : decode cX2_init 81 = .ok (.iconst 4, 1) := by decide +kernel
theorem dX2_init_82 : decode cX2_init 82 = .ok (.irem, 1) := by decide +kernel
theorem dX2_init_83 : decode cX2_init 83 = .ok (.invokespecial 42, 3) := by decide +kernel
theorem dX2_init_86 : decode cX2_init 86 = .ok (.aastore, 1) := by decide +kernel
theorem dX2_init_87 : decode cX2_init 87 = .ok (.iinc 1 1, 3) := by decide +kernel
theorem dX2_init_90 : decode cX2_init 90 = .ok (.goto (-25), 3) := by decide +kernel
theorem dX2_init_93 : decode cX2_init 93 = .ok (.return_, 1) := by decide +kernel
theorem dX2_line_0 : decode cX2_line 0 = .ok (.aload_n 0, 1) := by decide +kernel
theorem dX2_line_1 : decode cX2_line 1 = .ok (.iload_n 1, 1) := by decide +kernel
theorem dX2_line_2 : decode cX2_line 2 = .ok (.iload_n 2, 1) := by decide +kernel
theorem dX2_line_3 : decode cX2_line 3 = .ok (.invokevirtual 45, 3) := by decide +kernel
theorem dX2_line_6 : decode cX2_line 6 = .ok (.astore 6, 2) := by decide +kernel
theorem dX2_line_8 : decode cX2_line 8 = .ok (.aload 6, 2) := by decide +kernel
theorem dX2_line_10 : decode cX2_line 10 = .ok (.ifnull 30, 3) := by decide +kernel
theorem dX2_line_13 : decode cX2_line 13 = .ok (.iload_n 3, 1) := by decide +kernel
theorem dX2_line_14 : decode cX2_line 14 = .ok (.iconst 3, 1) := by decide +kernel
theorem dX2_line_15 : decode cX2_line 15 = .ok (.invokestatic 49, 3) := by decide +kernel
theorem dX2_line_18 : decode cX2_line 18 = .ok (.ifCond .eq 22, 3) := by decide +kernel
theorem dX2_line_21 : decode cX2_line 21 = .ok (.iload 4, 2) := by decide +kernel
theorem dX2_line_23 : decode cX2_line 23 = .ok (.iconst 4, 1) := by decide +kernel
theorem dX2_line_24 : decode cX2_line 24 = .ok (.invokestatic 49, 3) := by decide +kernel
theorem dX2_line_27 : decode cX2_line 27 = .ok (.ifCond .eq 13, 3) := by decide +kernel
theorem dX2_line_30 : decode cX2_line 30 = .ok (.iload 5, 2) := by decide +kernel
theorem dX2_line_32 : decode cX2_line 32 = .ok (.bipush 9, 2) := by decide +kernel
theorem dX2_line_34 : decode cX2_line 34 = .ok (.invokestatic 53, 3) := by decide +kernel
theorem dX2_line_37 : decode cX2_line 37 = .ok (.ifCond .ne 6, 3) := by decide +kernel
theorem dX2_line_40 : decode cX2_line 40 = .ok (.bipush (-100), 2) := by decide +kernel
theorem dX2_line_42 : decode cX2_line 42 = .ok (.ireturn, 1) := by decide +kernel
theorem dX2_line_43 : decode cX2_line 43 = .ok (.aload 6, 2) := by decide +kernel
theorem dX2_line_45 : decode cX2_line 45 = .ok (.iload_n 3, 1) := by decide +kernel
theorem dX2_line_46 : decode cX2_line 46 = .ok (.putfield 56, 3) := by decide +kernel
theorem dX2_line_49 : decode cX2_line 49 = .ok (.aload 6, 2) := by decide +kernel
theorem dX2_line_51 : decode cX2_line 51 = .ok (.iload 4, 2) := by decide +kernel
theorem dX2_line_53 : decode cX2_line 53 = .ok (.putfield 59, 3) := by decide +kernel
theorem dX2_line_56 : decode cX2_line 56 = .ok (.aload 6, 2) := by decide +kernel
theorem dX2_line_58 : decode cX2_line 58 = .ok (.iload 5, 2) := by decide +kernel
theorem dX2_line_60 : decode cX2_line 60 = .ok (.putfield 62, 3) := by decide +kernel
theorem dX2_line_63 : decode cX2_line 63 = .ok (.iconst 1, 1) := by decide +kernel
theorem dX2_line_64 : decode cX2_line 64 = .ok (.ireturn, 1) := by decide +kernel
theorem dX2_span_0 : decode cX2_span 0 = .ok (.aload_n 0, 1) := by decide +kernel
theorem dX2_span_1 : decode cX2_span 1 = .ok (.iload_n 1, 1) := by decide +kernel
theorem dX2_span_2 : decode cX2_span 2 = .ok (.iload_n 2, 1) := by decide +kernel
theorem dX2_span_3 : decode cX2_span 3 = .ok (.invokevirtual 45, 3) := by decide +kernel
theorem dX2_span_6 : decode cX2_span 6 = .ok (.astore 6, 2) := by decide +kernel
theorem dX2_span_8 : decode cX2_span 8 = .ok (.aload 6, 2) := by decide +kernel
theorem dX2_span_10 : decode cX2_span 10 = .ok (.ifnull 31, 3) := by decide +kernel
theorem dX2_span_13 : decode cX2_span 13 = .ok (.iload_n 3, 1) := by decide +kernel
theorem dX2_span_14 : decode cX2_span 14 = .ok (.iconst 4, 1) := by decide +kernel
theorem dX2_span_15 : decode cX2_span 15 = .ok (.invokestatic 49, 3) := by decide +kernel
theorem dX2_span_18 : decode cX2_span 18 = .ok (.ifCond .eq 23, 3) := by decide +kernel
theorem dX2_span_21 : decode cX2_span 21 = .ok (.iload 4, 2) := by decide +kernel
theorem dX2_span_23 : decode cX2_span 23 = .ok (.bipush 9, 2) := by decide +kernel
theorem dX2_span_25 : decode cX2_span 25 = .ok (.invokestatic 53, 3) := by decide +kernel
theorem dX2_span_28 : decode cX2_span 28 = .ok (.ifCond .eq 13, 3) := by decide +kernel
theorem dX2_span_31 : decode cX2_span 31 = .ok (.iload 5, 2) := by decide +kernel
theorem dX2_span_33 : decode cX2_span 33 = .ok (.bipush 9, 2) := by decide +kernel
theorem dX2_span_35 : decode cX2_span 35 = .ok (.invokestatic 53, 3) := by decide +kernel
theorem dX2_span_38 : decode cX2_span 38 = .ok (.ifCond .ne 6, 3) := by decide +kernel
theorem dX2_span_41 : decode cX2_span 41 = .ok (.bipush (-100), 2) := by decide +kernel
theorem dX2_span_43 : decode cX2_span 43 = .ok (.ireturn, 1) := by decide +kernel
theorem dX2_span_44 : decode cX2_span 44 = .ok (.aload 6, 2) := by decide +kernel
theorem dX2_span_46 : decode cX2_span 46 = .ok (.getfield 65, 3) := by decide +kernel
theorem dX2_span_49 : decode cX2_span 49 = .ok (.iload_n 3, 1) := by decide +kernel
theorem dX2_span_50 : decode cX2_span 50 = .ok (.iload 4, 2) := by decide +kernel
theorem dX2_span_52 : decode cX2_span 52 = .ok (.iastore, 1) := by decide +kernel
theorem dX2_span_53 : decode cX2_span 53 = .ok (.aload 6, 2) := by decide +kernel
theorem dX2_span_55 : decode cX2_span 55 = .ok (.getfield 68, 3) := by decide +kernel
theorem dX2_span_58 : decode cX2_span 58 = .ok (.iload_n 3, 1) := by decide +kernel
theorem dX2_span_59 : decode cX2_span 59 = .ok (.iload 5, 2) := by decide +kernel
theorem dX2_span_61 : decode cX2_span 61 = .ok (.iastore, 1) := by decide +kernel
theorem dX2_span_62 : decode cX2_span 62 = .ok (.iconst 1, 1) := by decide +kernel
theorem dX2_span_63 : decode cX2_span 63 = .ok (.ireturn, 1) := by decide +kernel
theorem dX2_about_0 : decode cX2_about 0 = .ok (.aload_n 0, 1) := by decide +kernel
theorem dX2_about_1 : decode cX2_about 1 = .ok (.iload_n 1, 1) := by decide +kernel
theorem dX2_about_2 : decode cX2_about 2 = .ok (.iload_n 2, 1) := by decide +kernel
theorem dX2_about_3 : decode cX2_about 3 = .ok (.invokevirtual 45, 3) := by decide +kernel
theorem dX2_about_6 : decode cX2_about 6 = .ok (.astore 4, 2) := by decide +kernel
theorem dX2_about_8 : decode cX2_about 8 = .ok (.aload 4, 2) := by decide +kernel
theorem dX2_about_10 : decode cX2_about 10 = .ok (.ifnull 12, 3) := by decide +kernel
theorem dX2_about_13 : decode cX2_about 13 = .ok (.iload_n 3, 1) := by decide +kernel
theorem dX2_about_14 : decode cX2_about 14 = .ok (.bipush 11, 2) := by decide +kernel
theorem dX2_about_16 : decode cX2_about 16 = .ok (.invokestatic 49, 3) := by decide +kernel
theorem dX2_about_19 : decode cX2_about 19 = .ok (.ifCond .ne 6, 3) := by decide +kernel
theorem dX2_about_22 : decode cX2_about 22 = .ok (.bipush (-100), 2) := by decide +kernel
theorem dX2_about_24 : decode cX2_about 24 = .ok (.ireturn, 1) := by decide +kernel
theorem dX2_about_25 : decode cX2_about 25 = .ok (.iload_n 3, 1) := by decide +kernel
theorem dX2_about_26 : decode cX2_about 26 = .ok (.iconst 3, 1) := by decide +kernel
theorem dX2_about_27 : decode cX2_about 27 = .ok (.if_icmp .ge 34, 3) := by decide +kernel
theorem dX2_about_30 : decode cX2_about 30 = .ok (.iload_n 3, 1) := by decide +kernel
theorem dX2_about_31 : decode cX2_about 31 = .ok (.ifCond .ne 11, 3) := by decide +kernel
theorem dX2_about_34 : decode cX2_about 34 = .ok (.aload 4, 2) := by decide +kernel
theorem dX2_about_36 : decode cX2_about 36 = .ok (.getfield 56, 3) := by decide +kernel
theorem dX2_about_39 : decode cX2_about 39 = .ok (.goto 21, 3) := by decide +kernel
theorem dX2_about_42 : decode cX2_about 42 = .ok (.iload_n 3, 1) := by decide +kernel
theorem dX2_about_43 : decode cX2_about 43 = .ok (.iconst 1, 1) := by decide +kernel
theorem dX2_about_44 : decode cX2_about 44 = .ok (.if_icmp .ne 11, 3) := by decide +kernel
theorem dX2_about_47 : decode cX2_about 47 = .ok (.aload 4, 2) := by decide +kernel
theorem dX2_about_49 : decode cX2_about 49 = .ok (.getfield 59, 3) := by decide +kernel
theorem dX2_about_52 : decode cX2_about 52 = .ok (.goto 8, 3) := by decide +kernel
theorem dX2_about_55 : decode cX2_about 55 = .ok (.aload 4, 2) := by decide +kernel
theorem dX2_about_57 : decode cX2_about 57 = .ok (.getfield 62, 3) := by decide +kernel
theorem dX2_about_60 : decode cX2_about 60 = .ok (.ireturn, 1) := by decide +kernel
theorem dX2_about_61 : decode cX2_about 61 = .ok (.iload_n 3, 1) := by decide +kernel
theorem dX2_about_62 : decode cX2_about 62 = .ok (.iconst 3, 1) := by decide +kernel
theorem dX2_about_63 : decode cX2_about 63 = .ok (.isub, 1) := by decide +kernel
theorem dX2_about_64 : decode cX2_about 64 = .ok (.iconst 2, 1) := by decide +kernel
theorem dX2_about_65 : decode cX2_about 65 = .ok (.idiv, 1) := by decide +kernel
theorem dX2_about_66 : decode cX2_about 66 = .ok (.istore 5, 2) := by decide +kernel
theorem dX2_about_68 : decode cX2_about 68 = .ok (.iload_n 3, 1) := by decide +kernel
theorem dX2_about_69 : decode cX2_about 69 = .ok (.iconst 3, 1) := by decide +kernel
theorem dX2_about_70 : decode cX2_about 70 = .ok (.isub, 1) := by decide +kernel
theorem dX2_about_71 : decode cX2_about 71 = .ok (.iconst 2, 1) := by decide +kernel
theorem dX2_about_72 : decode cX2_about 72 = .ok (.irem, 1) := by decide +kernel
theorem dX2_about_73 : decode cX2_about 73 = .ok (.ifCond .ne 7, 3) := by decide +kernel
theorem dX2_about_76 : decode cX2_about 76 = .ok (.iconst 1, 1) := by decide +kernel
theorem dX2_about_77 : decode cX2_about 77 = .ok (.goto 4, 3) := by decide +kernel
theorem dX2_about_80 : decode cX2_about 80 = .ok (.iconst 0, 1) := by decide +kernel
theorem dX2_about_81 : decode cX2_about 81 = .ok (.istore 6, 2) := by decide +kernel
theorem dX2_about_83 : decode cX2_about 83 = .ok (.iload 6, 2) := by decide +kernel
theorem dX2_about_85 : decode cX2_about 85 = .ok (.ifCond .eq 14, 3) := by decide +kernel
theorem dX2_about_88 : decode cX2_about 88 = .ok (.aload 4, 2) := by decide +kernel
theorem dX2_about_90 : decode cX2_about 90 = .ok (.getfield 65, 3) := by decide +kernel
theorem dX2_about_93 : decode cX2_about 93 = .ok (.iload 5, 2) := by decide +kernel
theorem dX2_about_95 : decode cX2_about 95 = .ok (.iaload, 1) := by decide +kernel
theorem dX2_about_96 : decode cX2_about 96 = .ok (.goto 11, 3) := by decide +kernel
theorem dX2_about_99 : decode cX2_about 99 = .ok (.aload 4, 2) := by decide +kernel
theorem dX2_about_101 : decode cX2_about 101 = .ok (.getfield 68, 3) := by decide +kernel
theorem dX2_about_104 : decode cX2_about 104 = .ok (.iload 5, 2) := by decide +kernel
theorem dX2_about_106 : decode cX2_about 106 = .ok (.iaload, 1) := by decide +kernel
theorem dX2_about_107 : decode cX2_about 107 = .ok (.ireturn, 1) := by decide +kernel
theorem dX2_level_0 : decode cX2_level 0 = .ok (.aload_n 0, 1) := by decide +kernel
theorem dX2_level_1 : decode cX2_level 1 = .ok (.iload_n 1, 1) := by decide +kernel
theorem dX2_level_2 : decode cX2_level 2 = .ok (.iload_n 2, 1) := by decide +kernel
theorem dX2_level_3 : decode cX2_level 3 = .ok (.invokevirtual 45, 3) := by decide +kernel
theorem dX2_level_6 : decode cX2_level 6 = .ok (.astore 4, 2) := by decide +kernel
theorem dX2_level_8 : decode cX2_level 8 = .ok (.aload 4, 2) := by decide +kernel
theorem dX2_level_10 : decode cX2_level 10 = .ok (.ifnull 12, 3) := by decide +kernel
theorem dX2_level_13 : decode cX2_level 13 = .ok (.iload_n 3, 1) := by decide +kernel
theorem dX2_level_14 : decode cX2_level 14 = .ok (.bipush 9, 2) := by decide +kernel
theorem dX2_level_16 : decode cX2_level 16 = .ok (.invokestatic 53, 3) := by decide +kernel
theorem dX2_level_19 : decode cX2_level 19 = .ok (.ifCond .ne 6, 3) := by decide +kernel
theorem dX2_level_22 : decode cX2_level 22 = .ok (.bipush (-100), 2) := by decide +kernel
theorem dX2_level_24 : decode cX2_level 24 = .ok (.ireturn, 1) := by decide +kernel
theorem dX2_level_25 : decode cX2_level 25 = .ok (.aload_n 0, 1) := by decide +kernel
theorem dX2_level_26 : decode cX2_level 26 = .ok (.dup, 1) := by decide +kernel
theorem dX2_level_27 : decode cX2_level 27 = .ok (.getfield 25, 3) := by decide +kernel
theorem dX2_level_30 : decode cX2_level 30 = .ok (.aload 4, 2) := by decide +kernel
theorem dX2_level_32 : decode cX2_level 32 = .ok (.invokevirtual 71, 3) := by decide +kernel
theorem dX2_level_35 : decode cX2_level 35 = .ok (.i2l, 1) := by decide +kernel
theorem dX2_level_36 : decode cX2_level 36 = .ok (.ladd, 1) := by decide +kernel
theorem dX2_level_37 : decode cX2_level 37 = .ok (.putfield 25, 3) := by decide +kernel
theorem dX2_level_40 : decode cX2_level 40 = .ok (.aload 4, 2) := by decide +kernel
theorem dX2_level_42 : decode cX2_level 42 = .ok (.iload_n 3, 1) := by decide +kernel
theorem dX2_level_43 : decode cX2_level 43 = .ok (.invokevirtual 75, 3) := by decide +kernel
theorem dX2_level_46 : decode cX2_level 46 = .ok (.ireturn, 1) := by decide +kernel
theorem dX2_sense_0 : decode cX2_sense 0 = .ok (.aload_n 0, 1) := by decide +kernel
theorem dX2_sense_1 : decode cX2_sense 1 = .ok (.iload_n 1, 1) := by decide +kernel
theorem dX2_sense_2 : decode cX2_sense 2 = .ok (.iload_n 2, 1) := by decide +kernel
theorem dX2_sense_3 : decode cX2_sense 3 = .ok (.invokevirtual 45, 3) := by decide +kernel
theorem dX2_sense_6 : decode cX2_sense 6 = .ok (.astore 4, 2) := by decide +kernel
theorem dX2_sense_8 : decode cX2_sense 8 = .ok (.aload 4, 2) := by decide +kernel
theorem dX2_sense_10 : decode cX2_sense 10 = .ok (.ifnull 11, 3) := by decide +kernel
theorem dX2_sense_13 : decode cX2_sense 13 = .ok (.iload_n 3, 1) := by decide +kernel
theorem dX2_sense_14 : decode cX2_sense 14 = .ok (.iconst 2, 1) := by decide +kernel
theorem dX2_sense_15 : decode cX2_sense 15 = .ok (.invokestatic 49, 3) := by decide +kernel
theorem dX2_sense_18 : decode cX2_sense 18 = .ok (.ifCond .ne 6, 3) := by decide +kernel
theorem dX2_sense_21 : decode cX2_sense 21 = .ok (.bipush (-100), 2) := by decide +kernel
theorem dX2_sense_23 : decode cX2_sense 23 = .ok (.ireturn, 1) := by decide +kernel
theorem dX2_sense_24 : decode cX2_sense 24 = .ok (.iload_n 3, 1) := by decide +kernel
theorem dX2_sense_25 : decode cX2_sense 25 = .ok (.ifCond .ne 11, 3) := by decide +kernel
theorem dX2_sense_28 : decode cX2_sense 28 = .ok (.aload 4, 2) := by decide +kernel
theorem dX2_sense_30 : decode cX2_sense 30 = .ok (.invokevirtual 79, 3) := by decide +kernel
theorem dX2_sense_33 : decode cX2_sense 33 = .ok (.goto 8, 3) := by decide +kernel
theorem dX2_sense_36 : decode cX2_sense 36 = .ok (.aload 4, 2) := by decide +kernel
theorem dX2_sense_38 : decode cX2_sense 38 = .ok (.invokevirtual 82, 3) := by decide +kernel
theorem dX2_sense_41 : decode cX2_sense 41 = .ok (.ireturn, 1) := by decide +kernel
theorem dX2_sensible_0 : decode cX2_sensible 0 = .ok (.aload_n 0, 1) := by decide +kernel
theorem dX2_sensible_1 : decode cX2_sensible 1 = .ok (.iload_n 1, 1) := by decide +kernel
theorem dX2_sensible_2 : decode cX2_sensible 2 = .ok (.iload_n 2, 1) := by decide +kernel
theorem dX2_sensible_3 : decode cX2_sensible 3 = .ok (.invokevirtual 45, 3) := by decide +kernel
theorem dX2_sensible_6 : decode cX2_sensible 6 = .ok (.astore_n 3, 1) := by decide +kernel
theorem dX2_sensible_7 : decode cX2_sensible 7 = .ok (.aload_n 3, 1) := by decide +kernel
theorem dX2_sensible_8 : decode cX2_sensible 8 = .ok (.ifnonnull 6, 3) := by decide +kernel
theorem dX2_sensible_11 : decode cX2_sensible 11 = .ok (.bipush (-100), 2) := by decide +kernel
theorem dX2_sensible_13 : decode cX2_sensible 13 = .ok (.ireturn, 1) := by decide +kernel
theorem dX2_sensible_14 : decode cX2_sensible 14 = .ok (.aload_n 3, 1) := by decide +kernel
theorem dX2_sensible_15 : decode cX2_sensible 15 = .ok (.invokevirtual 85, 3) := by decide +kernel
theorem dX2_sensible_18 : decode cX2_sensible 18 = .ok (.ifCond .eq 7, 3) := by decide +kernel
theorem dX2_sensible_21 : decode cX2_sensible 21 = .ok (.iconst 1, 1) := by decide +kernel
theorem dX2_sensible_22 : decode cX2_sensible 22 = .ok (.goto 4, 3) := by decide +kernel
theorem dX2_sensible_25 : decode cX2_sensible 25 = .ok (.iconst 0, 1) := by decide +kernel
theorem dX2_sensible_26 : decode cX2_sensible 26 = .ok (.ireturn, 1) := by decide +kernel
theorem dX2_work_0 : decode cX2_work 0 = .ok (.iload_n 1, 1) := by decide +kernel
theorem dX2_work_1 : decode cX2_work 1 = .ok (.bipush 9, 2) := by decide +kernel
theorem dX2_work_3 : decode cX2_work 3 = .ok (.invokestatic 53, 3) := by decide +kernel
theorem dX2_work_6 : decode cX2_work 6 = .ok (.ifCond .eq 31, 3) := by decide +kernel
theorem dX2_work_9 : decode cX2_work 9 = .ok (.iload_n 2, 1) := by decide +kernel
theorem dX2_work_10 : decode cX2_work 10 = .ok (.bipush 9, 2) := by decide +kernel
theorem dX2_work_12 : decode cX2_work 12 = .ok (.invokestatic 53, 3) := by decide +kernel
theorem dX2_work_15 : decode cX2_work 15 = .ok (.ifCond .eq 22, 3) := by decide +kernel
theorem dX2_work_18 : decode cX2_work 18 = .ok (.iload_n 3, 1) := by decide +kernel
theorem dX2_work_19 : decode cX2_work 19 = .ok (.bipush 9, 2) := by decide +kernel
theorem dX2_work_21 : decode cX2_work 21 = .ok (.invokestatic 53, 3) := by decide +kernel
theorem dX2_work_24 : decode cX2_work 24 = .ok (.ifCond .eq 13, 3) := by decide +kernel
theorem dX2_work_27 : decode cX2_work 27 = .ok (.iload 4, 2) := by decide +kernel
theorem dX2_work_29 : decode cX2_work 29 = .ok (.bipush 9, 2) := by decide +kernel
theorem dX2_work_31 : decode cX2_work 31 = .ok (.invokestatic 53, 3) := by decide +kernel
theorem dX2_work_34 : decode cX2_work 34 = .ok (.ifCond .ne 6, 3) := by decide +kernel
theorem dX2_work_37 : decode cX2_work 37 = .ok (.bipush (-100), 2) := by decide +kernel
theorem dX2_work_39 : decode cX2_work 39 = .ok (.ireturn, 1) := by decide +kernel
theorem dX2_work_40 : decode cX2_work 40 = .ok (.aload_n 0, 1) := by decide +kernel
theorem dX2_work_41 : decode cX2_work 41 = .ok (.getfield 21, 3) := by decide +kernel
theorem dX2_work_44 : decode cX2_work 44 = .ok (.bipush 12, 2) := by decide +kernel
theorem dX2_work_46 : decode cX2_work 46 = .ok (.if_icmp .lt 7, 3) := by decide +kernel
theorem dX2_work_49 : decode cX2_work 49 = .ok (.sipush (-300), 3) := by decide +kernel
theorem dX2_work_52 : decode cX2_work 52 = .ok (.ireturn, 1) := by decide +kernel
theorem dX2_work_53 : decode cX2_work 53 = .ok (.aload_n 0, 1) := by decide +kernel
theorem dX2_work_54 : decode cX2_work 54 = .ok (.getfield 17, 3) := by decide +kernel
theorem dX2_work_57 : decode cX2_work 57 = .ok (.aload_n 0, 1) := by decide +kernel
theorem dX2_work_58 : decode cX2_work 58 = .ok (.getfield 21, 3) := by decide +kernel
theorem dX2_work_61 : decode cX2_work 61 = .ok (.new 15, 3) := by decide +kernel
theorem dX2_work_64 : decode cX2_work 64 = .ok (.dup, 1) := by decide +kernel
theorem dX2_work_65 : decode cX2_work 65 = .ok (.iload_n 1, 1) := by decide +kernel
theorem dX2_work_66 : decode cX2_work 66 = .ok (.iload_n 2, 1) := by decide +kernel
theorem dX2_work_67 : decode cX2_work 67 = .ok (.iload_n 3, 1) := by decide +kernel
theorem dX2_work_68 : decode cX2_work 68 = .ok (.iload 4, 2) := by decide +kernel
theorem dX2_work_70 : decode cX2_work 70 = .ok (.invokespecial 89, 3) := by decide +kernel
theorem dX2_work_73 : decode cX2_work 73 = .ok (.aastore, 1) := by decide +kernel
theorem dX2_work_74 : decode cX2_work 74 = .ok (.aload_n 0, 1) := by decide +kernel
theorem dX2_work_75 : decode cX2_work 75 = .ok (.dup, 1) := by decide +kernel
theorem dX2_work_76 : decode cX2_work 76 = .ok (.getfield 21, 3) := by decide +kernel
theorem dX2_work_79 : decode cX2_work 79 = .ok (.iconst 1, 1) := by decide +kernel
theorem dX2_work_80 : decode cX2_work 80 = .ok (.iadd, 1) := by decide +kernel
theorem dX2_work_81 : decode cX2_work 81 = .ok (.putfield 21, 3) := by decide +kernel
theorem dX2_work_84 : decode cX2_work 84 = .ok (.aload_n 0, 1) := by decide +kernel
theorem dX2_work_85 : decode cX2_work 85 = .ok (.getfield 21, 3) := by decide +kernel
theorem dX2_work_88 : decode cX2_work 88 = .ok (.iconst 1, 1) := by decide +kernel
theorem dX2_work_89 : decode cX2_work 89 = .ok (.isub, 1) := by decide +kernel
theorem dX2_work_90 : decode cX2_work 90 = .ok (.ireturn, 1) := by decide +kernel
theorem dX2_fact_0 : decode cX2_fact 0 = .ok (.aload_n 0, 1) := by decide +kernel
theorem dX2_fact_1 : decode cX2_fact 1 = .ok (.iload_n 1, 1) := by decide +kernel
theorem dX2_fact_2 : decode cX2_fact 2 = .ok (.invokevirtual 92, 3) := by decide +kernel
theorem dX2_fact_5 : decode cX2_fact 5 = .ok (.astore 4, 2) := by decide +kernel
theorem dX2_fact_7 : decode cX2_fact 7 = .ok (.aload 4, 2) := by decide +kernel
theorem dX2_fact_9 : decode cX2_fact 9 = .ok (.ifnull 20, 3) := by decide +kernel
theorem dX2_fact_12 : decode cX2_fact 12 = .ok (.iload_n 2, 1) := by decide +kernel
theorem dX2_fact_13 : decode cX2_fact 13 = .ok (.iconst 4, 1) := by decide +kernel
theorem dX2_fact_14 : decode cX2_fact 14 = .ok (.invokestatic 49, 3) := by decide +kernel
theorem dX2_fact_17 : decode cX2_fact 17 = .ok (.ifCond .eq 12, 3) := by decide +kernel
theorem dX2_fact_20 : decode cX2_fact 20 = .ok (.iload_n 3, 1) := by decide +kernel
theorem dX2_fact_21 : decode cX2_fact 21 = .ok (.bipush 9, 2) := by decide +kernel
theorem dX2_fact_23 : decode cX2_fact 23 = .ok (.invokestatic 53, 3) := by decide +kernel
theorem dX2_fact_26 : decode cX2_fact 26 = .ok (.ifCond .ne 6, 3) := by decide +kernel
theorem dX2_fact_29 : decode cX2_fact 29 = .ok (.bipush (-100), 2) := by decide +kernel
theorem dX2_fact_31 : decode cX2_fact 31 = .ok (.ireturn, 1) := by decide +kernel
theorem dX2_fact_32 : decode cX2_fact 32 = .ok (.aload 4, 2) := by decide +kernel
theorem dX2_fact_34 : decode cX2_fact 34 = .ok (.getfield 96, 3) := by decide +kernel
theorem dX2_fact_37 : decode cX2_fact 37 = .ok (.iload_n 2, 1) := by decide +kernel
theorem dX2_fact_38 : decode cX2_fact 38 = .ok (.iaload, 1) := by decide +kernel
theorem dX2_fact_39 : decode cX2_fact 39 = .ok (.istore 5, 2) := by decide +kernel
theorem dX2_fact_41 : decode cX2_fact 41 = .ok (.aload 4, 2) := by decide +kernel
theorem dX2_fact_43 : decode cX2_fact 43 = .ok (.getfield 96, 3) := by decide +kernel
theorem dX2_fact_46 : decode cX2_fact 46 = .ok (.iload_n 2, 1) := by decide +kernel
theorem dX2_fact_47 : decode cX2_fact 47 = .ok (.iload_n 3, 1) := by decide +kernel
theorem dX2_fact_48 : decode cX2_fact 48 = .ok (.iastore, 1) := by decide +kernel
theorem dX2_fact_49 : decode cX2_fact 49 = .ok (.iload 5, 2) := by decide +kernel
theorem dX2_fact_51 : decode cX2_fact 51 = .ok (.ireturn, 1) := by decide +kernel
theorem dX2_points_0 : decode cX2_points 0 = .ok (.aload_n 0, 1) := by decide +kernel
theorem dX2_points_1 : decode cX2_points 1 = .ok (.iload_n 2, 1) := by decide +kernel
theorem dX2_points_2 : decode cX2_points 2 = .ok (.invokevirtual 92, 3) := by decide +kernel
theorem dX2_points_5 : decode cX2_points 5 = .ok (.astore_n 3, 1) := by decide +kernel
theorem dX2_points_6 : decode cX2_points 6 = .ok (.aload_n 3, 1) := by decide +kernel
theorem dX2_points_7 : decode cX2_points 7 = .ok (.ifnull 11, 3) := by decide +kernel
theorem dX2_points_10 : decode cX2_points 10 = .ok (.iload_n 1, 1) := by decide +kernel
theorem dX2_points_11 : decode cX2_points 11 = .ok (.iconst 2, 1) := by decide +kernel
theorem dX2_points_12 : decode cX2_points 12 = .ok (.invokestatic 49, 3) := by decide +kernel
theorem dX2_points_15 : decode cX2_points 15 = .ok (.ifCond .ne 6, 3) := by decide +kernel
theorem dX2_points_18 : decode cX2_points 18 = .ok (.bipush (-100), 2) := by decide +kernel
theorem dX2_points_20 : decode cX2_points 20 = .ok (.ireturn, 1) := by decide +kernel
theorem dX2_points_21 : decode cX2_points 21 = .ok (.aload_n 0, 1) := by decide +kernel
theorem dX2_points_22 : decode cX2_points 22 = .ok (.iload_n 1, 1) := by decide +kernel
theorem dX2_points_23 : decode cX2_points 23 = .ok (.aload_n 3, 1) := by decide +kernel
theorem dX2_points_24 : decode cX2_points 24 = .ok (.invokevirtual 99, 3) := by decide +kernel
theorem dX2_points_27 : decode cX2_points 27 = .ok (.ireturn, 1) := by decide +kernel
theorem dX2_mark_0 : decode cX2_mark 0 = .ok (.aload_n 0, 1) := by decide +kernel
theorem dX2_mark_1 : decode cX2_mark 1 = .ok (.iload_n 2, 1) := by decide +kernel
theorem dX2_mark_2 : decode cX2_mark 2 = .ok (.invokevirtual 92, 3) := by decide +kernel
theorem dX2_mark_5 : decode cX2_mark 5 = .ok (.astore 4, 2) := by decide +kernel
theorem dX2_mark_7 : decode cX2_mark 7 = .ok (.aload 4, 2) := by decide +kernel
theorem dX2_mark_9 : decode cX2_mark 9 = .ok (.ifnull 18, 3) := by decide +kernel
theorem dX2_mark_12 : decode cX2_mark 12 = .ok (.iload_n 1, 1) := by decide +kernel
theorem dX2_mark_13 : decode cX2_mark 13 = .ok (.iconst 3, 1) := by decide +kernel
theorem dX2_mark_14 : decode cX2_mark 14 = .ok (.invokestatic 49, 3) := by decide +kernel
theorem dX2_mark_17 : decode cX2_mark 17 = .ok (.ifCond .eq 10, 3) := by decide +kernel
theorem dX2_mark_20 : decode cX2_mark 20 = .ok (.iload_n 3, 1) := by decide +kernel
theorem dX2_mark_21 : decode cX2_mark 21 = .ok (.invokestatic 103, 3) := by decide +kernel
theorem dX2_mark_24 : decode cX2_mark 24 = .ok (.ifCond .ne 6, 3) := by decide +kernel
theorem dX2_mark_27 : decode cX2_mark 27 = .ok (.bipush (-100), 2) := by decide +kernel
theorem dX2_mark_29 : decode cX2_mark 29 = .ok (.ireturn, 1) := by decide +kernel
theorem dX2_mark_30 : decode cX2_mark 30 = .ok (.aload 4, 2) := by decide +kernel
theorem dX2_mark_32 : decode cX2_mark 32 = .ok (.getfield 107, 3) := by decide +kernel
theorem dX2_mark_35 : decode cX2_mark 35 = .ok (.iload_n 1, 1) := by decide +kernel
theorem dX2_mark_36 : decode cX2_mark 36 = .ok (.iaload, 1) := by decide +kernel
theorem dX2_mark_37 : decode cX2_mark 37 = .ok (.istore 5, 2) := by decide +kernel
theorem dX2_mark_39 : decode cX2_mark 39 = .ok (.aload 4, 2) := by decide +kernel
theorem dX2_mark_41 : decode cX2_mark 41 = .ok (.getfield 107, 3) := by decide +kernel
theorem dX2_mark_44 : decode cX2_mark 44 = .ok (.iload_n 1, 1) := by decide +kernel
theorem dX2_mark_45 : decode cX2_mark 45 = .ok (.iload_n 3, 1) := by decide +kernel
theorem dX2_mark_46 : decode cX2_mark 46 = .ok (.iastore, 1) := by decide +kernel
theorem dX2_mark_47 : decode cX2_mark 47 = .ok (.iload 5, 2) := by decide +kernel
theorem dX2_mark_49 : decode cX2_mark 49 = .ok (.ireturn, 1) := by decide +kernel
theorem dX2_given_0 : decode cX2_given 0 = .ok (.aload_n 0, 1) := by decide +kernel
theorem dX2_given_1 : decode cX2_given 1 = .ok (.iload_n 2, 1) := by decide +kernel
theorem dX2_given_2 : decode cX2_given 2 = .ok (.invokevirtual 92, 3) := by decide +kernel
theorem dX2_given_5 : decode cX2_given 5 = .ok (.astore_n 3, 1) := by decide +kernel
theorem dX2_given_6 : decode cX2_given 6 = .ok (.aload_n 3, 1) := by decide +kernel
theorem dX2_given_7 : decode cX2_given 7 = .ok (.ifnull 11, 3) := by decide +kernel
theorem dX2_given_10 : decode cX2_given 10 = .ok (.iload_n 1, 1) := by decide +kernel
theorem dX2_given_11 : decode cX2_given 11 = .ok (.iconst 3, 1) := by decide +kernel
theorem dX2_given_12 : decode cX2_given 12 = .ok (.invokestatic 49, 3) := by decide +kernel
theorem dX2_given_15 : decode cX2_given 15 = .ok (.ifCond .ne 6, 3) := by decide +kernel
theorem dX2_given_18 : decode cX2_given 18 = .ok (.bipush (-100), 2) := by decide +kernel
theorem dX2_given_20 : decode cX2_given 20 = .ok (.ireturn, 1) := by decide +kernel
theorem dX2_given_21 : decode cX2_given 21 = .ok (.aload_n 3, 1) := by decide +kernel
theorem dX2_given_22 : decode cX2_given 22 = .ok (.getfield 107, 3) := by decide +kernel
theorem dX2_given_25 : decode cX2_given 25 = .ok (.iload_n 1, 1) := by decide +kernel
theorem dX2_given_26 : decode cX2_given 26 = .ok (.iaload, 1) := by decide +kernel
theorem dX2_given_27 : decode cX2_given 27 = .ok (.ireturn, 1) := by decide +kernel
theorem dX2_like_0 : decode cX2_like 0 = .ok (.iload_n 1, 1) := by decide +kernel
theorem dX2_like_1 : decode cX2_like 1 = .ok (.iload_n 2, 1) := by decide +kernel
theorem dX2_like_2 : decode cX2_like 2 = .ok (.invokestatic 110, 3) := by decide +kernel
theorem dX2_like_5 : decode cX2_like 5 = .ok (.ifCond .eq 11, 3) := by decide +kernel
theorem dX2_like_8 : decode cX2_like 8 = .ok (.iload_n 3, 1) := by decide +kernel
theorem dX2_like_9 : decode cX2_like 9 = .ok (.iconst 3, 1) := by decide +kernel
theorem dX2_like_10 : decode cX2_like 10 = .ok (.invokestatic 49, 3) := by decide +kernel
theorem dX2_like_13 : decode cX2_like 13 = .ok (.ifCond .ne 6, 3) := by decide +kernel
theorem dX2_like_16 : decode cX2_like 16 = .ok (.bipush (-100), 2) := by decide +kernel
theorem dX2_like_18 : decode cX2_like 18 = .ok (.ireturn, 1) := by decide +kernel
theorem dX2_like_19 : decode cX2_like 19 = .ok (.aload_n 0, 1) := by decide +kernel
theorem dX2_like_20 : decode cX2_like 20 = .ok (.iload_n 1, 1) := by decide +kernel
theorem dX2_like_21 : decode cX2_like 21 = .ok (.iload_n 2, 1) := by decide +kernel
theorem dX2_like_22 : decode cX2_like 22 = .ok (.invokevirtual 113, 3) := by decide +kernel
theorem dX2_like_25 : decode cX2_like 25 = .ok (.istore 4, 2) := by decide +kernel
theorem dX2_like_27 : decode cX2_like 27 = .ok (.iload_n 3, 1) := by decide +kernel
theorem dX2_like_28 : decode cX2_like 28 = .ok (.iconst 2, 1) := by decide +kernel
theorem dX2_like_29 : decode cX2_like 29 = .ok (.if_icmp .ne 6, 3) := by decide +kernel
theorem dX2_like_32 : decode cX2_like 32 = .ok (.iload 4, 2) := by decide +kernel
theorem dX2_like_34 : decode cX2_like 34 = .ok (.ireturn, 1) := by decide +kernel
theorem dX2_like_35 : decode cX2_like 35 = .ok (.aload_n 0, 1) := by decide +kernel
theorem dX2_like_36 : decode cX2_like 36 = .ok (.iload_n 1, 1) := by decide +kernel
theorem dX2_like_37 : decode cX2_like 37 = .ok (.iload_n 2, 1) := by decide +kernel
theorem dX2_like_38 : decode cX2_like 38 = .ok (.invokevirtual 117, 3) := by decide +kernel
theorem dX2_like_41 : decode cX2_like 41 = .ok (.istore 5, 2) := by decide +kernel
theorem dX2_like_43 : decode cX2_like 43 = .ok (.aload_n 0, 1) := by decide +kernel
theorem dX2_like_44 : decode cX2_like 44 = .ok (.iload_n 1, 1) := by decide +kernel
theorem dX2_like_45 : decode cX2_like 45 = .ok (.iload_n 2, 1) := by decide +kernel
theorem dX2_like_46 : decode cX2_like 46 = .ok (.invokevirtual 120, 3) := by decide +kernel
theorem dX2_like_49 : decode cX2_like 49 = .ok (.iload 4, 2) := by decide +kernel
theorem dX2_like_51 : decode cX2_like 51 = .ok (.imul, 1) := by decide +kernel
theorem dX2_like_52 : decode cX2_like 52 = .ok (.iload 5, 2) := by decide +kernel
theorem dX2_like_54 : decode cX2_like 54 = .ok (.isub, 1) := by decide +kernel
theorem dX2_like_55 : decode cX2_like 55 = .ok (.iload 4, 2) := by decide +kernel
theorem dX2_like_57 : decode cX2_like 57 = .ok (.iload 4, 2) := by decide +kernel
theorem dX2_like_59 : decode cX2_like 59 = .ok (.imul, 1) := by decide +kernel
theorem dX2_like_60 : decode cX2_like 60 = .ok (.iload 5, 2) := by decide +kernel
theorem dX2_like_62 : decode cX2_like 62 = .ok (.isub, 1) := by decide +kernel
theorem dX2_like_63 : decode cX2_like 63 = .ok (.iload_n 3, 1) := by decide +kernel
theorem dX2_like_64 : decode cX2_like 64 = .ok (.invokestatic 123, 3) := by decide +kernel
theorem dX2_like_67 : decode cX2_like 67 = .ok (.ireturn, 1) := by decide +kernel
theorem dX2_parts_0 : decode cX2_parts 0 = .ok (.iload_n 1, 1) := by decide +kernel
theorem dX2_parts_1 : decode cX2_parts 1 = .ok (.iload_n 2, 1) := by decide +kernel
theorem dX2_parts_2 : decode cX2_parts 2 = .ok (.invokestatic 110, 3) := by decide +kernel
theorem dX2_parts_5 : decode cX2_parts 5 = .ok (.ifCond .ne 6, 3) := by decide +kernel
theorem dX2_parts_8 : decode cX2_parts 8 = .ok (.bipush (-100), 2) := by decide +kernel
theorem dX2_parts_10 : decode cX2_parts 10 = .ok (.ireturn, 1) := by decide +kernel
theorem dX2_parts_11 : decode cX2_parts 11 = .ok (.iconst 0, 1) := by decide +kernel
theorem dX2_parts_12 : decode cX2_parts 12 = .ok (.istore_n 3, 1) := by decide +kernel
theorem dX2_parts_13 : decode cX2_parts 13 = .ok (.sipush (-900), 3) := by decide +kernel
theorem dX2_parts_16 : decode cX2_parts 16 = .ok (.istore 4, 2) := by decide +kernel
theorem dX2_parts_18 : decode cX2_parts 18 = .ok (.iconst 0, 1) := by decide +kernel
theorem dX2_parts_19 : decode cX2_parts 19 = .ok (.istore 5, 2) := by decide +kernel
theorem dX2_parts_21 : decode cX2_parts 21 = .ok (.iload 5, 2) := by decide +kernel
theorem dX2_parts_23 : decode cX2_parts 23 = .ok (.aload_n 0, 1) := by decide +kernel
theorem dX2_parts_24 : decode cX2_parts 24 = .ok (.getfield 21, 3) := by decide +kernel
theorem dX2_parts_27 : decode cX2_parts 27 = .ok (.if_icmp .ge 61, 3) := by decide +kernel
theorem dX2_parts_30 : decode cX2_parts 30 = .ok (.aload_n 0, 1) := by decide +kernel
theorem dX2_parts_31 : decode cX2_parts 31 = .ok (.getfield 17, 3) := by decide +kernel
theorem dX2_parts_34 : decode cX2_parts 34 = .ok (.iload 5, 2) := by decide +kernel
theorem dX2_parts_36 : decode cX2_parts 36 = .ok (.aaload, 1) := by decide +kernel
theorem dX2_parts_37 : decode cX2_parts 37 = .ok (.astore 6, 2) := by decide +kernel
theorem dX2_parts_39 : decode cX2_parts 39 = .ok (.aload 6, 2) := by decide +kernel
theorem dX2_parts_41 : decode cX2_parts 41 = .ok (.iload_n 1, 1) := by decide +kernel
theorem dX2_parts_42 : decode cX2_parts 42 = .ok (.iload_n 2, 1) := by decide +kernel
theorem dX2_parts_43 : decode cX2_parts 43 = .ok (.invokevirtual 127, 3) := by decide +kernel
theorem dX2_parts_46 : decode cX2_parts 46 = .ok (.ifCond .eq 36, 3) := by decide +kernel
theorem dX2_parts_49 : decode cX2_parts 49 = .ok (.aload 6, 2) := by decide +kernel
theorem dX2_parts_51 : decode cX2_parts 51 = .ok (.getfield 107, 3) := by decide +kernel
theorem dX2_parts_54 : decode cX2_parts 54 = .ok (.iload_n 1, 1) := by decide +kernel
theorem dX2_parts_55 : decode cX2_parts 55 = .ok (.iaload, 1) := by decide +kernel
theorem dX2_parts_56 : decode cX2_parts 56 = .ok (.aload 6, 2) := by decide +kernel
theorem dX2_parts_58 : decode cX2_parts 58 = .ok (.getfield 107, 3) := by decide +kernel
theorem dX2_parts_61 : decode cX2_parts 61 = .ok (.iload_n 2, 1) := by decide +kernel
theorem dX2_parts_62 : decode cX2_parts 62 = .ok (.iaload, 1) := by decide +kernel
theorem dX2_parts_63 : decode cX2_parts 63 = .ok (.isub, 1) := by decide +kernel
theorem dX2_parts_64 : decode cX2_parts 64 = .ok (.invokestatic 130, 3) := by decide +kernel
theorem dX2_parts_67 : decode cX2_parts 67 = .ok (.istore 7, 2) := by decide +kernel
theorem dX2_parts_69 : decode cX2_parts 69 = .ok (.iload 7, 2) := by decide +kernel
theorem dX2_parts_71 : decode cX2_parts 71 = .ok (.iload_n 3, 1) := by decide +kernel
theorem dX2_parts_72 : decode cX2_parts 72 = .ok (.if_icmp .le 10, 3) := by decide +kernel
theorem dX2_parts_75 : decode cX2_parts 75 = .ok (.iload 7, 2) := by decide +kernel
theorem dX2_parts_77 : decode cX2_parts 77 = .ok (.istore_n 3, 1) := by decide +kernel
theorem dX2_parts_78 : decode cX2_parts 78 = .ok (.iload 5, 2) := by decide +kernel
theorem dX2_parts_80 : decode cX2_parts 80 = .ok (.istore 4, 2) := by decide +kernel
theorem dX2_parts_82 : decode cX2_parts 82 = .ok (.iinc 5 1, 3) := by decide +kernel
theorem dX2_parts_85 : decode cX2_parts 85 = .ok (.goto (-64), 3) := by decide +kernel
theorem dX2_parts_88 : decode cX2_parts 88 = .ok (.iload 4, 2) := by decide +kernel
theorem dX2_parts_90 : decode cX2_parts 90 = .ok (.ireturn, 1) := by decide +kernel
theorem dX2_anchor_0 : decode cX2_anchor 0 = .ok (.aload_n 0, 1) := by decide +kernel
theorem dX2_anchor_1 : decode cX2_anchor 1 = .ok (.iload_n 1, 1) := by decide +kernel
theorem dX2_anchor_2 : decode cX2_anchor 2 = .ok (.invokevirtual 92, 3) := by decide +kernel
theorem dX2_anchor_5 : decode cX2_anchor 5 = .ok (.astore_n 3, 1) := by decide +kernel
theorem dX2_anchor_6 : decode cX2_anchor 6 = .ok (.aload_n 3, 1) := by decide +kernel
theorem dX2_anchor_7 : decode cX2_anchor 7 = .ok (.ifnull 10, 3) := by decide +kernel
theorem dX2_anchor_10 : decode cX2_anchor 10 = .ok (.iload_n 2, 1) := by decide +kernel
theorem dX2_anchor_11 : decode cX2_anchor 11 = .ok (.invokestatic 103, 3) := by decide +kernel
theorem dX2_anchor_14 : decode cX2_anchor 14 = .ok (.ifCond .ne 6, 3) := by decide +kernel
theorem dX2_anchor_17 : decode cX2_anchor 17 = .ok (.bipush (-100), 2) := by decide +kernel
theorem dX2_anchor_19 : decode cX2_anchor 19 = .ok (.ireturn, 1) := by decide +kernel
theorem dX2_anchor_20 : decode cX2_anchor 20 = .ok (.aload_n 3, 1) := by decide +kernel
theorem dX2_anchor_21 : decode cX2_anchor 21 = .ok (.getfield 135, 3) := by decide +kernel
theorem dX2_anchor_24 : decode cX2_anchor 24 = .ok (.istore 4, 2) := by decide +kernel
theorem dX2_anchor_26 : decode cX2_anchor 26 = .ok (.aload_n 3, 1) := by decide +kernel
theorem dX2_anchor_27 : decode cX2_anchor 27 = .ok (.iload_n 2, 1) := by decide +kernel
theorem dX2_anchor_28 : decode cX2_anchor 28 = .ok (.putfield 135, 3) := by decide +kernel
theorem dX2_anchor_31 : decode cX2_anchor 31 = .ok (.iload 4, 2) := by decide +kernel
theorem dX2_anchor_33 : decode cX2_anchor 33 = .ok (.ireturn, 1) := by decide +kernel
theorem dX2_off_0 : decode cX2_off 0 = .ok (.iload_n 1, 1) := by decide +kernel
theorem dX2_off_1 : decode cX2_off 1 = .ok (.iconst 3, 1) := by decide +kernel
theorem dX2_off_2 : decode cX2_off 2 = .ok (.invokestatic 49, 3) := by decide +kernel
theorem dX2_off_5 : decode cX2_off 5 = .ok (.ifCond .eq 11, 3) := by decide +kernel
theorem dX2_off_8 : decode cX2_off 8 = .ok (.iload_n 2, 1) := by decide +kernel
theorem dX2_off_9 : decode cX2_off 9 = .ok (.iconst 3, 1) := by decide +kernel
theorem dX2_off_10 : decode cX2_off 10 = .ok (.invokestatic 49, 3) := by decide +kernel
theorem dX2_off_13 : decode cX2_off 13 = .ok (.ifCond .ne 6, 3) := by decide +kernel
theorem dX2_off_16 : decode cX2_off 16 = .ok (.bipush (-100), 2) := by decide +kernel
theorem dX2_off_18 : decode cX2_off 18 = .ok (.ireturn, 1) := by decide +kernel
theorem dX2_off_19 : decode cX2_off 19 = .ok (.aload_n 0, 1) := by decide +kernel
theorem dX2_off_20 : decode cX2_off 20 = .ok (.iload_n 1, 1) := by decide +kernel
theorem dX2_off_21 : decode cX2_off 21 = .ok (.invokevirtual 138, 3) := by decide +kernel
theorem dX2_off_24 : decode cX2_off 24 = .ok (.istore_n 3, 1) := by decide +kernel
theorem dX2_off_25 : decode cX2_off 25 = .ok (.iload_n 2, 1) := by decide +kernel
theorem dX2_off_26 : decode cX2_off 26 = .ok (.iconst 2, 1) := by decide +kernel
theorem dX2_off_27 : decode cX2_off 27 = .ok (.if_icmp .ne 7, 3) := by decide +kernel
theorem dX2_off_30 : decode cX2_off 30 = .ok (.iload_n 3, 1) := by decide +kernel
theorem dX2_off_31 : decode cX2_off 31 = .ok (.goto 13, 3) := by decide +kernel
theorem dX2_off_34 : decode cX2_off 34 = .ok (.aload_n 0, 1) := by decide +kernel
theorem dX2_off_35 : decode cX2_off 35 = .ok (.iload_n 1, 1) := by decide +kernel
theorem dX2_off_36 : decode cX2_off 36 = .ok (.invokevirtual 141, 3) := by decide +kernel
theorem dX2_off_39 : decode cX2_off 39 = .ok (.iload_n 3, 1) := by decide +kernel
theorem dX2_off_40 : decode cX2_off 40 = .ok (.iload_n 2, 1) := by decide +kernel
theorem dX2_off_41 : decode cX2_off 41 = .ok (.invokestatic 123, 3) := by decide +kernel
theorem dX2_off_44 : decode cX2_off 44 = .ok (.ireturn, 1) := by decide +kernel
theorem dX2_fair_0 : decode cX2_fair 0 = .ok (.aload_n 0, 1) := by decide +kernel
theorem dX2_fair_1 : decode cX2_fair 1 = .ok (.iload_n 2, 1) := by decide +kernel
theorem dX2_fair_2 : decode cX2_fair 2 = .ok (.invokevirtual 92, 3) := by decide +kernel
theorem dX2_fair_5 : decode cX2_fair 5 = .ok (.astore_n 3, 1) := by decide +kernel
theorem dX2_fair_6 : decode cX2_fair 6 = .ok (.aload_n 3, 1) := by decide +kernel
theorem dX2_fair_7 : decode cX2_fair 7 = .ok (.ifnull 11, 3) := by decide +kernel
theorem dX2_fair_10 : decode cX2_fair 10 = .ok (.iload_n 1, 1) := by decide +kernel
theorem dX2_fair_11 : decode cX2_fair 11 = .ok (.iconst 3, 1) := by decide +kernel
theorem dX2_fair_12 : decode cX2_fair 12 = .ok (.invokestatic 49, 3) := by decide +kernel
theorem dX2_fair_15 : decode cX2_fair 15 = .ok (.ifCond .ne 6, 3) := by decide +kernel
theorem dX2_fair_18 : decode cX2_fair 18 = .ok (.bipush (-100), 2) := by decide +kernel
theorem dX2_fair_20 : decode cX2_fair 20 = .ok (.ireturn, 1) := by decide +kernel
theorem dX2_fair_21 : decode cX2_fair 21 = .ok (.aload_n 0, 1) := by decide +kernel
theorem dX2_fair_22 : decode cX2_fair 22 = .ok (.iload_n 1, 1) := by decide +kernel
theorem dX2_fair_23 : decode cX2_fair 23 = .ok (.invokevirtual 138, 3) := by decide +kernel
theorem dX2_fair_26 : decode cX2_fair 26 = .ok (.istore 4, 2) := by decide +kernel
theorem dX2_fair_28 : decode cX2_fair 28 = .ok (.aload_n 3, 1) := by decide +kernel
theorem dX2_fair_29 : decode cX2_fair 29 = .ok (.iload_n 1, 1) := by decide +kernel
theorem dX2_fair_30 : decode cX2_fair 30 = .ok (.invokevirtual 144, 3) := by decide +kernel
theorem dX2_fair_33 : decode cX2_fair 33 = .ok (.ifCond .eq 8, 3) := by decide +kernel
theorem dX2_fair_36 : decode cX2_fair 36 = .ok (.iload 4, 2) := by decide +kernel
theorem dX2_fair_38 : decode cX2_fair 38 = .ok (.ifCond .gt 7, 3) := by decide +kernel
theorem dX2_fair_41 : decode cX2_fair 41 = .ok (.sipush (-200), 3) := by decide +kernel
theorem dX2_fair_44 : decode cX2_fair 44 = .ok (.ireturn, 1) := by decide +kernel
theorem dX2_fair_45 : decode cX2_fair 45 = .ok (.aload_n 3, 1) := by decide +kernel
theorem dX2_fair_46 : decode cX2_fair 46 = .ok (.getfield 107, 3) := by decide +kernel
theorem dX2_fair_49 : decode cX2_fair 49 = .ok (.iload_n 1, 1) := by decide +kernel
theorem dX2_fair_50 : decode cX2_fair 50 = .ok (.iaload, 1) := by decide +kernel
theorem dX2_fair_51 : decode cX2_fair 51 = .ok (.iload 4, 2) := by decide +kernel
theorem dX2_fair_53 : decode cX2_fair 53 = .ok (.imul, 1) := by decide +kernel
theorem dX2_fair_54 : decode cX2_fair 54 = .ok (.aload_n 0, 1) := by decide +kernel
theorem dX2_fair_55 : decode cX2_fair 55 = .ok (.iload_n 1, 1) := by decide +kernel
theorem dX2_fair_56 : decode cX2_fair 56 = .ok (.invokevirtual 141, 3) := by decide +kernel
theorem dX2_fair_59 : decode cX2_fair 59 = .ok (.isub, 1) := by decide +kernel
theorem dX2_fair_60 : decode cX2_fair 60 = .ok (.istore 5, 2) := by decide +kernel
theorem dX2_fair_62 : decode cX2_fair 62 = .ok (.iconst 2, 1) := by decide +kernel
theorem dX2_fair_63 : decode cX2_fair 63 = .ok (.iload 5, 2) := by decide +kernel
theorem dX2_fair_65 : decode cX2_fair 65 = .ok (.imul, 1) := by decide +kernel
theorem dX2_fair_66 : decode cX2_fair 66 = .ok (.iload 4, 2) := by decide +kernel
theorem dX2_fair_68 : decode cX2_fair 68 = .ok (.iadd, 1) := by decide +kernel
theorem dX2_fair_69 : decode cX2_fair 69 = .ok (.iconst 2, 1) := by decide +kernel
theorem dX2_fair_70 : decode cX2_fair 70 = .ok (.iload 4, 2) := by decide +kernel
theorem dX2_fair_72 : decode cX2_fair 72 = .ok (.imul, 1) := by decide +kernel
theorem dX2_fair_73 : decode cX2_fair 73 = .ok (.invokestatic 147, 3) := by decide +kernel
theorem dX2_fair_76 : decode cX2_fair 76 = .ok (.istore 6, 2) := by decide +kernel
theorem dX2_fair_78 : decode cX2_fair 78 = .ok (.iconst 0, 1) := by decide +kernel
theorem dX2_fair_79 : decode cX2_fair 79 = .ok (.iconst 3, 1) := by decide +kernel
theorem dX2_fair_80 : decode cX2_fair 80 = .ok (.iload 6, 2) := by decide +kernel
theorem dX2_fair_82 : decode cX2_fair 82 = .ok (.invokestatic 150, 3) := by decide +kernel
theorem dX2_fair_85 : decode cX2_fair 85 = .ok (.invokestatic 153, 3) := by decide +kernel
theorem dX2_fair_88 : decode cX2_fair 88 = .ok (.ireturn, 1) := by decide +kernel
theorem dX2_drift_0 : decode cX2_drift 0 = .ok (.iload_n 1, 1) := by decide +kernel
theorem dX2_drift_1 : decode cX2_drift 1 = .ok (.iconst 3, 1) := by decide +kernel
theorem dX2_drift_2 : decode cX2_drift 2 = .ok (.invokestatic 49, 3) := by decide +kernel
theorem dX2_drift_5 : decode cX2_drift 5 = .ok (.ifCond .eq 11, 3) := by decide +kernel
theorem dX2_drift_8 : decode cX2_drift 8 = .ok (.iload_n 2, 1) := by decide +kernel
theorem dX2_drift_9 : decode cX2_drift 9 = .ok (.iconst 3, 1) := by decide +kernel
theorem dX2_drift_10 : decode cX2_drift 10 = .ok (.invokestatic 49, 3) := by decide +kernel
theorem dX2_drift_13 : decode cX2_drift 13 = .ok (.ifCond .ne 6, 3) := by decide +kernel
theorem dX2_drift_16 : decode cX2_drift 16 = .ok (.bipush (-100), 2) := by decide +kernel
theorem dX2_drift_18 : decode cX2_drift 18 = .ok (.ireturn, 1) := by decide +kernel
theorem dX2_drift_19 : decode cX2_drift 19 = .ok (.aload_n 0, 1) := by decide +kernel
theorem dX2_drift_20 : decode cX2_drift 20 = .ok (.iload_n 1, 1) := by decide +kernel
theorem dX2_drift_21 : decode cX2_drift 21 = .ok (.invokevirtual 156, 3) := by decide +kernel
theorem dX2_drift_24 : decode cX2_drift 24 = .ok (.istore_n 3, 1) := by decide +kernel
theorem dX2_drift_25 : decode cX2_drift 25 = .ok (.iload_n 2, 1) := by decide +kernel
theorem dX2_drift_26 : decode cX2_drift 26 = .ok (.iconst 2, 1) := by decide +kernel
theorem dX2_drift_27 : decode cX2_drift 27 = .ok (.if_icmp .ne 5, 3) := by decide +kernel
theorem dX2_drift_30 : decode cX2_drift 30 = .ok (.iload_n 3, 1) := by decide +kernel
theorem dX2_drift_31 : decode cX2_drift 31 = .ok (.ireturn, 1) := by decide +kernel
theorem dX2_drift_32 : decode cX2_drift 32 = .ok (.aload_n 0, 1) := by decide +kernel
theorem dX2_drift_33 : decode cX2_drift 33 = .ok (.iload_n 3, 1) := by decide +kernel
theorem dX2_drift_34 : decode cX2_drift 34 = .ok (.invokevirtual 159, 3) := by decide +kernel
theorem dX2_drift_37 : decode cX2_drift 37 = .ok (.istore 4, 2) := by decide +kernel
theorem dX2_drift_39 : decode cX2_drift 39 = .ok (.iload_n 2, 1) := by decide +kernel
theorem dX2_drift_40 : decode cX2_drift 40 = .ok (.ifCond .ne 8, 3) := by decide +kernel
theorem dX2_drift_43 : decode cX2_drift 43 = .ok (.iload 4, 2) := by decide +kernel
theorem dX2_drift_45 : decode cX2_drift 45 = .ok (.goto 10, 3) := by decide +kernel
theorem dX2_drift_48 : decode cX2_drift 48 = .ok (.aload_n 0, 1) := by decide +kernel
theorem dX2_drift_49 : decode cX2_drift 49 = .ok (.iload_n 3, 1) := by decide +kernel
theorem dX2_drift_50 : decode cX2_drift 50 = .ok (.iload 4, 2) := by decide +kernel
theorem dX2_drift_52 : decode cX2_drift 52 = .ok (.invokevirtual 162, 3) := by decide +kernel
theorem dX2_drift_55 : decode cX2_drift 55 = .ok (.ireturn, 1) := by decide +kernel
theorem dX2_moves_0 : decode cX2_moves 0 = .ok (.iload_n 1, 1) := by decide +kernel
theorem dX2_moves_1 : decode cX2_moves 1 = .ok (.iconst 2, 1) := by decide +kernel
theorem dX2_moves_2 : decode cX2_moves 2 = .ok (.invokestatic 49, 3) := by decide +kernel
theorem dX2_moves_5 : decode cX2_moves 5 = .ok (.ifCond .ne 6, 3) := by decide +kernel
theorem dX2_moves_8 : decode cX2_moves 8 = .ok (.bipush (-100), 2) := by decide +kernel
theorem dX2_moves_10 : decode cX2_moves 10 = .ok (.ireturn, 1) := by decide +kernel
theorem dX2_moves_11 : decode cX2_moves 11 = .ok (.iconst 0, 1) := by decide +kernel
theorem dX2_moves_12 : decode cX2_moves 12 = .ok (.istore_n 2, 1) := by decide +kernel
theorem dX2_moves_13 : decode cX2_moves 13 = .ok (.iload_n 2, 1) := by decide +kernel
theorem dX2_moves_14 : decode cX2_moves 14 = .ok (.aload_n 0, 1) := by decide +kernel
theorem dX2_moves_15 : decode cX2_moves 15 = .ok (.getfield 21, 3) := by decide +kernel
theorem dX2_moves_18 : decode cX2_moves 18 = .ok (.if_icmp .ge 43, 3) := by decide +kernel
theorem dX2_moves_21 : decode cX2_moves 21 = .ok (.aload_n 0, 1) := by decide +kernel
theorem dX2_moves_22 : decode cX2_moves 22 = .ok (.getfield 36, 3) := by decide +kernel
theorem dX2_moves_25 : decode cX2_moves 25 = .ok (.iload_n 2, 1) := by decide +kernel
theorem dX2_moves_26 : decode cX2_moves 26 = .ok (.aload_n 0, 1) := by decide +kernel
theorem dX2_moves_27 : decode cX2_moves 27 = .ok (.iconst 0, 1) := by decide +kernel
theorem dX2_moves_28 : decode cX2_moves 28 = .ok (.aload_n 0, 1) := by decide +kernel
theorem dX2_moves_29 : decode cX2_moves 29 = .ok (.getfield 17, 3) := by decide +kernel
theorem dX2_moves_32 : decode cX2_moves 32 = .ok (.iload_n 2, 1) := by decide +kernel
theorem dX2_moves_33 : decode cX2_moves 33 = .ok (.aaload, 1) := by decide +kernel
theorem dX2_moves_34 : decode cX2_moves 34 = .ok (.invokevirtual 99, 3) := by decide +kernel
theorem dX2_moves_37 : decode cX2_moves 37 = .ok (.iastore, 1) := by decide +kernel
theorem dX2_moves_38 : decode cX2_moves 38 = .ok (.aload_n 0, 1) := by decide +kernel
theorem dX2_moves_39 : decode cX2_moves 39 = .ok (.getfield 39, 3) := by decide +kernel
theorem dX2_moves_42 : decode cX2_moves 42 = .ok (.iload_n 2, 1) := by decide +kernel
theorem dX2_moves_43 : decode cX2_moves 43 = .ok (.aload_n 0, 1) := by decide +kernel
theorem dX2_moves_44 : decode cX2_moves 44 = .ok (.iconst 1, 1) := by decide +kernel
theorem dX2_moves_45 : decode cX2_moves 45 = .ok (.aload_n 0, 1) := by decide +kernel
theorem dX2_moves_46 : decode cX2_moves 46 = .ok (.getfield 17, 3) := by decide +kernel
theorem dX2_moves_49 : decode cX2_moves 49 = .ok (.iload_n 2, 1) := by decide +kernel
theorem dX2_moves_50 : decode cX2_moves 50 = .ok (.aaload, 1) := by decide +kernel
theorem dX2_moves_51 : decode cX2_moves 51 = .ok (.invokevirtual 99, 3) := by decide +kernel
theorem dX2_moves_54 : decode cX2_moves 54 = .ok (.iastore, 1) := by decide +kernel
theorem dX2_moves_55 : decode cX2_moves 55 = .ok (.iinc 2 1, 3) := by decide +kernel
theorem dX2_moves_58 : decode cX2_moves 58 = .ok (.goto (-45), 3) := by decide +kernel
theorem dX2_moves_61 : decode cX2_moves 61 = .ok (.iload_n 1, 1) := by decide +kernel
theorem dX2_moves_62 : decode cX2_moves 62 = .ok (.ifCond .ne 10, 3) := by decide +kernel
theorem dX2_moves_65 : decode cX2_moves 65 = .ok (.aload_n 0, 1) := by decide +kernel
theorem dX2_moves_66 : decode cX2_moves 66 = .ok (.invokevirtual 165, 3) := by decide +kernel
theorem dX2_moves_69 : decode cX2_moves 69 = .ok (.goto 7, 3) := by decide +kernel
theorem dX2_moves_72 : decode cX2_moves 72 = .ok (.aload_n 0, 1) := by decide +kernel
theorem dX2_moves_73 : decode cX2_moves 73 = .ok (.invokevirtual 168, 3) := by decide +kernel
theorem dX2_moves_76 : decode cX2_moves 76 = .ok (.ireturn, 1) := by decide +kernel
theorem dX2_copy_0 : decode cX2_copy 0 = .ok (.iload_n 1, 1) := by decide +kernel
theorem dX2_copy_1 : decode cX2_copy 1 = .ok (.iconst 3, 1) := by decide +kernel
theorem dX2_copy_2 : decode cX2_copy 2 = .ok (.invokestatic 49, 3) := by decide +kernel
theorem dX2_copy_5 : decode cX2_copy 5 = .ok (.ifCond .ne 6, 3) := by decide +kernel
theorem dX2_copy_8 : decode cX2_copy 8 = .ok (.bipush (-100), 2) := by decide +kernel
theorem dX2_copy_10 : decode cX2_copy 10 = .ok (.ireturn, 1) := by decide +kernel
theorem dX2_copy_11 : decode cX2_copy 11 = .ok (.iconst 0, 1) := by decide +kernel
theorem dX2_copy_12 : decode cX2_copy 12 = .ok (.istore_n 2, 1) := by decide +kernel
theorem dX2_copy_13 : decode cX2_copy 13 = .ok (.iload_n 2, 1) := by decide +kernel
theorem dX2_copy_14 : decode cX2_copy 14 = .ok (.iconst 4, 1) := by decide +kernel
theorem dX2_copy_15 : decode cX2_copy 15 = .ok (.if_icmp .ge 70, 3) := by decide +kernel
theorem dX2_copy_18 : decode cX2_copy 18 = .ok (.aload_n 0, 1) := by decide +kernel
theorem dX2_copy_19 : decode cX2_copy 19 = .ok (.getfield 11, 3) := by decide +kernel
theorem dX2_copy_22 : decode cX2_copy 22 = .ok (.iload_n 2, 1) := by decide +kernel
theorem dX2_copy_23 : decode cX2_copy 23 = .ok (.aaload, 1) := by decide +kernel
theorem dX2_copy_24 : decode cX2_copy 24 = .ok (.astore_n 3, 1) := by decide +kernel
theorem dX2_copy_25 : decode cX2_copy 25 = .ok (.aload_n 0, 1) := by decide +kernel
theorem dX2_copy_26 : decode cX2_copy 26 = .ok (.getfield 11, 3) := by decide +kernel
theorem dX2_copy_29 : decode cX2_copy 29 = .ok (.iconst 4, 1) := by decide +kernel
theorem dX2_copy_30 : decode cX2_copy 30 = .ok (.iload_n 2, 1) := by decide +kernel
theorem dX2_copy_31 : decode cX2_copy 31 = .ok (.iadd, 1) := by decide +kernel
theorem dX2_copy_32 : decode cX2_copy 32 = .ok (.aaload, 1) := by decide +kernel
theorem dX2_copy_33 : decode cX2_copy 33 = .ok (.astore 4, 2) := by decide +kernel
theorem dX2_copy_35 : decode cX2_copy 35 = .ok (.iload_n 1, 1) := by decide +kernel
theorem dX2_copy_36 : decode cX2_copy 36 = .ok (.ifCond .ne 12, 3) := by decide +kernel
theorem dX2_copy_39 : decode cX2_copy 39 = .ok (.aload 4, 2) := by decide +kernel
theorem dX2_copy_41 : decode cX2_copy 41 = .ok (.aload_n 3, 1) := by decide +kernel
theorem dX2_copy_42 : decode cX2_copy 42 = .ok (.invokevirtual 171, 3) := by decide +kernel
theorem dX2_copy_45 : decode cX2_copy 45 = .ok (.goto 34, 3) := by decide +kernel
theorem dX2_copy_48 : decode cX2_copy 48 = .ok (.iload_n 1, 1) := by decide +kernel
theorem dX2_copy_49 : decode cX2_copy 49 = .ok (.iconst 1, 1) := by decide +kernel
theorem dX2_copy_50 : decode cX2_copy 50 = .ok (.if_icmp .ne 12, 3) := by decide +kernel
theorem dX2_copy_53 : decode cX2_copy 53 = .ok (.aload_n 3, 1) := by decide +kernel
theorem dX2_copy_54 : decode cX2_copy 54 = .ok (.aload 4, 2) := by decide +kernel
theorem dX2_copy_56 : decode cX2_copy 56 = .ok (.invokevirtual 171, 3) := by decide +kernel
theorem dX2_copy_59 : decode cX2_copy 59 = .ok (.goto 20, 3) := by decide +kernel
theorem dX2_copy_62 : decode cX2_copy 62 = .ok (.aload_n 0, 1) := by decide +kernel
theorem dX2_copy_63 : decode cX2_copy 63 = .ok (.getfield 11, 3) := by decide +kernel
theorem dX2_copy_66 : decode cX2_copy 66 = .ok (.iload_n 2, 1) := by decide +kernel
theorem dX2_copy_67 : decode cX2_copy 67 = .ok (.aload 4, 2) := by decide +kernel
theorem dX2_copy_69 : decode cX2_copy 69 = .ok (.aastore, 1) := by decide +kernel
theorem dX2_copy_70 : decode cX2_copy 70 = .ok (.aload_n 0, 1) := by decide +kernel
theorem dX2_copy_71 : decode cX2_copy 71 = .ok (.getfield 11, 3) := by decide +kernel
theorem dX2_copy_74 : decode cX2_copy 74 = .ok (.iconst 4, 1) := by decide +kernel
theorem dX2_copy_75 : decode cX2_copy 75 = .ok (.iload_n 2, 1) := by decide +kernel
theorem dX2_copy_76 : decode cX2_copy 76 = .ok (.iadd, 1) := by decide +kernel
theorem dX2_copy_77 : decode cX2_copy 77 = .ok (.aload_n 3, 1) := by decide +kernel
theorem dX2_copy_78 : decode cX2_copy 78 = .ok (.aastore, 1) := by decide +kernel
theorem dX2_copy_79 : decode cX2_copy 79 = .ok (.iinc 2 1, 3) := by decide +kernel
theorem dX2_copy_82 : decode cX2_copy 82 = .ok (.goto (-69), 3) := by decide +kernel
theorem dX2_copy_85 : decode cX2_copy 85 = .ok (.iconst 1, 1) := by decide +kernel
theorem dX2_copy_86 : decode cX2_copy 86 = .ok (.ireturn, 1) := by decide +kernel
theorem dX2_count_0 : decode cX2_count 0 = .ok (.iload_n 1, 1) := by decide +kernel
theorem dX2_count_1 : decode cX2_count 1 = .ok (.tableswitch 62 0 4 #[35, 40, 45, 50, 56], 35) := by decide +kernel
theorem dX2_count_36 : decode cX2_count 36 = .ok (.aload_n 0, 1) := by decide +kernel
theorem dX2_count_37 : decode cX2_count 37 = .ok (.getfield 21, 3) := by decide +kernel
theorem dX2_count_40 : decode cX2_count 40 = .ok (.ireturn, 1) := by decide +kernel
theorem dX2_count_41 : decode cX2_count 41 = .ok (.aload_n 0, 1) := by decide +kernel
theorem dX2_count_42 : decode cX2_count 42 = .ok (.invokevirtual 175, 3) := by decide +kernel
theorem dX2_count_45 : decode cX2_count 45 = .ok (.ireturn, 1) := by decide +kernel
theorem dX2_count_46 : decode cX2_count 46 = .ok (.aload_n 0, 1) := by decide +kernel
theorem dX2_count_47 : decode cX2_count 47 = .ok (.invokevirtual 178, 3) := by decide +kernel
theorem dX2_count_50 : decode cX2_count 50 = .ok (.ireturn, 1) := by decide +kernel
theorem dX2_count_51 : decode cX2_count 51 = .ok (.aload_n 0, 1) := by decide +kernel
theorem dX2_count_52 : decode cX2_count 52 = .ok (.iconst 0, 1) := by decide +kernel
theorem dX2_count_53 : decode cX2_count 53 = .ok (.invokevirtual 181, 3) := by decide +kernel
theorem dX2_count_56 : decode cX2_count 56 = .ok (.ireturn, 1) := by decide +kernel
theorem dX2_count_57 : decode cX2_count 57 = .ok (.aload_n 0, 1) := by decide +kernel
theorem dX2_count_58 : decode cX2_count 58 = .ok (.iconst 1, 1) := by decide +kernel
theorem dX2_count_59 : decode cX2_count 59 = .ok (.invokevirtual 181, 3) := by decide +kernel
theorem dX2_count_62 : decode cX2_count 62 = .ok (.ireturn, 1) := by decide +kernel
theorem dX2_count_63 : decode cX2_count 63 = .ok (.bipush (-100), 2) := by decide +kernel
theorem dX2_count_65 : decode cX2_count 65 = .ok (.ireturn, 1) := by decide +kernel
theorem dX2_trace_0 : decode cX2_trace 0 = .ok (.aload_n 0, 1) := by decide +kernel
theorem dX2_trace_1 : decode cX2_trace 1 = .ok (.getfield 25, 3) := by decide +kernel
theorem dX2_trace_4 : decode cX2_trace 4 = .ok (.lreturn, 1) := by decide +kernel
theorem dX2_isBelow_0 : decode cX2_isBelow 0 = .ok (.iload_n 0, 1) := by decide +kernel
theorem dX2_isBelow_1 : decode cX2_isBelow 1 = .ok (.ifCond .lt 12, 3) := by decide +kernel
theorem dX2_isBelow_4 : decode cX2_isBelow 4 = .ok (.iload_n 0, 1) := by decide +kernel
theorem dX2_isBelow_5 : decode cX2_isBelow 5 = .ok (.iload_n 1, 1) := by decide +kernel
theorem dX2_isBelow_6 : decode cX2_isBelow 6 = .ok (.if_icmp .ge 7, 3) := by decide +kernel
theorem dX2_isBelow_9 : decode cX2_isBelow 9 = .ok (.iconst 1, 1) := by decide +kernel
theorem dX2_isBelow_10 : decode cX2_isBelow 10 = .ok (.goto 4, 3) := by decide +kernel
theorem dX2_isBelow_13 : decode cX2_isBelow 13 = .ok (.iconst 0, 1) := by decide +kernel
theorem dX2_isBelow_14 : decode cX2_isBelow 14 = .ok (.ireturn, 1) := by decide +kernel
theorem dX2_isUpTo_0 : decode cX2_isUpTo 0 = .ok (.iload_n 0, 1) := by decide +kernel
theorem dX2_isUpTo_1 : decode cX2_isUpTo 1 = .ok (.ifCond .lt 12, 3) := by decide +kernel
theorem dX2_isUpTo_4 : decode cX2_isUpTo 4 = .ok (.iload_n 0, 1) := by decide +kernel
theorem dX2_isUpTo_5 : decode cX2_isUpTo 5 = .ok (.iload_n 1, 1) := by decide +kernel
theorem dX2_isUpTo_6 : decode cX2_isUpTo 6 = .ok (.if_icmp .gt 7, 3) := by decide +kernel
theorem dX2_isUpTo_9 : decode cX2_isUpTo 9 = .ok (.iconst 1, 1) := by decide +kernel
theorem dX2_isUpTo_10 : decode cX2_isUpTo 10 = .ok (.goto 4, 3) := by decide +kernel
theorem dX2_isUpTo_13 : decode cX2_isUpTo 13 = .ok (.iconst 0, 1) := by decide +kernel
theorem dX2_isUpTo_14 : decode cX2_isUpTo 14 = .ok (.ireturn, 1) := by decide +kernel
theorem dX2_isMarkOrNone_0 : decode cX2_isMarkOrNone 0 = .ok (.iload_n 0, 1) := by decide +kernel
theorem dX2_isMarkOrNone_1 : decode cX2_isMarkOrNone 1 = .ok (.sipush (-900), 3) := by decide +kernel
theorem dX2_isMarkOrNone_4 : decode cX2_isMarkOrNone 4 = .ok (.if_icmp .eq 11, 3) := by decide +kernel
