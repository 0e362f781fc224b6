theorem dX3_level_74 : decode cX3_level 74 = .ok (.iload_n 3, 1) := by decide +kernel
theorem dX3_level_75 : decode cX3_level 75 = .ok (.invokevirtual 66, 3) := by decide +kernel
theorem dX3_level_78 : decode cX3_level 78 = .ok (.ireturn, 1) := by decide +kernel
theorem dX3_senseOf_0 : decode cX3_senseOf 0 = .ok (.iconst 0, 1) := by decide +kernel
theorem dX3_senseOf_1 : decode cX3_senseOf 1 = .ok (.istore_n 3, 1) := by decide +kernel
theorem dX3_senseOf_2 : decode cX3_senseOf 2 = .ok (.iconst 0, 1) := by decide +kernel
theorem dX3_senseOf_3 : decode cX3_senseOf 3 = .ok (.istore 4, 2) := by decide +kernel
theorem dX3_senseOf_5 : decode cX3_senseOf 5 = .ok (.iload 4, 2) := by decide +kernel
theorem dX3_senseOf_7 : decode cX3_senseOf 7 = .ok (.bipush 10, 2) := by decide +kernel
theorem dX3_senseOf_9 : decode cX3_senseOf 9 = .ok (.if_icmp .ge 79, 3) := by decide +kernel
theorem dX3_senseOf_12 : decode cX3_senseOf 12 = .ok (.iconst 0, 1) := by decide +kernel
theorem dX3_senseOf_13 : decode cX3_senseOf 13 = .ok (.istore 5, 2) := by decide +kernel
theorem dX3_senseOf_15 : decode cX3_senseOf 15 = .ok (.iconst 0, 1) := by decide +kernel
theorem dX3_senseOf_16 : decode cX3_senseOf 16 = .ok (.istore 6, 2) := by decide +kernel
theorem dX3_senseOf_18 : decode cX3_senseOf 18 = .ok (.iload 6, 2) := by decide +kernel
theorem dX3_senseOf_20 : decode cX3_senseOf 20 = .ok (.iconst 4, 1) := by decide +kernel
theorem dX3_senseOf_21 : decode cX3_senseOf 21 = .ok (.if_icmp .ge 31, 3) := by decide +kernel
theorem dX3_senseOf_24 : decode cX3_senseOf 24 = .ok (.iload 5, 2) := by decide +kernel
theorem dX3_senseOf_26 : decode cX3_senseOf 26 = .ok (.aload_n 0, 1) := by decide +kernel
theorem dX3_senseOf_27 : decode cX3_senseOf 27 = .ok (.iload_n 1, 1) := by decide +kernel
theorem dX3_senseOf_28 : decode cX3_senseOf 28 = .ok (.iload 6, 2) := by decide +kernel
theorem dX3_senseOf_30 : decode cX3_senseOf 30 = .ok (.iload 4, 2) := by decide +kernel
theorem dX3_senseOf_32 : decode cX3_senseOf 32 = .ok (.invokevirtual 48, 3) := by decide +kernel
theorem dX3_senseOf_35 : decode cX3_senseOf 35 = .ok (.ifCond .eq 7, 3) := by decide +kernel
theorem dX3_senseOf_38 : decode cX3_senseOf 38 = .ok (.iconst 1, 1) := by decide +kernel
theorem dX3_senseOf_39 : decode cX3_senseOf 39 = .ok (.goto 4, 3) := by decide +kernel
theorem dX3_senseOf_42 : decode cX3_senseOf 42 = .ok (.iconst 0, 1) := by decide +kernel
theorem dX3_senseOf_43 : decode cX3_senseOf 43 = .ok (.iadd, 1) := by decide +kernel
theorem dX3_senseOf_44 : decode cX3_senseOf 44 = .ok (.istore 5, 2) := by decide +kernel
theorem dX3_senseOf_46 : decode cX3_senseOf 46 = .ok (.iinc 6 1, 3) := by decide +kernel
theorem dX3_senseOf_49 : decode cX3_senseOf 49 = .ok (.goto (-31), 3) := by decide +kernel
theorem dX3_senseOf_52 : decode cX3_senseOf 52 = .ok (.iload_n 3, 1) := by decide +kernel
theorem dX3_senseOf_53 : decode cX3_senseOf 53 = .ok (.iload_n 2, 1) := by decide +kernel
theorem dX3_senseOf_54 : decode cX3_senseOf 54 = .ok (.ifCond .eq 8, 3) := by decide +kernel
theorem dX3_senseOf_57 : decode cX3_senseOf 57 = .ok (.iload 5, 2) := by decide +kernel
theorem dX3_senseOf_59 : decode cX3_senseOf 59 = .ok (.ifCond .eq 13, 3) := by decide +kernel
theorem dX3_senseOf_62 : decode cX3_senseOf 62 = .ok (.iload_n 2, 1) := by decide +kernel
theorem dX3_senseOf_63 : decode cX3_senseOf 63 = .ok (.ifCond .ne 16, 3) := by decide +kernel
theorem dX3_senseOf_66 : decode cX3_senseOf 66 = .ok (.iload 5, 2) := by decide +kernel
theorem dX3_senseOf_68 : decode cX3_senseOf 68 = .ok (.iconst 1, 1) := by decide +kernel
theorem dX3_senseOf_69 : decode cX3_senseOf 69 = .ok (.if_icmp .le 10, 3) := by decide +kernel
theorem dX3_senseOf_72 : decode cX3_senseOf 72 = .ok (.iconst 1, 1) := by decide +kernel
theorem dX3_senseOf_73 : decode cX3_senseOf 73 = .ok (.iload 4, 2) := by decide +kernel
theorem dX3_senseOf_75 : decode cX3_senseOf 75 = .ok (.ishl, 1) := by decide +kernel
theorem dX3_senseOf_76 : decode cX3_senseOf 76 = .ok (.goto 4, 3) := by decide +kernel
theorem dX3_senseOf_79 : decode cX3_senseOf 79 = .ok (.iconst 0, 1) := by decide +kernel
theorem dX3_senseOf_80 : decode cX3_senseOf 80 = .ok (.ior, 1) := by decide +kernel
theorem dX3_senseOf_81 : decode cX3_senseOf 81 = .ok (.istore_n 3, 1) := by decide +kernel
theorem dX3_senseOf_82 : decode cX3_senseOf 82 = .ok (.iinc 4 1, 3) := by decide +kernel
theorem dX3_senseOf_85 : decode cX3_senseOf 85 = .ok (.goto (-80), 3) := by decide +kernel
theorem dX3_senseOf_88 : decode cX3_senseOf 88 = .ok (.iload_n 3, 1) := by decide +kernel
theorem dX3_senseOf_89 : decode cX3_senseOf 89 = .ok (.ireturn, 1) := by decide +kernel
theorem dX3_sense_0 : decode cX3_sense 0 = .ok (.iload_n 1, 1) := by decide +kernel
theorem dX3_sense_1 : decode cX3_sense 1 = .ok (.iload_n 2, 1) := by decide +kernel
theorem dX3_sense_2 : decode cX3_sense 2 = .ok (.invokestatic 44, 3) := by decide +kernel
theorem dX3_sense_5 : decode cX3_sense 5 = .ok (.ifCond .eq 33, 3) := by decide +kernel
theorem dX3_sense_8 : decode cX3_sense 8 = .ok (.iload_n 3, 1) := by decide +kernel
theorem dX3_sense_9 : decode cX3_sense 9 = .ok (.iconst 0, 1) := by decide +kernel
theorem dX3_sense_10 : decode cX3_sense 10 = .ok (.iconst 1, 1) := by decide +kernel
theorem dX3_sense_11 : decode cX3_sense 11 = .ok (.invokestatic 40, 3) := by decide +kernel
theorem dX3_sense_14 : decode cX3_sense 14 = .ok (.ifCond .eq 24, 3) := by decide +kernel
theorem dX3_sense_17 : decode cX3_sense 17 = .ok (.aload_n 0, 1) := by decide +kernel
theorem dX3_sense_18 : decode cX3_sense 18 = .ok (.iconst 4, 1) := by decide +kernel
theorem dX3_sense_19 : decode cX3_sense 19 = .ok (.iload_n 1, 1) := by decide +kernel
theorem dX3_sense_20 : decode cX3_sense 20 = .ok (.imul, 1) := by decide +kernel
theorem dX3_sense_21 : decode cX3_sense 21 = .ok (.iload_n 2, 1) := by decide +kernel
theorem dX3_sense_22 : decode cX3_sense 22 = .ok (.iadd, 1) := by decide +kernel
theorem dX3_sense_23 : decode cX3_sense 23 = .ok (.iload_n 3, 1) := by decide +kernel
theorem dX3_sense_24 : decode cX3_sense 24 = .ok (.ifCond .ne 7, 3) := by decide +kernel
theorem dX3_sense_27 : decode cX3_sense 27 = .ok (.iconst 1, 1) := by decide +kernel
theorem dX3_sense_28 : decode cX3_sense 28 = .ok (.goto 4, 3) := by decide +kernel
theorem dX3_sense_31 : decode cX3_sense 31 = .ok (.iconst 0, 1) := by decide +kernel
theorem dX3_sense_32 : decode cX3_sense 32 = .ok (.invokevirtual 69, 3) := by decide +kernel
theorem dX3_sense_35 : decode cX3_sense 35 = .ok (.goto 5, 3) := by decide +kernel
theorem dX3_sense_38 : decode cX3_sense 38 = .ok (.bipush (-100), 2) := by decide +kernel
theorem dX3_sense_40 : decode cX3_sense 40 = .ok (.ireturn, 1) := by decide +kernel
theorem dX3_isSensible_0 : decode cX3_isSensible 0 = .ok (.aload_n 0, 1) := by decide +kernel
theorem dX3_isSensible_1 : decode cX3_isSensible 1 = .ok (.iload_n 1, 1) := by decide +kernel
theorem dX3_isSensible_2 : decode cX3_isSensible 2 = .ok (.iconst 1, 1) := by decide +kernel
theorem dX3_isSensible_3 : decode cX3_isSensible 3 = .ok (.invokevirtual 69, 3) := by decide +kernel
theorem dX3_isSensible_6 : decode cX3_isSensible 6 = .ok (.ifCond .ne 16, 3) := by decide +kernel
theorem dX3_isSensible_9 : decode cX3_isSensible 9 = .ok (.aload_n 0, 1) := by decide +kernel
theorem dX3_isSensible_10 : decode cX3_isSensible 10 = .ok (.iload_n 1, 1) := by decide +kernel
theorem dX3_isSensible_11 : decode cX3_isSensible 11 = .ok (.iconst 0, 1) := by decide +kernel
theorem dX3_isSensible_12 : decode cX3_isSensible 12 = .ok (.invokevirtual 69, 3) := by decide +kernel
theorem dX3_isSensible_15 : decode cX3_isSensible 15 = .ok (.ifCond .ne 7, 3) := by decide +kernel
theorem dX3_isSensible_18 : decode cX3_isSensible 18 = .ok (.iconst 1, 1) := by decide +kernel
theorem dX3_isSensible_19 : decode cX3_isSensible 19 = .ok (.goto 4, 3) := by decide +kernel
theorem dX3_isSensible_22 : decode cX3_isSensible 22 = .ok (.iconst 0, 1) := by decide +kernel
theorem dX3_isSensible_23 : decode cX3_isSensible 23 = .ok (.istore_n 2, 1) := by decide +kernel
theorem dX3_isSensible_24 : decode cX3_isSensible 24 = .ok (.iconst 1, 1) := by decide +kernel
theorem dX3_isSensible_25 : decode cX3_isSensible 25 = .ok (.istore_n 3, 1) := by decide +kernel
theorem dX3_isSensible_26 : decode cX3_isSensible 26 = .ok (.iload_n 3, 1) := by decide +kernel
theorem dX3_isSensible_27 : decode cX3_isSensible 27 = .ok (.bipush 10, 2) := by decide +kernel
theorem dX3_isSensible_29 : decode cX3_isSensible 29 = .ok (.if_icmp .ge 36, 3) := by decide +kernel
theorem dX3_isSensible_32 : decode cX3_isSensible 32 = .ok (.iload_n 2, 1) := by decide +kernel
theorem dX3_isSensible_33 : decode cX3_isSensible 33 = .ok (.ifCond .eq 32, 3) := by decide +kernel
theorem dX3_isSensible_36 : decode cX3_isSensible 36 = .ok (.aload_n 0, 1) := by decide +kernel
theorem dX3_isSensible_37 : decode cX3_isSensible 37 = .ok (.iload_n 1, 1) := by decide +kernel
theorem dX3_isSensible_38 : decode cX3_isSensible 38 = .ok (.iload_n 3, 1) := by decide +kernel
theorem dX3_isSensible_39 : decode cX3_isSensible 39 = .ok (.invokevirtual 66, 3) := by decide +kernel
theorem dX3_isSensible_42 : decode cX3_isSensible 42 = .ok (.aload_n 0, 1) := by decide +kernel
theorem dX3_isSensible_43 : decode cX3_isSensible 43 = .ok (.iload_n 1, 1) := by decide +kernel
theorem dX3_isSensible_44 : decode cX3_isSensible 44 = .ok (.iload_n 3, 1) := by decide +kernel
theorem dX3_isSensible_45 : decode cX3_isSensible 45 = .ok (.iconst 1, 1) := by decide +kernel
theorem dX3_isSensible_46 : decode cX3_isSensible 46 = .ok (.isub, 1) := by decide +kernel
theorem dX3_isSensible_47 : decode cX3_isSensible 47 = .ok (.invokevirtual 66, 3) := by decide +kernel
theorem dX3_isSensible_50 : decode cX3_isSensible 50 = .ok (.if_icmp .lt 7, 3) := by decide +kernel
theorem dX3_isSensible_53 : decode cX3_isSensible 53 = .ok (.iconst 1, 1) := by decide +kernel
theorem dX3_isSensible_54 : decode cX3_isSensible 54 = .ok (.goto 4, 3) := by decide +kernel
theorem dX3_isSensible_57 : decode cX3_isSensible 57 = .ok (.iconst 0, 1) := by decide +kernel
theorem dX3_isSensible_58 : decode cX3_isSensible 58 = .ok (.istore_n 2, 1) := by decide +kernel
theorem dX3_isSensible_59 : decode cX3_isSensible 59 = .ok (.iinc 3 1, 3) := by decide +kernel
theorem dX3_isSensible_62 : decode cX3_isSensible 62 = .ok (.goto (-36), 3) := by decide +kernel
theorem dX3_isSensible_65 : decode cX3_isSensible 65 = .ok (.iload_n 2, 1) := by decide +kernel
theorem dX3_isSensible_66 : decode cX3_isSensible 66 = .ok (.ireturn, 1) := by decide +kernel
theorem dX3_sensible_0 : decode cX3_sensible 0 = .ok (.iload_n 1, 1) := by decide +kernel
theorem dX3_sensible_1 : decode cX3_sensible 1 = .ok (.iload_n 2, 1) := by decide +kernel
theorem dX3_sensible_2 : decode cX3_sensible 2 = .ok (.invokestatic 44, 3) := by decide +kernel
theorem dX3_sensible_5 : decode cX3_sensible 5 = .ok (.ifCond .ne 8, 3) := by decide +kernel
theorem dX3_sensible_8 : decode cX3_sensible 8 = .ok (.bipush (-100), 2) := by decide +kernel
theorem dX3_sensible_10 : decode cX3_sensible 10 = .ok (.goto 20, 3) := by decide +kernel
theorem dX3_sensible_13 : decode cX3_sensible 13 = .ok (.aload_n 0, 1) := by decide +kernel
theorem dX3_sensible_14 : decode cX3_sensible 14 = .ok (.iconst 4, 1) := by decide +kernel
theorem dX3_sensible_15 : decode cX3_sensible 15 = .ok (.iload_n 1, 1) := by decide +kernel
theorem dX3_sensible_16 : decode cX3_sensible 16 = .ok (.imul, 1) := by decide +kernel
theorem dX3_sensible_17 : decode cX3_sensible 17 = .ok (.iload_n 2, 1) := by decide +kernel
theorem dX3_sensible_18 : decode cX3_sensible 18 = .ok (.iadd, 1) := by decide +kernel
theorem dX3_sensible_19 : decode cX3_sensible 19 = .ok (.invokevirtual 73, 3) := by decide +kernel
theorem dX3_sensible_22 : decode cX3_sensible 22 = .ok (.ifCond .eq 7, 3) := by decide +kernel
theorem dX3_sensible_25 : decode cX3_sensible 25 = .ok (.iconst 1, 1) := by decide +kernel
theorem dX3_sensible_26 : decode cX3_sensible 26 = .ok (.goto 4, 3) := by decide +kernel
theorem dX3_sensible_29 : decode cX3_sensible 29 = .ok (.iconst 0, 1) := by decide +kernel
theorem dX3_sensible_30 : decode cX3_sensible 30 = .ok (.ireturn, 1) := by decide +kernel
theorem dX3_isWork_0 : decode cX3_isWork 0 = .ok (.iload_n 1, 1) := by decide +kernel
theorem dX3_isWork_1 : decode cX3_isWork 1 = .ok (.iconst 0, 1) := by decide +kernel
theorem dX3_isWork_2 : decode cX3_isWork 2 = .ok (.aload_n 0, 1) := by decide +kernel
theorem dX3_isWork_3 : decode cX3_isWork 3 = .ok (.getfield 77, 3) := by decide +kernel
theorem dX3_isWork_6 : decode cX3_isWork 6 = .ok (.iconst 1, 1) := by decide +kernel
theorem dX3_isWork_7 : decode cX3_isWork 7 = .ok (.isub, 1) := by decide +kernel
theorem dX3_isWork_8 : decode cX3_isWork 8 = .ok (.invokestatic 40, 3) := by decide +kernel
theorem dX3_isWork_11 : decode cX3_isWork 11 = .ok (.ireturn, 1) := by decide +kernel
theorem dX3_isMarker_0 : decode cX3_isMarker 0 = .ok (.iload_n 0, 1) := by decide +kernel
theorem dX3_isMarker_1 : decode cX3_isMarker 1 = .ok (.iconst 0, 1) := by decide +kernel
theorem dX3_isMarker_2 : decode cX3_isMarker 2 = .ok (.iconst 2, 1) := by decide +kernel
theorem dX3_isMarker_3 : decode cX3_isMarker 3 = .ok (.invokestatic 40, 3) := by decide +kernel
theorem dX3_isMarker_6 : decode cX3_isMarker 6 = .ok (.ireturn, 1) := by decide +kernel
theorem dX3_work_0 : decode cX3_work 0 = .ok (.iload_n 1, 1) := by decide +kernel
theorem dX3_work_1 : decode cX3_work 1 = .ok (.iconst 0, 1) := by decide +kernel
theorem dX3_work_2 : decode cX3_work 2 = .ok (.bipush 9, 2) := by decide +kernel
theorem dX3_work_4 : decode cX3_work 4 = .ok (.invokestatic 40, 3) := by decide +kernel
theorem dX3_work_7 : decode cX3_work 7 = .ok (.ifCond .eq 34, 3) := by decide +kernel
theorem dX3_work_10 : decode cX3_work 10 = .ok (.iload_n 2, 1) := by decide +kernel
theorem dX3_work_11 : decode cX3_work 11 = .ok (.iconst 0, 1) := by decide +kernel
theorem dX3_work_12 : decode cX3_work 12 = .ok (.bipush 9, 2) := by decide +kernel
theorem dX3_work_14 : decode cX3_work 14 = .ok (.invokestatic 40, 3) := by decide +kernel
theorem dX3_work_17 : decode cX3_work 17 = .ok (.ifCond .eq 24, 3) := by decide +kernel
theorem dX3_work_20 : decode cX3_work 20 = .ok (.iload_n 3, 1) := by decide +kernel
theorem dX3_work_21 : decode cX3_work 21 = .ok (.iconst 0, 1) := by decide +kernel
theorem dX3_work_22 : decode cX3_work 22 = .ok (.bipush 9, 2) := by decide +kernel
theorem dX3_work_24 : decode cX3_work 24 = .ok (.invokestatic 40, 3) := by decide +kernel
theorem dX3_work_27 : decode cX3_work 27 = .ok (.ifCond .eq 14, 3) := by decide +kernel
theorem dX3_work_30 : decode cX3_work 30 = .ok (.iload 4, 2) := by decide +kernel
theorem dX3_work_32 : decode cX3_work 32 = .ok (.iconst 0, 1) := by decide +kernel
theorem dX3_work_33 : decode cX3_work 33 = .ok (.bipush 9, 2) := by decide +kernel
theorem dX3_work_35 : decode cX3_work 35 = .ok (.invokestatic 40, 3) := by decide +kernel
theorem dX3_work_38 : decode cX3_work 38 = .ok (.ifCond .ne 6, 3) := by decide +kernel
theorem dX3_work_41 : decode cX3_work 41 = .ok (.bipush (-100), 2) := by decide +kernel
theorem dX3_work_43 : decode cX3_work 43 = .ok (.ireturn, 1) := by decide +kernel
theorem dX3_work_44 : decode cX3_work 44 = .ok (.aload_n 0, 1) := by decide +kernel
theorem dX3_work_45 : decode cX3_work 45 = .ok (.getfield 77, 3) := by decide +kernel
theorem dX3_work_48 : decode cX3_work 48 = .ok (.bipush 12, 2) := by decide +kernel
theorem dX3_work_50 : decode cX3_work 50 = .ok (.if_icmp .ne 7, 3) := by decide +kernel
theorem dX3_work_53 : decode cX3_work 53 = .ok (.sipush (-300), 3) := by decide +kernel
theorem dX3_work_56 : decode cX3_work 56 = .ok (.ireturn, 1) := by decide +kernel
theorem dX3_work_57 : decode cX3_work 57 = .ok (.aload_n 0, 1) := by decide +kernel
theorem dX3_work_58 : decode cX3_work 58 = .ok (.getfield 25, 3) := by decide +kernel
theorem dX3_work_61 : decode cX3_work 61 = .ok (.iconst 4, 1) := by decide +kernel
theorem dX3_work_62 : decode cX3_work 62 = .ok (.aload_n 0, 1) := by decide +kernel
theorem dX3_work_63 : decode cX3_work 63 = .ok (.getfield 77, 3) := by decide +kernel
theorem dX3_work_66 : decode cX3_work 66 = .ok (.imul, 1) := by decide +kernel
theorem dX3_work_67 : decode cX3_work 67 = .ok (.iload_n 1, 1) := by decide +kernel
theorem dX3_work_68 : decode cX3_work 68 = .ok (.iastore, 1) := by decide +kernel
theorem dX3_work_69 : decode cX3_work 69 = .ok (.aload_n 0, 1) := by decide +kernel
theorem dX3_work_70 : decode cX3_work 70 = .ok (.getfield 25, 3) := by decide +kernel
theorem dX3_work_73 : decode cX3_work 73 = .ok (.iconst 4, 1) := by decide +kernel
theorem dX3_work_74 : decode cX3_work 74 = .ok (.aload_n 0, 1) := by decide +kernel
theorem dX3_work_75 : decode cX3_work 75 = .ok (.getfield 77, 3) := by decide +kernel
theorem dX3_work_78 : decode cX3_work 78 = .ok (.imul, 1) := by decide +kernel
theorem dX3_work_79 : decode cX3_work 79 = .ok (.iconst 1, 1) := by decide +kernel
theorem dX3_work_80 : decode cX3_work 80 = .ok (.iadd, 1) := by decide +kernel
theorem dX3_work_81 : decode cX3_work 81 = .ok (.iload_n 2, 1) := by decide +kernel
theorem dX3_work_82 : decode cX3_work 82 = .ok (.iastore, 1) := by decide +kernel
theorem dX3_work_83 : decode cX3_work 83 = .ok (.aload_n 0, 1) := by decide +kernel
theorem dX3_work_84 : decode cX3_work 84 = .ok (.getfield 25, 3) := by decide +kernel
theorem dX3_work_87 : decode cX3_work 87 = .ok (.iconst 4, 1) := by decide +kernel
theorem dX3_work_88 : decode cX3_work 88 = .ok (.aload_n 0, 1) := by decide +kernel
theorem dX3_work_89 : decode cX3_work 89 = .ok (.getfield 77, 3) := by decide +kernel
theorem dX3_work_92 : decode cX3_work 92 = .ok (.imul, 1) := by decide +kernel
theorem dX3_work_93 : decode cX3_work 93 = .ok (.iconst 2, 1) := by decide +kernel
theorem dX3_work_94 : decode cX3_work 94 = .ok (.iadd, 1) := by decide +kernel
theorem dX3_work_95 : decode cX3_work 95 = .ok (.iload_n 3, 1) := by decide +kernel
theorem dX3_work_96 : decode cX3_work 96 = .ok (.iastore, 1) := by decide +kernel
theorem dX3_work_97 : decode cX3_work 97 = .ok (.aload_n 0, 1) := by decide +kernel
theorem dX3_work_98 : decode cX3_work 98 = .ok (.getfield 25, 3) := by decide +kernel
theorem dX3_work_101 : decode cX3_work 101 = .ok (.iconst 4, 1) := by decide +kernel
theorem dX3_work_102 : decode cX3_work 102 = .ok (.aload_n 0, 1) := by decide +kernel
theorem dX3_work_103 : decode cX3_work 103 = .ok (.getfield 77, 3) := by decide +kernel
theorem dX3_work_106 : decode cX3_work 106 = .ok (.imul, 1) := by decide +kernel
theorem dX3_work_107 : decode cX3_work 107 = .ok (.iconst 3, 1) := by decide +kernel
theorem dX3_work_108 : decode cX3_work 108 = .ok (.iadd, 1) := by decide +kernel
theorem dX3_work_109 : decode cX3_work 109 = .ok (.iload 4, 2) := by decide +kernel
theorem dX3_work_111 : decode cX3_work 111 = .ok (.iastore, 1) := by decide +kernel
theorem dX3_work_112 : decode cX3_work 112 = .ok (.aload_n 0, 1) := by decide +kernel
theorem dX3_work_113 : decode cX3_work 113 = .ok (.dup, 1) := by decide +kernel
theorem dX3_work_114 : decode cX3_work 114 = .ok (.getfield 77, 3) := by decide +kernel
theorem dX3_work_117 : decode cX3_work 117 = .ok (.iconst 1, 1) := by decide +kernel
theorem dX3_work_118 : decode cX3_work 118 = .ok (.iadd, 1) := by decide +kernel
theorem dX3_work_119 : decode cX3_work 119 = .ok (.putfield 77, 3) := by decide +kernel
theorem dX3_work_122 : decode cX3_work 122 = .ok (.aload_n 0, 1) := by decide +kernel
theorem dX3_work_123 : decode cX3_work 123 = .ok (.getfield 77, 3) := by decide +kernel
theorem dX3_work_126 : decode cX3_work 126 = .ok (.iconst 1, 1) := by decide +kernel
theorem dX3_work_127 : decode cX3_work 127 = .ok (.isub, 1) := by decide +kernel
theorem dX3_work_128 : decode cX3_work 128 = .ok (.ireturn, 1) := by decide +kernel
theorem dX3_fact_0 : decode cX3_fact 0 = .ok (.aload_n 0, 1) := by decide +kernel
theorem dX3_fact_1 : decode cX3_fact 1 = .ok (.iload_n 1, 1) := by decide +kernel
theorem dX3_fact_2 : decode cX3_fact 2 = .ok (.invokevirtual 81, 3) := by decide +kernel
theorem dX3_fact_5 : decode cX3_fact 5 = .ok (.ifCond .eq 22, 3) := by decide +kernel
theorem dX3_fact_8 : decode cX3_fact 8 = .ok (.iload_n 2, 1) := by decide +kernel
theorem dX3_fact_9 : decode cX3_fact 9 = .ok (.iconst 0, 1) := by decide +kernel
theorem dX3_fact_10 : decode cX3_fact 10 = .ok (.iconst 3, 1) := by decide +kernel
theorem dX3_fact_11 : decode cX3_fact 11 = .ok (.invokestatic 40, 3) := by decide +kernel
theorem dX3_fact_14 : decode cX3_fact 14 = .ok (.ifCond .eq 13, 3) := by decide +kernel
theorem dX3_fact_17 : decode cX3_fact 17 = .ok (.iload_n 3, 1) := by decide +kernel
theorem dX3_fact_18 : decode cX3_fact 18 = .ok (.iconst 0, 1) := by decide +kernel
theorem dX3_fact_19 : decode cX3_fact 19 = .ok (.bipush 9, 2) := by decide +kernel
theorem dX3_fact_21 : decode cX3_fact 21 = .ok (.invokestatic 40, 3) := by decide +kernel
theorem dX3_fact_24 : decode cX3_fact 24 = .ok (.ifCond .ne 6, 3) := by decide +kernel
theorem dX3_fact_27 : decode cX3_fact 27 = .ok (.bipush (-100), 2) := by decide +kernel
theorem dX3_fact_29 : decode cX3_fact 29 = .ok (.ireturn, 1) := by decide +kernel
theorem dX3_fact_30 : decode cX3_fact 30 = .ok (.aload_n 0, 1) := by decide +kernel
theorem dX3_fact_31 : decode cX3_fact 31 = .ok (.getfield 25, 3) := by decide +kernel
theorem dX3_fact_34 : decode cX3_fact 34 = .ok (.iconst 4, 1) := by decide +kernel
theorem dX3_fact_35 : decode cX3_fact 35 = .ok (.iload_n 1, 1) := by decide +kernel
theorem dX3_fact_36 : decode cX3_fact 36 = .ok (.imul, 1) := by decide +kernel
theorem dX3_fact_37 : decode cX3_fact 37 = .ok (.iload_n 2, 1) := by decide +kernel
theorem dX3_fact_38 : decode cX3_fact 38 = .ok (.iadd, 1) := by decide +kernel
theorem dX3_fact_39 : decode cX3_fact 39 = .ok (.iaload, 1) := by decide +kernel
theorem dX3_fact_40 : decode cX3_fact 40 = .ok (.istore 4, 2) := by decide +kernel
theorem dX3_fact_42 : decode cX3_fact 42 = .ok (.aload_n 0, 1) := by decide +kernel
theorem dX3_fact_43 : decode cX3_fact 43 = .ok (.getfield 25, 3) := by decide +kernel
theorem dX3_fact_46 : decode cX3_fact 46 = .ok (.iconst 4, 1) := by decide +kernel
theorem dX3_fact_47 : decode cX3_fact 47 = .ok (.iload_n 1, 1) := by decide +kernel
theorem dX3_fact_48 : decode cX3_fact 48 = .ok (.imul, 1) := by decide +kernel
theorem dX3_fact_49 : decode cX3_fact 49 = .ok (.iload_n 2, 1) := by decide +kernel
theorem dX3_fact_50 : decode cX3_fact 50 = .ok (.iadd, 1) := by decide +kernel
theorem dX3_fact_51 : decode cX3_fact 51 = .ok (.iload_n 3, 1) := by decide +kernel
theorem dX3_fact_52 : decode cX3_fact 52 = .ok (.iastore, 1) := by decide +kernel
theorem dX3_fact_53 : decode cX3_fact 53 = .ok (.iload 4, 2) := by decide +kernel
theorem dX3_fact_55 : decode cX3_fact 55 = .ok (.ireturn, 1) := by decide +kernel
theorem dX3_pointsOf_0 : decode cX3_pointsOf 0 = .ok (.iconst 0, 1) := by decide +kernel
theorem dX3_pointsOf_1 : decode cX3_pointsOf 1 = .ok (.istore_n 3, 1) := by decide +kernel
theorem dX3_pointsOf_2 : decode cX3_pointsOf 2 = .ok (.iconst 4, 1) := by decide +kernel
theorem dX3_pointsOf_3 : decode cX3_pointsOf 3 = .ok (.iload_n 1, 1) := by decide +kernel
theorem dX3_pointsOf_4 : decode cX3_pointsOf 4 = .ok (.imul, 1) := by decide +kernel
theorem dX3_pointsOf_5 : decode cX3_pointsOf 5 = .ok (.istore 4, 2) := by decide +kernel
theorem dX3_pointsOf_7 : decode cX3_pointsOf 7 = .ok (.iload 4, 2) := by decide +kernel
theorem dX3_pointsOf_9 : decode cX3_pointsOf 9 = .ok (.iconst 4, 1) := by decide +kernel
theorem dX3_pointsOf_10 : decode cX3_pointsOf 10 = .ok (.iload_n 1, 1) := by decide +kernel
theorem dX3_pointsOf_11 : decode cX3_pointsOf 11 = .ok (.imul, 1) := by decide +kernel
theorem dX3_pointsOf_12 : decode cX3_pointsOf 12 = .ok (.iconst 4, 1) := by decide +kernel
theorem dX3_pointsOf_13 : decode cX3_pointsOf 13 = .ok (.iadd, 1) := by decide +kernel
theorem dX3_pointsOf_14 : decode cX3_pointsOf 14 = .ok (.if_icmp .ge 58, 3) := by decide +kernel
theorem dX3_pointsOf_17 : decode cX3_pointsOf 17 = .ok (.aload_n 0, 1) := by decide +kernel
theorem dX3_pointsOf_18 : decode cX3_pointsOf 18 = .ok (.iload 4, 2) := by decide +kernel
theorem dX3_pointsOf_20 : decode cX3_pointsOf 20 = .ok (.aload_n 0, 1) := by decide +kernel
theorem dX3_pointsOf_21 : decode cX3_pointsOf 21 = .ok (.getfield 25, 3) := by decide +kernel
theorem dX3_pointsOf_24 : decode cX3_pointsOf 24 = .ok (.iconst 4, 1) := by decide +kernel
theorem dX3_pointsOf_25 : decode cX3_pointsOf 25 = .ok (.iload_n 2, 1) := by decide +kernel
theorem dX3_pointsOf_26 : decode cX3_pointsOf 26 = .ok (.imul, 1) := by decide +kernel
theorem dX3_pointsOf_27 : decode cX3_pointsOf 27 = .ok (.aload_n 0, 1) := by decide +kernel
theorem dX3_pointsOf_28 : decode cX3_pointsOf 28 = .ok (.getfield 13, 3) := by decide +kernel
theorem dX3_pointsOf_31 : decode cX3_pointsOf 31 = .ok (.iload 4, 2) := by decide +kernel
theorem dX3_pointsOf_33 : decode cX3_pointsOf 33 = .ok (.iaload, 1) := by decide +kernel
theorem dX3_pointsOf_34 : decode cX3_pointsOf 34 = .ok (.iadd, 1) := by decide +kernel
theorem dX3_pointsOf_35 : decode cX3_pointsOf 35 = .ok (.iaload, 1) := by decide +kernel
theorem dX3_pointsOf_36 : decode cX3_pointsOf 36 = .ok (.invokevirtual 66, 3) := by decide +kernel
theorem dX3_pointsOf_39 : decode cX3_pointsOf 39 = .ok (.istore 5, 2) := by decide +kernel
theorem dX3_pointsOf_41 : decode cX3_pointsOf 41 = .ok (.iload_n 3, 1) := by decide +kernel
theorem dX3_pointsOf_42 : decode cX3_pointsOf 42 = .ok (.iload 5, 2) := by decide +kernel
theorem dX3_pointsOf_44 : decode cX3_pointsOf 44 = .ok (.sipush (-900), 3) := by decide +kernel
theorem dX3_pointsOf_47 : decode cX3_pointsOf 47 = .ok (.if_icmp .ne 7, 3) := by decide +kernel
theorem dX3_pointsOf_50 : decode cX3_pointsOf 50 = .ok (.iconst 0, 1) := by decide +kernel
theorem dX3_pointsOf_51 : decode cX3_pointsOf 51 = .ok (.goto 13, 3) := by decide +kernel
theorem dX3_pointsOf_54 : decode cX3_pointsOf 54 = .ok (.aload_n 0, 1) := by decide +kernel
theorem dX3_pointsOf_55 : decode cX3_pointsOf 55 = .ok (.getfield 16, 3) := by decide +kernel
theorem dX3_pointsOf_58 : decode cX3_pointsOf 58 = .ok (.iload 4, 2) := by decide +kernel
theorem dX3_pointsOf_60 : decode cX3_pointsOf 60 = .ok (.iaload, 1) := by decide +kernel
theorem dX3_pointsOf_61 : decode cX3_pointsOf 61 = .ok (.iload 5, 2) := by decide +kernel
theorem dX3_pointsOf_63 : decode cX3_pointsOf 63 = .ok (.imul, 1) := by decide +kernel
theorem dX3_pointsOf_64 : decode cX3_pointsOf 64 = .ok (.iadd, 1) := by decide +kernel
theorem dX3_pointsOf_65 : decode cX3_pointsOf 65 = .ok (.istore_n 3, 1) := by decide +kernel
theorem dX3_pointsOf_66 : decode cX3_pointsOf 66 = .ok (.iinc 4 1, 3) := by decide +kernel
theorem dX3_pointsOf_69 : decode cX3_pointsOf 69 = .ok (.goto (-62), 3) := by decide +kernel
theorem dX3_pointsOf_72 : decode cX3_pointsOf 72 = .ok (.iload_n 3, 1) := by decide +kernel
theorem dX3_pointsOf_73 : decode cX3_pointsOf 73 = .ok (.ireturn, 1) := by decide +kernel
theorem dX3_points_0 : decode cX3_points 0 = .ok (.iload_n 1, 1) := by decide +kernel
theorem dX3_points_1 : decode cX3_points 1 = .ok (.iconst 0, 1) := by decide +kernel
theorem dX3_points_2 : decode cX3_points 2 = .ok (.iconst 1, 1) := by decide +kernel
theorem dX3_points_3 : decode cX3_points 3 = .ok (.invokestatic 40, 3) := by decide +kernel
theorem dX3_points_6 : decode cX3_points 6 = .ok (.ifCond .eq 20, 3) := by decide +kernel
theorem dX3_points_9 : decode cX3_points 9 = .ok (.aload_n 0, 1) := by decide +kernel
theorem dX3_points_10 : decode cX3_points 10 = .ok (.iload_n 2, 1) := by decide +kernel
theorem dX3_points_11 : decode cX3_points 11 = .ok (.invokevirtual 81, 3) := by decide +kernel
theorem dX3_points_14 : decode cX3_points 14 = .ok (.ifCond .eq 12, 3) := by decide +kernel
theorem dX3_points_17 : decode cX3_points 17 = .ok (.aload_n 0, 1) := by decide +kernel
theorem dX3_points_18 : decode cX3_points 18 = .ok (.iload_n 1, 1) := by decide +kernel
theorem dX3_points_19 : decode cX3_points 19 = .ok (.iload_n 2, 1) := by decide +kernel
theorem dX3_points_20 : decode cX3_points 20 = .ok (.invokevirtual 84, 3) := by decide +kernel
theorem dX3_points_23 : decode cX3_points 23 = .ok (.goto 5, 3) := by decide +kernel
theorem dX3_points_26 : decode cX3_points 26 = .ok (.bipush (-100), 2) := by decide +kernel
theorem dX3_points_28 : decode cX3_points 28 = .ok (.ireturn, 1) := by decide +kernel
theorem dX3_isMark_0 : decode cX3_isMark 0 = .ok (.iload_n 0, 1) := by decide +kernel
theorem dX3_isMark_1 : decode cX3_isMark 1 = .ok (.sipush (-900), 3) := by decide +kernel
theorem dX3_isMark_4 : decode cX3_isMark 4 = .ok (.if_icmp .eq 12, 3) := by decide +kernel
theorem dX3_isMark_7 : decode cX3_isMark 7 = .ok (.iload_n 0, 1) := by decide +kernel
theorem dX3_isMark_8 : decode cX3_isMark 8 = .ok (.iconst 0, 1) := by decide +kernel
theorem dX3_isMark_9 : decode cX3_isMark 9 = .ok (.iconst 3, 1) := by decide +kernel
theorem dX3_isMark_10 : decode cX3_isMark 10 = .ok (.invokestatic 40, 3) := by decide +kernel
theorem dX3_isMark_13 : decode cX3_isMark 13 = .ok (.ifCond .eq 7, 3) := by decide +kernel
theorem dX3_isMark_16 : decode cX3_isMark 16 = .ok (.iconst 1, 1) := by decide +kernel
theorem dX3_isMark_17 : decode cX3_isMark 17 = .ok (.goto 4, 3) := by decide +kernel
theorem dX3_isMark_20 : decode cX3_isMark 20 = .ok (.iconst 0, 1) := by decide +kernel
theorem dX3_isMark_21 : decode cX3_isMark 21 = .ok (.ireturn, 1) := by decide +kernel
theorem dX3_mark_0 : decode cX3_mark 0 = .ok (.iload_n 1, 1) := by decide +kernel
theorem dX3_mark_1 : decode cX3_mark 1 = .ok (.invokestatic 87, 3) := by decide +kernel
theorem dX3_mark_4 : decode cX3_mark 4 = .ok (.ifCond .eq 18, 3) := by decide +kernel
theorem dX3_mark_7 : decode cX3_mark 7 = .ok (.aload_n 0, 1) := by decide +kernel
theorem dX3_mark_8 : decode cX3_mark 8 = .ok (.iload_n 2, 1) := by decide +kernel
theorem dX3_mark_9 : decode cX3_mark 9 = .ok (.invokevirtual 81, 3) := by decide +kernel
theorem dX3_mark_12 : decode cX3_mark 12 = .ok (.ifCond .eq 10, 3) := by decide +kernel
theorem dX3_mark_15 : decode cX3_mark 15 = .ok (.iload_n 3, 1) := by decide +kernel
theorem dX3_mark_16 : decode cX3_mark 16 = .ok (.invokestatic 90, 3) := by decide +kernel
theorem dX3_mark_19 : decode cX3_mark 19 = .ok (.ifCond .ne 6, 3) := by decide +kernel
theorem dX3_mark_22 : decode cX3_mark 22 = .ok (.bipush (-100), 2) := by decide +kernel
theorem dX3_mark_24 : decode cX3_mark 24 = .ok (.ireturn, 1) := by decide +kernel
theorem dX3_mark_25 : decode cX3_mark 25 = .ok (.aload_n 0, 1) := by decide +kernel
theorem dX3_mark_26 : decode cX3_mark 26 = .ok (.getfield 28, 3) := by decide +kernel
theorem dX3_mark_29 : decode cX3_mark 29 = .ok (.bipush 12, 2) := by decide +kernel
theorem dX3_mark_31 : decode cX3_mark 31 = .ok (.iload_n 1, 1) := by decide +kernel
theorem dX3_mark_32 : decode cX3_mark 32 = .ok (.imul, 1) := by decide +kernel
theorem dX3_mark_33 : decode cX3_mark 33 = .ok (.iload_n 2, 1) := by decide +kernel
theorem dX3_mark_34 : decode cX3_mark 34 = .ok (.iadd, 1) := by decide +kernel
theorem dX3_mark_35 : decode cX3_mark 35 = .ok (.iaload, 1) := by decide +kernel
theorem dX3_mark_36 : decode cX3_mark 36 = .ok (.istore 4, 2) := by decide +kernel
theorem dX3_mark_38 : decode cX3_mark 38 = .ok (.aload_n 0, 1) := by decide +kernel
theorem dX3_mark_39 : decode cX3_mark 39 = .ok (.getfield 28, 3) := by decide +kernel
theorem dX3_mark_42 : decode cX3_mark 42 = .ok (.bipush 12, 2) := by decide +kernel
theorem dX3_mark_44 : decode cX3_mark 44 = .ok (.iload_n 1, 1) := by decide +kernel
theorem dX3_mark_45 : decode cX3_mark 45 = .ok (.imul, 1) := by decide +kernel
theorem dX3_mark_46 : decode cX3_mark 46 = .ok (.iload_n 2, 1) := by decide +kernel
theorem dX3_mark_47 : decode cX3_mark 47 = .ok (.iadd, 1) := by decide +kernel
theorem dX3_mark_48 : decode cX3_mark 48 = .ok (.iload_n 3, 1) := by decide +kernel
theorem dX3_mark_49 : decode cX3_mark 49 = .ok (.iastore, 1) := by decide +kernel
theorem dX3_mark_50 : decode cX3_mark 50 = .ok (.iload 4, 2) := by decide +kernel
theorem dX3_mark_52 : decode cX3_mark 52 = .ok (.ireturn, 1) := by decide +kernel
theorem dX3_given_0 : decode cX3_given 0 = .ok (.iload_n 1, 1) := by decide +kernel
theorem dX3_given_1 : decode cX3_given 1 = .ok (.invokestatic 87, 3) := by decide +kernel
theorem dX3_given_4 : decode cX3_given 4 = .ok (.ifCond .eq 25, 3) := by decide +kernel
theorem dX3_given_7 : decode cX3_given 7 = .ok (.aload_n 0, 1) := by decide +kernel
theorem dX3_given_8 : decode cX3_given 8 = .ok (.iload_n 2, 1) := by decide +kernel
theorem dX3_given_9 : decode cX3_given 9 = .ok (.invokevirtual 81, 3) := by decide +kernel
theorem dX3_given_12 : decode cX3_given 12 = .ok (.ifCond .eq 17, 3) := by decide +kernel
theorem dX3_given_15 : decode cX3_given 15 = .ok (.aload_n 0, 1) := by decide +kernel
theorem dX3_given_16 : decode cX3_given 16 = .ok (.getfield 28, 3) := by decide +kernel
theorem dX3_given_19 : decode cX3_given 19 = .ok (.bipush 12, 2) := by decide +kernel
theorem dX3_given_21 : decode cX3_given 21 = .ok (.iload_n 1, 1) := by decide +kernel
theorem dX3_given_22 : decode cX3_given 22 = .ok (.imul, 1) := by decide +kernel
theorem dX3_given_23 : decode cX3_given 23 = .ok (.iload_n 2, 1) := by decide +kernel
theorem dX3_given_24 : decode cX3_given 24 = .ok (.iadd, 1) := by decide +kernel
theorem dX3_given_25 : decode cX3_given 25 = .ok (.iaload, 1) := by decide +kernel
theorem dX3_given_26 : decode cX3_given 26 = .ok (.goto 5, 3) := by decide +kernel
theorem dX3_given_29 : decode cX3_given 29 = .ok (.bipush (-100), 2) := by decide +kernel
theorem dX3_given_31 : decode cX3_given 31 = .ok (.ireturn, 1) := by decide +kernel
theorem dX3_common_0 : decode cX3_common 0 = .ok (.iload_n 0, 1) := by decide +kernel
theorem dX3_common_1 : decode cX3_common 1 = .ok (.invokestatic 93, 3) := by decide +kernel
theorem dX3_common_4 : decode cX3_common 4 = .ok (.istore_n 2, 1) := by decide +kernel
theorem dX3_common_5 : decode cX3_common 5 = .ok (.iload_n 1, 1) := by decide +kernel
theorem dX3_common_6 : decode cX3_common 6 = .ok (.invokestatic 93, 3) := by decide +kernel
theorem dX3_common_9 : decode cX3_common 9 = .ok (.istore_n 3, 1) := by decide +kernel
theorem dX3_common_10 : decode cX3_common 10 = .ok (.iload_n 3, 1) := by decide +kernel
theorem dX3_common_11 : decode cX3_common 11 = .ok (.ifCond .eq 16, 3) := by decide +kernel
theorem dX3_common_14 : decode cX3_common 14 = .ok (.iload_n 2, 1) := by decide +kernel
theorem dX3_common_15 : decode cX3_common 15 = .ok (.iload_n 3, 1) := by decide +kernel
theorem dX3_common_16 : decode cX3_common 16 = .ok (.irem, 1) := by decide +kernel
theorem dX3_common_17 : decode cX3_common 17 = .ok (.istore 4, 2) := by decide +kernel
theorem dX3_common_19 : decode cX3_common 19 = .ok (.iload_n 3, 1) := by decide +kernel
theorem dX3_common_20 : decode cX3_common 20 = .ok (.istore_n 2, 1) := by decide +kernel
theorem dX3_common_21 : decode cX3_common 21 = .ok (.iload 4, 2) := by decide +kernel
theorem dX3_common_23 : decode cX3_common 23 = .ok (.istore_n 3, 1) := by decide +kernel
theorem dX3_common_24 : decode cX3_common 24 = .ok (.goto (-14), 3) := by decide +kernel
theorem dX3_common_27 : decode cX3_common 27 = .ok (.iload_n 2, 1) := by decide +kernel
theorem dX3_common_28 : decode cX3_common 28 = .ok (.ireturn, 1) := by decide +kernel
theorem dX3_both_0 : decode cX3_both 0 = .ok (.aload_n 0, 1) := by decide +kernel
theorem dX3_both_1 : decode cX3_both 1 = .ok (.getfield 28, 3) := by decide +kernel
theorem dX3_both_4 : decode cX3_both 4 = .ok (.bipush 12, 2) := by decide +kernel
theorem dX3_both_6 : decode cX3_both 6 = .ok (.iload_n 1, 1) := by decide +kernel
theorem dX3_both_7 : decode cX3_both 7 = .ok (.imul, 1) := by decide +kernel
theorem dX3_both_8 : decode cX3_both 8 = .ok (.iload_n 3, 1) := by decide +kernel
theorem dX3_both_9 : decode cX3_both 9 = .ok (.iadd, 1) := by decide +kernel
theorem dX3_both_10 : decode cX3_both 10 = .ok (.iaload, 1) := by decide +kernel
theorem dX3_both_11 : decode cX3_both 11 = .ok (.sipush (-900), 3) := by decide +kernel
theorem dX3_both_14 : decode cX3_both 14 = .ok (.if_icmp .eq 24, 3) := by decide +kernel
theorem dX3_both_17 : decode cX3_both 17 = .ok (.aload_n 0, 1) := by decide +kernel
theorem dX3_both_18 : decode cX3_both 18 = .ok (.getfield 28, 3) := by decide +kernel
theorem dX3_both_21 : decode cX3_both 21 = .ok (.bipush 12, 2) := by decide +kernel
theorem dX3_both_23 : decode cX3_both 23 = .ok (.iload_n 2, 1) := by decide +kernel
theorem dX3_both_24 : decode cX3_both 24 = .ok (.imul, 1) := by decide +kernel
theorem dX3_both_25 : decode cX3_both 25 = .ok (.iload_n 3, 1) := by decide +kernel
theorem dX3_both_26 : decode cX3_both 26 = .ok (.iadd, 1) := by decide +kernel
theorem dX3_both_27 : decode cX3_both 27 = .ok (.iaload, 1) := by decide +kernel
theorem dX3_both_28 : decode cX3_both 28 = .ok (.sipush (-900), 3) := by decide +kernel
theorem dX3_both_31 : decode cX3_both 31 = .ok (.if_icmp .eq 7, 3) := by decide +kernel
theorem dX3_both_34 : decode cX3_both 34 = .ok (.iconst 1, 1) := by decide +kernel
theorem dX3_both_35 : decode cX3_both 35 = .ok (.goto 4, 3) := by decide +kernel
theorem dX3_both_38 : decode cX3_both 38 = .ok (.iconst 0, 1) := by decide +kernel
theorem dX3_both_39 : decode cX3_both 39 = .ok (.ireturn, 1) := by decide +kernel
theorem dX3_times_0 : decode cX3_times 0 = .ok (.iconst 0, 1) := by decide +kernel
theorem dX3_times_1 : decode cX3_times 1 = .ok (.istore 4, 2) := by decide +kernel
theorem dX3_times_3 : decode cX3_times 3 = .ok (.iconst 0, 1) := by decide +kernel
theorem dX3_times_4 : decode cX3_times 4 = .ok (.istore 5, 2) := by decide +kernel
theorem dX3_times_6 : decode cX3_times 6 = .ok (.iload 5, 2) := by decide +kernel
theorem dX3_times_8 : decode cX3_times 8 = .ok (.aload_n 0, 1) := by decide +kernel
theorem dX3_times_9 : decode cX3_times 9 = .ok (.getfield 77, 3) := by decide +kernel
theorem dX3_times_12 : decode cX3_times 12 = .ok (.if_icmp .ge 46, 3) := by decide +kernel
theorem dX3_times_15 : decode cX3_times 15 = .ok (.iload 4, 2) := by decide +kernel
theorem dX3_times_17 : decode cX3_times 17 = .ok (.aload_n 0, 1) := by decide +kernel
theorem dX3_times_18 : decode cX3_times 18 = .ok (.iload_n 1, 1) := by decide +kernel
theorem dX3_times_19 : decode cX3_times 19 = .ok (.iload_n 2, 1) := by decide +kernel
theorem dX3_times_20 : decode cX3_times 20 = .ok (.iload 5, 2) := by decide +kernel
theorem dX3_times_22 : decode cX3_times 22 = .ok (.invokevirtual 97, 3) := by decide +kernel
theorem dX3_times_25 : decode cX3_times 25 = .ok (.ifCond .eq 23, 3) := by decide +kernel
theorem dX3_times_28 : decode cX3_times 28 = .ok (.aload_n 0, 1) := by decide +kernel
theorem dX3_times_29 : decode cX3_times 29 = .ok (.getfield 28, 3) := by decide +kernel
theorem dX3_times_32 : decode cX3_times 32 = .ok (.bipush 12, 2) := by decide +kernel
theorem dX3_times_34 : decode cX3_times 34 = .ok (.iload_n 1, 1) := by decide +kernel
theorem dX3_times_35 : decode cX3_times 35 = .ok (.imul, 1) := by decide +kernel
theorem dX3_times_36 : decode cX3_times 36 = .ok (.iload 5, 2) := by decide +kernel
theorem dX3_times_38 : decode cX3_times 38 = .ok (.iadd, 1) := by decide +kernel
theorem dX3_times_39 : decode cX3_times 39 = .ok (.iaload, 1) := by decide +kernel
theorem dX3_times_40 : decode cX3_times 40 = .ok (.iload_n 3, 1) := by decide +kernel
theorem dX3_times_41 : decode cX3_times 41 = .ok (.if_icmp .ne 7, 3) := by decide +kernel
theorem dX3_times_44 : decode cX3_times 44 = .ok (.iconst 1, 1) := by decide +kernel
theorem dX3_times_45 : decode cX3_times 45 = .ok (.goto 4, 3) := by decide +kernel
theorem dX3_times_48 : decode cX3_times 48 = .ok (.iconst 0, 1) := by decide +kernel
theorem dX3_times_49 : decode cX3_times 49 = .ok (.iadd, 1) := by decide +kernel
theorem dX3_times_50 : decode cX3_times 50 = .ok (.istore 4, 2) := by decide +kernel
theorem dX3_times_52 : decode cX3_times 52 = .ok (.iinc 5 1, 3) := by decide +kernel
theorem dX3_times_55 : decode cX3_times 55 = .ok (.goto (-49), 3) := by decide +kernel
theorem dX3_times_58 : decode cX3_times 58 = .ok (.iload 4, 2) := by decide +kernel
theorem dX3_times_60 : decode cX3_times 60 = .ok (.ireturn, 1) := by decide +kernel
theorem dX3_like_0 : decode cX3_like 0 = .ok (.iload_n 1, 1) := by decide +kernel
theorem dX3_like_1 : decode cX3_like 1 = .ok (.invokestatic 87, 3) := by decide +kernel
theorem dX3_like_4 : decode cX3_like 4 = .ok (.ifCond .eq 24, 3) := by decide +kernel
theorem dX3_like_7 : decode cX3_like 7 = .ok (.iload_n 2, 1) := by decide +kernel
theorem dX3_like_8 : decode cX3_like 8 = .ok (.invokestatic 87, 3) := by decide +kernel
theorem dX3_like_11 : decode cX3_like 11 = .ok (.ifCond .eq 17, 3) := by decide +kernel
theorem dX3_like_14 : decode cX3_like 14 = .ok (.iload_n 1, 1) := by decide +kernel
theorem dX3_like_15 : decode cX3_like 15 = .ok (.iload_n 2, 1) := by decide +kernel
theorem dX3_like_16 : decode cX3_like 16 = .ok (.if_icmp .eq 12, 3) := by decide +kernel
theorem dX3_like_19 : decode cX3_like 19 = .ok (.iload_n 3, 1) := by decide +kernel
theorem dX3_like_20 : decode cX3_like 20 = .ok (.iconst 0, 1) := by decide +kernel
theorem dX3_like_21 : decode cX3_like 21 = .ok (.iconst 2, 1) := by decide +kernel
theorem dX3_like_22 : decode cX3_like 22 = .ok (.invokestatic 40, 3) := by decide +kernel
theorem dX3_like_25 : decode cX3_like 25 = .ok (.ifCond .ne 6, 3) := by decide +kernel
theorem dX3_like_28 : decode cX3_like 28 = .ok (.bipush (-100), 2) := by decide +kernel
theorem dX3_like_30 : decode cX3_like 30 = .ok (.ireturn, 1) := by decide +kernel
theorem dX3_like_31 : decode cX3_like 31 = .ok (.iconst 0, 1) := by decide +kernel
theorem dX3_like_32 : decode cX3_like 32 = .ok (.istore 4, 2) := by decide +kernel
theorem dX3_like_34 : decode cX3_like 34 = .ok (.iconst 0, 1) := by decide +kernel
theorem dX3_like_35 : decode cX3_like 35 = .ok (.istore 5, 2) := by decide +kernel
theorem dX3_like_37 : decode cX3_like 37 = .ok (.iconst 0, 1) := by decide +kernel
theorem dX3_like_38 : decode cX3_like 38 = .ok (.istore 6, 2) := by decide +kernel
theorem dX3_like_40 : decode cX3_like 40 = .ok (.iconst 0, 1) := by decide +kernel
theorem dX3_like_41 : decode cX3_like 41 = .ok (.istore 7, 2) := by decide +kernel
theorem dX3_like_43 : decode cX3_like 43 = .ok (.iload 7, 2) := by decide +kernel
theorem dX3_like_45 : decode cX3_like 45 = .ok (.aload_n 0, 1) := by decide +kernel
theorem dX3_like_46 : decode cX3_like 46 = .ok (.getfield 77, 3) := by decide +kernel
theorem dX3_like_49 : decode cX3_like 49 = .ok (.if_icmp .ge 78, 3) := by decide +kernel
theorem dX3_like_52 : decode cX3_like 52 = .ok (.iload 4, 2) := by decide +kernel
theorem dX3_like_54 : decode cX3_like 54 = .ok (.aload_n 0, 1) := by decide +kernel
theorem dX3_like_55 : decode cX3_like 55 = .ok (.iload_n 1, 1) := by decide +kernel
theorem dX3_like_56 : decode cX3_like 56 = .ok (.iload_n 2, 1) := by decide +kernel
theorem dX3_like_57 : decode cX3_like 57 = .ok (.iload 7, 2) := by decide +kernel
theorem dX3_like_59 : decode cX3_like 59 = .ok (.invokevirtual 97, 3) := by decide +kernel
theorem dX3_like_62 : decode cX3_like 62 = .ok (.ifCond .eq 7, 3) := by decide +kernel
theorem dX3_like_65 : decode cX3_like 65 = .ok (.iconst 1, 1) := by decide +kernel
theorem dX3_like_66 : decode cX3_like 66 = .ok (.goto 4, 3) := by decide +kernel
theorem dX3_like_69 : decode cX3_like 69 = .ok (.iconst 0, 1) := by decide +kernel
theorem dX3_like_70 : decode cX3_like 70 = .ok (.iadd, 1) := by decide +kernel
theorem dX3_like_71 : decode cX3_like 71 = .ok (.istore 4, 2) := by decide +kernel
theorem dX3_like_73 : decode cX3_like 73 = .ok (.iload 5, 2) := by decide +kernel
theorem dX3_like_75 : decode cX3_like 75 = .ok (.aload_n 0, 1) := by decide +kernel
theorem dX3_like_76 : decode cX3_like 76 = .ok (.iload_n 1, 1) := by decide +kernel
theorem dX3_like_77 : decode cX3_like 77 = .ok (.iload_n 2, 1) := by decide +kernel
theorem dX3_like_78 : decode cX3_like 78 = .ok (.iload 7, 2) := by decide +kernel
theorem dX3_like_80 : decode cX3_like 80 = .ok (.invokevirtual 97, 3) := by decide +kernel
theorem dX3_like_83 : decode cX3_like 83 = .ok (.ifCond .eq 34, 3) := by decide +kernel
theorem dX3_like_86 : decode cX3_like 86 = .ok (.aload_n 0, 1) := by decide +kernel
theorem dX3_like_87 : decode cX3_like 87 = .ok (.getfield 28, 3) := by decide +kernel
theorem dX3_like_90 : decode cX3_like 90 = .ok (.bipush 12, 2) := by decide +kernel
theorem dX3_like_92 : decode cX3_like 92 = .ok (.iload_n 1, 1) := by decide +kernel
theorem dX3_like_93 : decode cX3_like 93 = .ok (.imul, 1) := by decide +kernel
theorem dX3_like_94 : decode cX3_like 94 = .ok (.iload 7, 2) := by decide +kernel
theorem dX3_like_96 : decode cX3_like 96 = .ok (.iadd, 1) := by decide +kernel
theorem dX3_like_97 : decode cX3_like 97 = .ok (.iaload, 1) := by decide +kernel
theorem dX3_like_98 : decode cX3_like 98 = .ok (.aload_n 0, 1) := by decide +kernel
theorem dX3_like_99 : decode cX3_like 99 = .ok (.getfield 28, 3) := by decide +kernel
theorem dX3_like_102 : decode cX3_like 102 = .ok (.bipush 12, 2) := by decide +kernel
theorem dX3_like_104 : decode cX3_like 104 = .ok (.iload_n 2, 1) := by decide +kernel
theorem dX3_like_105 : decode cX3_like 105 = .ok (.imul, 1) := by decide +kernel
theorem dX3_like_106 : decode cX3_like 106 = .ok (.iload 7, 2) := by decide +kernel
theorem dX3_like_108 : decode cX3_like 108 = .ok (.iadd, 1) := by decide +kernel
theorem dX3_like_109 : decode cX3_like 109 = .ok (.iaload, 1) := by decide +kernel
theorem dX3_like_110 : decode cX3_like 110 = .ok (.if_icmp .ne 7, 3) := by decide +kernel
theorem dX3_like_113 : decode cX3_like 113 = .ok (.iconst 1, 1) := by decide +kernel
theorem dX3_like_114 : decode cX3_like 114 = .ok (.goto 4, 3) := by decide +kernel
theorem dX3_like_117 : decode cX3_like 117 = .ok (.iconst 0, 1) := by decide +kernel
theorem dX3_like_118 : decode cX3_like 118 = .ok (.iadd, 1) := by decide +kernel
theorem dX3_like_119 : decode cX3_like 119 = .ok (.istore 5, 2) := by decide +kernel
theorem dX3_like_121 : decode cX3_like 121 = .ok (.iinc 7 1, 3) := by decide +kernel
theorem dX3_like_124 : decode cX3_like 124 = .ok (.goto (-81), 3) := by decide +kernel
theorem dX3_like_127 : decode cX3_like 127 = .ok (.iconst 0, 1) := by decide +kernel
theorem dX3_like_128 : decode cX3_like 128 = .ok (.istore 7, 2) := by decide +kernel
theorem dX3_like_130 : decode cX3_like 130 = .ok (.iload 7, 2) := by decide +kernel
theorem dX3_like_132 : decode cX3_like 132 = .ok (.iconst 4, 1) := by decide +kernel
theorem dX3_like_133 : decode cX3_like 133 = .ok (.if_icmp .ge 31, 3) := by decide +kernel
theorem dX3_like_136 : decode cX3_like 136 = .ok (.iload 6, 2) := by decide +kernel
theorem dX3_like_138 : decode cX3_like 138 = .ok (.aload_n 0, 1) := by decide +kernel
theorem dX3_like_139 : decode cX3_like 139 = .ok (.iload_n 1, 1) := by decide +kernel
theorem dX3_like_140 : decode cX3_like 140 = .ok (.iload_n 2, 1) := by decide +kernel
theorem dX3_like_141 : decode cX3_like 141 = .ok (.iload 7, 2) := by decide +kernel
theorem dX3_like_143 : decode cX3_like 143 = .ok (.invokevirtual 100, 3) := by decide +kernel
theorem dX3_like_146 : decode cX3_like 146 = .ok (.aload_n 0, 1) := by decide +kernel
theorem dX3_like_147 : decode cX3_like 147 = .ok (.iload_n 2, 1) := by decide +kernel
theorem dX3_like_148 : decode cX3_like 148 = .ok (.iload_n 1, 1) := by decide +kernel
theorem dX3_like_149 : decode cX3_like 149 = .ok (.iload 7, 2) := by decide +kernel
theorem dX3_like_151 : decode cX3_like 151 = .ok (.invokevirtual 100, 3) := by decide +kernel
theorem dX3_like_154 : decode cX3_like 154 = .ok (.imul, 1) := by decide +kernel
theorem dX3_like_155 : decode cX3_like 155 = .ok (.iadd, 1) := by decide +kernel
theorem dX3_like_156 : decode cX3_like 156 = .ok (.istore 6, 2) := by decide +kernel
theorem dX3_like_158 : decode cX3_like 158 = .ok (.iinc 7 1, 3) := by decide +kernel
theorem dX3_like_161 : decode cX3_like 161 = .ok (.goto (-31), 3) := by decide +kernel
theorem dX3_like_164 : decode cX3_like 164 = .ok (.iload_n 3, 1) := by decide +kernel
theorem dX3_like_165 : decode cX3_like 165 = .ok (.iconst 2, 1) := by decide +kernel
theorem dX3_like_166 : decode cX3_like 166 = .ok (.if_icmp .ne 6, 3) := by decide +kernel
theorem dX3_like_169 : decode cX3_like 169 = .ok (.iload 4, 2) := by decide +kernel
theorem dX3_like_171 : decode cX3_like 171 = .ok (.ireturn, 1) := by decide +kernel
theorem dX3_like_172 : decode cX3_like 172 = .ok (.iload 5, 2) := by decide +kernel
theorem dX3_like_174 : decode cX3_like 174 = .ok (.iload 4, 2) := by decide +kernel
theorem dX3_like_176 : decode cX3_like 176 = .ok (.imul, 1) := by decide +kernel
theorem dX3_like_177 : decode cX3_like 177 = .ok (.iload 6, 2) := by decide +kernel
theorem dX3_like_179 : decode cX3_like 179 = .ok (.isub, 1) := by decide +kernel
theorem dX3_like_180 : decode cX3_like 180 = .ok (.istore 7, 2) := by decide +kernel
theorem dX3_like_182 : decode cX3_like 182 = .ok (.iload 4, 2) := by decide +kernel
theorem dX3_like_184 : decode cX3_like 184 = .ok (.iload 4, 2) := by decide +kernel
theorem dX3_like_186 : decode cX3_like 186 = .ok (.imul, 1) := by decide +kernel
theorem dX3_like_187 : decode cX3_like 187 = .ok (.iload 6, 2) := by decide +kernel
theorem dX3_like_189 : decode cX3_like 189 = .ok (.isub, 1) := by decide +kernel
theorem dX3_like_190 : decode cX3_like 190 = .ok (.istore 8, 2) := by decide +kernel
theorem dX3_like_192 : decode cX3_like 192 = .ok (.iload 8, 2) := by decide +kernel
theorem dX3_like_194 : decode cX3_like 194 = .ok (.ifCond .ne 7, 3) := by decide +kernel
theorem dX3_like_197 : decode cX3_like 197 = .ok (.sipush (-200), 3) := by decide +kernel
theorem dX3_like_200 : decode cX3_like 200 = .ok (.ireturn, 1) := by decide +kernel
theorem dX3_like_201 : decode cX3_like 201 = .ok (.iload 7, 2) := by decide +kernel
theorem dX3_like_203 : decode cX3_like 203 = .ok (.iload 8, 2) := by decide +kernel
theorem dX3_like_205 : decode cX3_like 205 = .ok (.invokestatic 104, 3) := by decide +kernel
theorem dX3_like_208 : decode cX3_like 208 = .ok (.istore 9, 2) := by decide +kernel
theorem dX3_like_210 : decode cX3_like 210 = .ok (.iload_n 3, 1) := by decide +kernel
theorem dX3_like_211 : decode cX3_like 211 = .ok (.ifCond .ne 11, 3) := by decide +kernel
theorem dX3_like_214 : decode cX3_like 214 = .ok (.iload 7, 2) := by decide +kernel
theorem dX3_like_216 : decode cX3_like 216 = .ok (.iload 9, 2) := by decide +kernel
theorem dX3_like_218 : decode cX3_like 218 = .ok (.idiv, 1) := by decide +kernel
theorem dX3_like_219 : decode cX3_like 219 = .ok (.goto 8, 3) := by decide +kernel
theorem dX3_like_222 : decode cX3_like 222 = .ok (.iload 8, 2) := by decide +kernel
theorem dX3_like_224 : decode cX3_like 224 = .ok (.iload 9, 2) := by decide +kernel
theorem dX3_like_226 : decode cX3_like 226 = .ok (.idiv, 1) := by decide +kernel
theorem dX3_like_227 : decode cX3_like 227 = .ok (.ireturn, 1) := by decide +kernel
theorem dX3_parts_0 : decode cX3_parts 0 = .ok (.iload_n 1, 1) := by decide +kernel
theorem dX3_parts_1 : decode cX3_parts 1 = .ok (.invokestatic 87, 3) := by decide +kernel
theorem dX3_parts_4 : decode cX3_parts 4 = .ok (.ifCond .eq 15, 3) := by decide +kernel
theorem dX3_parts_7 : decode cX3_parts 7 = .ok (.iload_n 2, 1) := by decide +kernel
theorem dX3_parts_8 : decode cX3_parts 8 = .ok (.invokestatic 87, 3) := by decide +kernel
theorem dX3_parts_11 : decode cX3_parts 11 = .ok (.ifCond .eq 8, 3) := by decide +kernel
theorem dX3_parts_14 : decode cX3_parts 14 = .ok (.iload_n 1, 1) := by decide +kernel
theorem dX3_parts_15 : decode cX3_parts 15 = .ok (.iload_n 2, 1) := by decide +kernel
theorem dX3_parts_16 : decode cX3_parts 16 = .ok (.if_icmp .ne 6, 3) := by decide +kernel
theorem dX3_parts_19 : decode cX3_parts 19 = .ok (.bipush (-100), 2) := by decide +kernel
theorem dX3_parts_21 : decode cX3_parts 21 = .ok (.ireturn, 1) := by decide +kernel
theorem dX3_parts_22 : decode cX3_parts 22 = .ok (.sipush (-900), 3) := by decide +kernel
theorem dX3_parts_25 : decode cX3_parts 25 = .ok (.istore_n 3, 1) := by decide +kernel
theorem dX3_parts_26 : decode cX3_parts 26 = .ok (.iconst 0, 1) := by decide +kernel
theorem dX3_parts_27 : decode cX3_parts 27 = .ok (.istore 4, 2) := by decide +kernel
theorem dX3_parts_29 : decode cX3_parts 29 = .ok (.iconst 0, 1) := by decide +kernel
theorem dX3_parts_30 : decode cX3_parts 30 = .ok (.istore 5, 2) := by decide +kernel
theorem dX3_parts_32 : decode cX3_parts 32 = .ok (.iload 5, 2) := by decide +kernel
theorem dX3_parts_34 : decode cX3_parts 34 = .ok (.aload_n 0, 1) := by decide +kernel
theorem dX3_parts_35 : decode cX3_parts 35 = .ok (.getfield 77, 3) := by decide +kernel
theorem dX3_parts_38 : decode cX3_parts 38 = .ok (.if_icmp .ge 84, 3) := by decide +kernel
theorem dX3_parts_41 : decode cX3_parts 41 = .ok (.aload_n 0, 1) := by decide +kernel
theorem dX3_parts_42 : decode cX3_parts 42 = .ok (.iload_n 1, 1) := by decide +kernel
theorem dX3_parts_43 : decode cX3_parts 43 = .ok (.iload_n 2, 1) := by decide +kernel
theorem dX3_parts_44 : decode cX3_parts 44 = .ok (.iload 5, 2) := by decide +kernel
theorem dX3_parts_46 : decode cX3_parts 46 = .ok (.invokevirtual 97, 3) := by decide +kernel
theorem dX3_parts_49 : decode cX3_parts 49 = .ok (.ifCond .eq 34, 3) := by decide +kernel
theorem dX3_parts_52 : decode cX3_parts 52 = .ok (.aload_n 0, 1) := by decide +kernel
theorem dX3_parts_53 : decode cX3_parts 53 = .ok (.getfield 28, 3) := by decide +kernel
theorem dX3_parts_56 : decode cX3_parts 56 = .ok (.bipush 12, 2) := by decide +kernel
theorem dX3_parts_58 : decode cX3_parts 58 = .ok (.iload_n 1, 1) := by decide +kernel
theorem dX3_parts_59 : decode cX3_parts 59 = .ok (.imul, 1) := by decide +kernel
theorem dX3_parts_60 : decode cX3_parts 60 = .ok (.iload 5, 2) := by decide +kernel
theorem dX3_parts_62 : decode cX3_parts 62 = .ok (.iadd, 1) := by decide +kernel
theorem dX3_parts_63 : decode cX3_parts 63 = .ok (.iaload, 1) := by decide +kernel
theorem dX3_parts_64 : decode cX3_parts 64 = .ok (.aload_n 0, 1) := by decide +kernel
theorem dX3_parts_65 : decode cX3_parts 65 = .ok (.getfield 28, 3) := by decide +kernel
theorem dX3_parts_68 : decode cX3_parts 68 = .ok (.bipush 12, 2) := by decide +kernel
theorem dX3_parts_70 : decode cX3_parts 70 = .ok (.iload_n 2, 1) := by decide +kernel
theorem dX3_parts_71 : decode cX3_parts 71 = .ok (.imul, 1) := by decide +kernel
theorem dX3_parts_72 : decode cX3_parts 72 = .ok (.iload 5, 2) := by decide +kernel
theorem dX3_parts_74 : decode cX3_parts 74 = .ok (.iadd, 1) := by decide +kernel
theorem dX3_parts_75 : decode cX3_parts 75 = .ok (.iaload, 1) := by decide +kernel
theorem dX3_parts_76 : decode cX3_parts 76 = .ok (.isub, 1) := by decide +kernel
theorem dX3_parts_77 : decode cX3_parts 77 = .ok (.invokestatic 93, 3) := by decide +kernel
theorem dX3_parts_80 : decode cX3_parts 80 = .ok (.goto 4, 3) := by decide +kernel
theorem dX3_parts_83 : decode cX3_parts 83 = .ok (.iconst 0, 1) := by decide +kernel
theorem dX3_parts_84 : decode cX3_parts 84 = .ok (.istore 6, 2) := by decide +kernel
theorem dX3_parts_86 : decode cX3_parts 86 = .ok (.iload 6, 2) := by decide +kernel
theorem dX3_parts_88 : decode cX3_parts 88 = .ok (.iload 4, 2) := by decide +kernel
theorem dX3_parts_90 : decode cX3_parts 90 = .ok (.if_icmp .le 8, 3) := by decide +kernel
theorem dX3_parts_93 : decode cX3_parts 93 = .ok (.iload 5, 2) := by decide +kernel
theorem dX3_parts_95 : decode cX3_parts 95 = .ok (.goto 4, 3) := by decide +kernel
theorem dX3_parts_98 : decode cX3_parts 98 = .ok (.iload_n 3, 1) := by decide +kernel
theorem dX3_parts_99 : decode cX3_parts 99 = .ok (.istore_n 3, 1) := by decide +kernel
theorem dX3_parts_100 : decode cX3_parts 100 = .ok (.iload 6, 2) := by decide +kernel
theorem dX3_parts_102 : decode cX3_parts 102 = .ok (.iload 4, 2) := by decide +kernel
theorem dX3_parts_104 : decode cX3_parts 104 = .ok (.if_icmp .le 8, 3) := by decide +kernel
theorem dX3_parts_107 : decode cX3_parts 107 = .ok (.iload 6, 2) := by decide +kernel
theorem dX3_parts_109 : decode cX3_parts 109 = .ok (.goto 5, 3) := by decide +kernel
theorem dX3_parts_112 : decode cX3_parts 112 = .ok (.iload 4, 2) := by decide +kernel
theorem dX3_parts_114 : decode cX3_parts 114 = .ok (.istore 4, 2) := by decide +kernel
theorem dX3_parts_116 : decode cX3_parts 116 = .ok (.iinc 5 1, 3) := by decide +kernel
theorem dX3_parts_119 : decode cX3_parts 119 = .ok (.goto (-87), 3) := by decide +kernel
theorem dX3_parts_122 : decode cX3_parts 122 = .ok (.iload_n 3, 1) := by decide +kernel
theorem dX3_parts_123 : decode cX3_parts 123 = .ok (.ireturn, 1) := by decide +kernel
theorem dX3_anchor_0 : decode cX3_anchor 0 = .ok (.aload_n 0, 1) := by decide +kernel
theorem dX3_anchor_1 : decode cX3_anchor 1 = .ok (.iload_n 1, 1) := by decide +kernel
theorem dX3_anchor_2 : decode cX3_anchor 2 = .ok (.invokevirtual 81, 3) := by decide +kernel
theorem dX3_anchor_5 : decode cX3_anchor 5 = .ok (.ifCond .eq 10, 3) := by decide +kernel
theorem dX3_anchor_8 : decode cX3_anchor 8 = .ok (.iload_n 2, 1) := by decide +kernel
theorem dX3_anchor_9 : decode cX3_anchor 9 = .ok (.invokestatic 90, 3) := by decide +kernel
theorem dX3_anchor_12 : decode cX3_anchor 12 = .ok (.ifCond .ne 6, 3) := by decide +kernel
theorem dX3_anchor_15 : decode cX3_anchor 15 = .ok (.bipush (-100), 2) := by decide +kernel
theorem dX3_anchor_17 : decode cX3_anchor 17 = .ok (.ireturn, 1) := by decide +kernel
theorem dX3_anchor_18 : decode cX3_anchor 18 = .ok (.aload_n 0, 1) := by decide +kernel
theorem dX3_anchor_19 : decode cX3_anchor 19 = .ok (.getfield 31, 3) := by decide +kernel
theorem dX3_anchor_22 : decode cX3_anchor 22 = .ok (.iload_n 1, 1) := by decide +kernel
theorem dX3_anchor_23 : decode cX3_anchor 23 = .ok (.iaload, 1) := by decide +kernel
theorem dX3_anchor_24 : decode cX3_anchor 24 = .ok (.istore_n 3, 1) := by decide +kernel
theorem dX3_anchor_25 : decode cX3_anchor 25 = .ok (.aload_n 0, 1) := by decide +kernel
theorem dX3_anchor_26 : decode cX3_anchor 26 = .ok (.getfield 31, 3) := by decide +kernel
theorem dX3_anchor_29 : decode cX3_anchor 29 = .ok (.iload_n 1, 1) := by decide +kernel
theorem dX3_anchor_30 : decode cX3_anchor 30 = .ok (.iload_n 2, 1) := by decide +kernel
theorem dX3_anchor_31 : decode cX3_anchor 31 = .ok (.iastore, 1) := by decide +kernel
theorem dX3_anchor_32 : decode cX3_anchor 32 = .ok (.iload_n 3, 1) := by decide +kernel
theorem dX3_anchor_33 : decode cX3_anchor 33 = .ok (.ireturn, 1) := by decide +kernel
theorem dX3_findOff_0 : decode cX3_findOff 0 = .ok (.aload_n 0, 1) := by decide +kernel
theorem dX3_findOff_1 : decode cX3_findOff 1 = .ok (.iconst 0, 1) := by decide +kernel
theorem dX3_findOff_2 : decode cX3_findOff 2 = .ok (.putfield 107, 3) := by decide +kernel
theorem dX3_findOff_5 : decode cX3_findOff 5 = .ok (.aload_n 0, 1) := by decide +kernel
theorem dX3_findOff_6 : decode cX3_findOff 6 = .ok (.iconst 0, 1) := by decide +kernel
theorem dX3_findOff_7 : decode cX3_findOff 7 = .ok (.putfield 110, 3) := by decide +kernel
theorem dX3_findOff_10 : decode cX3_findOff 10 = .ok (.iconst 0, 1) := by decide +kernel
theorem dX3_findOff_11 : decode cX3_findOff 11 = .ok (.istore_n 2, 1) := by decide +kernel
theorem dX3_findOff_12 : decode cX3_findOff 12 = .ok (.iload_n 2, 1) := by decide +kernel
theorem dX3_findOff_13 : decode cX3_findOff 13 = .ok (.aload_n 0, 1) := by decide +kernel
theorem dX3_findOff_14 : decode cX3_findOff 14 = .ok (.getfield 77, 3) := by decide +kernel
theorem dX3_findOff_17 : decode cX3_findOff 17 = .ok (.if_icmp .ge 75, 3) := by decide +kernel
theorem dX3_findOff_20 : decode cX3_findOff 20 = .ok (.aload_n 0, 1) := by decide +kernel
theorem dX3_findOff_21 : decode cX3_findOff 21 = .ok (.getfield 31, 3) := by decide +kernel
theorem dX3_findOff_24 : decode cX3_findOff 24 = .ok (.iload_n 2, 1) := by decide +kernel
theorem dX3_findOff_25 : decode cX3_findOff 25 = .ok (.iaload, 1) := by decide +kernel
theorem dX3_findOff_26 : decode cX3_findOff 26 = .ok (.sipush (-900), 3) := by decide +kernel
theorem dX3_findOff_29 : decode cX3_findOff 29 = .ok (.if_icmp .eq 57, 3) := by decide +kernel
theorem dX3_findOff_32 : decode cX3_findOff 32 = .ok (.aload_n 0, 1) := by decide +kernel
theorem dX3_findOff_33 : decode cX3_findOff 33 = .ok (.getfield 28, 3) := by decide +kernel
theorem dX3_findOff_36 : decode cX3_findOff 36 = .ok (.bipush 12, 2) := by decide +kernel
theorem dX3_findOff_38 : decode cX3_findOff 38 = .ok (.iload_n 1, 1) := by decide +kernel
theorem dX3_findOff_39 : decode cX3_findOff 39 = .ok (.imul, 1) := by decide +kernel
theorem dX3_findOff_40 : decode cX3_findOff 40 = .ok (.iload_n 2, 1) := by decide +kernel
theorem dX3_findOff_41 : decode cX3_findOff 41 = .ok (.iadd, 1) := by decide +kernel
theorem dX3_findOff_42 : decode cX3_findOff 42 = .ok (.iaload, 1) := by decide +kernel
theorem dX3_findOff_43 : decode cX3_findOff 43 = .ok (.sipush (-900), 3) := by decide +kernel
theorem dX3_findOff_46 : decode cX3_findOff 46 = .ok (.if_icmp .eq 40, 3) := by decide +kernel
theorem dX3_findOff_49 : decode cX3_findOff 49 = .ok (.aload_n 0, 1) := by decide +kernel
theorem dX3_findOff_50 : decode cX3_findOff 50 = .ok (.dup, 1) := by decide +kernel
theorem dX3_findOff_51 : decode cX3_findOff 51 = .ok (.getfield 107, 3) := by decide +kernel
theorem dX3_findOff_54 : decode cX3_findOff 54 = .ok (.aload_n 0, 1) := by decide +kernel
theorem dX3_findOff_55 : decode cX3_findOff 55 = .ok (.getfield 28, 3) := by decide +kernel
theorem dX3_findOff_58 : decode cX3_findOff 58 = .ok (.bipush 12, 2) := by decide +kernel
theorem dX3_findOff_60 : decode cX3_findOff 60 = .ok (.iload_n 1, 1) := by decide +kernel
theorem dX3_findOff_61 : decode cX3_findOff 61 = .ok (.imul, 1) := by decide +kernel
theorem dX3_findOff_62 : decode cX3_findOff 62 = .ok (.iload_n 2, 1) := by decide +kernel
theorem dX3_findOff_63 : decode cX3_findOff 63 = .ok (.iadd, 1) := by decide +kernel
theorem dX3_findOff_64 : decode cX3_findOff 64 = .ok (.iaload, 1) := by decide +kernel
theorem dX3_findOff_65 : decode cX3_findOff 65 = .ok (.aload_n 0, 1) := by decide +kernel
theorem dX3_findOff_66 : decode cX3_findOff 66 = .ok (.getfield 31, 3) := by decide +kernel
theorem dX3_findOff_69 : decode cX3_findOff 69 = .ok (.iload_n 2, 1) := by decide +kernel
theorem dX3_findOff_70 : decode cX3_findOff 70 = .ok (.iaload, 1) := by decide +kernel
theorem dX3_findOff_71 : decode cX3_findOff 71 = .ok (.isub, 1) := by decide +kernel
theorem dX3_findOff_72 : decode cX3_findOff 72 = .ok (.iadd, 1) := by decide +kernel
theorem dX3_findOff_73 : decode cX3_findOff 73 = .ok (.putfield 107, 3) := by decide +kernel
theorem dX3_findOff_76 : decode cX3_findOff 76 = .ok (.aload_n 0, 1) := by decide +kernel
theorem dX3_findOff_77 : decode cX3_findOff 77 = .ok (.dup, 1) := by decide +kernel
theorem dX3_findOff_78 : decode cX3_findOff 78 = .ok (.getfield 110, 3) := by decide +kernel
theorem dX3_findOff_81 : decode cX3_findOff 81 = .ok (.iconst 1, 1) := by decide +kernel
theorem dX3_findOff_82 : decode cX3_findOff 82 = .ok (.iadd, 1) := by decide +kernel
theorem dX3_findOff_83 : decode cX3_findOff 83 = .ok (.putfield 110, 3) := by decide +kernel
theorem dX3_findOff_86 : decode cX3_findOff 86 = .ok (.iinc 2 1, 3) := by decide +kernel
theorem dX3_findOff_89 : decode cX3_findOff 89 = .ok (.goto (-77), 3) := by decide +kernel
theorem dX3_findOff_92 : decode cX3_findOff 92 = .ok (.return_, 1) := by decide +kernel
theorem dX3_off_0 : decode cX3_off 0 = .ok (.iload_n 1, 1) := by decide +kernel
theorem dX3_off_1 : decode cX3_off 1 = .ok (.invokestatic 87, 3) := by decide +kernel
theorem dX3_off_4 : decode cX3_off 4 = .ok (.ifCond .eq 12, 3) := by decide +kernel
theorem dX3_off_7 : decode cX3_off 7 = .ok (.iload_n 2, 1) := by decide +kernel
theorem dX3_off_8 : decode cX3_off 8 = .ok (.iconst 0, 1) := by decide +kernel
theorem dX3_off_9 : decode cX3_off 9 = .ok (.iconst 2, 1) := by decide +kernel
theorem dX3_off_10 : decode cX3_off 10 = .ok (.invokestatic 40, 3) := by decide +kernel
theorem dX3_off_13 : decode cX3_off 13 = .ok (.ifCond .ne 6, 3) := by decide +kernel
theorem dX3_off_16 : decode cX3_off 16 = .ok (.bipush (-100), 2) := by decide +kernel
theorem dX3_off_18 : decode cX3_off 18 = .ok (.ireturn, 1) := by decide +kernel
theorem dX3_off_19 : decode cX3_off 19 = .ok (.aload_n 0, 1) := by decide +kernel
theorem dX3_off_20 : decode cX3_off 20 = .ok (.iload_n 1, 1) := by decide +kernel
theorem dX3_off_21 : decode cX3_off 21 = .ok (.invokevirtual 113, 3) := by decide +kernel
theorem dX3_off_24 : decode cX3_off 24 = .ok (.iload_n 2, 1) := by decide +kernel
theorem dX3_off_25 : decode cX3_off 25 = .ok (.iconst 2, 1) := by decide +kernel
theorem dX3_off_26 : decode cX3_off 26 = .ok (.if_icmp .ne 8, 3) := by decide +kernel
theorem dX3_off_29 : decode cX3_off 29 = .ok (.aload_n 0, 1) := by decide +kernel
theorem dX3_off_30 : decode cX3_off 30 = .ok (.getfield 110, 3) := by decide +kernel
theorem dX3_off_33 : decode cX3_off 33 = .ok (.ireturn, 1) := by decide +kernel
theorem dX3_off_34 : decode cX3_off 34 = .ok (.aload_n 0, 1) := by decide +kernel
theorem dX3_off_35 : decode cX3_off 35 = .ok (.getfield 110, 3) := by decide +kernel
theorem dX3_off_38 : decode cX3_off 38 = .ok (.ifCond .ne 7, 3) := by decide +kernel
theorem dX3_off_41 : decode cX3_off 41 = .ok (.sipush (-200), 3) := by decide +kernel
theorem dX3_off_44 : decode cX3_off 44 = .ok (.ireturn, 1) := by decide +kernel
theorem dX3_off_45 : decode cX3_off 45 = .ok (.aload_n 0, 1) := by decide +kernel
theorem dX3_off_46 : decode cX3_off 46 = .ok (.getfield 107, 3) := by decide +kernel
theorem dX3_off_49 : decode cX3_off 49 = .ok (.aload_n 0, 1) := by decide +kernel
theorem dX3_off_50 : decode cX3_off 50 = .ok (.getfield 110, 3) := by decide +kernel
theorem dX3_off_53 : decode cX3_off 53 = .ok (.invokestatic 104, 3) := by decide +kernel
theorem dX3_off_56 : decode cX3_off 56 = .ok (.istore_n 3, 1) := by decide +kernel
theorem dX3_off_57 : decode cX3_off 57 = .ok (.iload_n 2, 1) := by decide +kernel
theorem dX3_off_58 : decode cX3_off 58 = .ok (.ifCond .ne 12, 3) := by decide +kernel
theorem dX3_off_61 : decode cX3_off 61 = .ok (.aload_n 0, 1) := by decide +kernel
theorem dX3_off_62 : decode cX3_off 62 = .ok (.getfield 107, 3) := by decide +kernel
theorem dX3_off_65 : decode cX3_off 65 = .ok (.iload_n 3, 1) := by decide +kernel
theorem dX3_off_66 : decode cX3_off 66 = .ok (.idiv, 1) := by decide +kernel
theorem dX3_off_67 : decode cX3_off 67 = .ok (.goto 9, 3) := by decide +kernel
theorem dX3_off_70 : decode cX3_off 70 = .ok (.aload_n 0, 1) := by decide +kernel
theorem dX3_off_71 : decode cX3_off 71 = .ok (.getfield 110, 3) := by decide +kernel
theorem dX3_off_74 : decode cX3_off 74 = .ok (.iload_n 3, 1) := by decide +kernel
theorem dX3_off_75 : decode cX3_off 75 = .ok (.idiv, 1) := by decide +kernel
theorem dX3_off_76 : decode cX3_off 76 = .ok (.ireturn, 1) := by decide +kernel
theorem dX3_fair_0 : decode cX3_fair 0 = .ok (.iload_n 1, 1) := by decide +kernel
theorem dX3_fair_1 : decode cX3_fair 1 = .ok (.invokestatic 87, 3) := by decide +kernel
theorem dX3_fair_4 : decode cX3_fair 4 = .ok (.ifCond .eq 11, 3) := by decide +kernel
theorem dX3_fair_7 : decode cX3_fair 7 = .ok (.aload_n 0, 1) := by decide +kernel
theorem dX3_fair_8 : decode cX3_fair 8 = .ok (.iload_n 2, 1) := by decide +kernel
theorem dX3_fair_9 : decode cX3_fair 9 = .ok (.invokevirtual 81, 3) := by decide +kernel
theorem dX3_fair_12 : decode cX3_fair 12 = .ok (.ifCond .ne 6, 3) := by decide +kernel
theorem dX3_fair_15 : decode cX3_fair 15 = .ok (.bipush (-100), 2) := by decide +kernel
theorem dX3_fair_17 : decode cX3_fair 17 = .ok (.ireturn, 1) := by decide +kernel
theorem dX3_fair_18 : decode cX3_fair 18 = .ok (.aload_n 0, 1) := by decide +kernel
theorem dX3_fair_19 : decode cX3_fair 19 = .ok (.iload_n 1, 1) := by decide +kernel
theorem dX3_fair_20 : decode cX3_fair 20 = .ok (.invokevirtual 113, 3) := by decide +kernel
theorem dX3_fair_23 : decode cX3_fair 23 = .ok (.aload_n 0, 1) := by decide +kernel
theorem dX3_fair_24 : decode cX3_fair 24 = .ok (.getfield 28, 3) := by decide +kernel
theorem dX3_fair_27 : decode cX3_fair 27 = .ok (.bipush 12, 2) := by decide +kernel
theorem dX3_fair_29 : decode cX3_fair 29 = .ok (.iload_n 1, 1) := by decide +kernel
theorem dX3_fair_30 : decode cX3_fair 30 = .ok (.imul, 1) := by decide +kernel
theorem dX3_fair_31 : decode cX3_fair 31 = .ok (.iload_n 2, 1) := by decide +kernel
theorem dX3_fair_32 : decode cX3_fair 32 = .ok (.iadd, 1) := by decide +kernel
theorem dX3_fair_33 : decode cX3_fair 33 = .ok (.iaload, 1) := by decide +kernel
theorem dX3_fair_34 : decode cX3_fair 34 = .ok (.istore_n 3, 1) := by decide +kernel
theorem dX3_fair_35 : decode cX3_fair 35 = .ok (.iload_n 3, 1) := by decide +kernel
theorem dX3_fair_36 : decode cX3_fair 36 = .ok (.sipush (-900), 3) := by decide +kernel
theorem dX3_fair_39 : decode cX3_fair 39 = .ok (.if_icmp .eq 10, 3) := by decide +kernel
theorem dX3_fair_42 : decode cX3_fair 42 = .ok (.aload_n 0, 1) := by decide +kernel
theorem dX3_fair_43 : decode cX3_fair 43 = .ok (.getfield 110, 3) := by decide +kernel
theorem dX3_fair_46 : decode cX3_fair 46 = .ok (.ifCond .ne 7, 3) := by decide +kernel
theorem dX3_fair_49 : decode cX3_fair 49 = .ok (.sipush (-200), 3) := by decide +kernel
theorem dX3_fair_52 : decode cX3_fair 52 = .ok (.ireturn, 1) := by decide +kernel
theorem dX3_fair_53 : decode cX3_fair 53 = .ok (.iconst 0, 1) := by decide +kernel
theorem dX3_fair_54 : decode cX3_fair 54 = .ok (.istore 4, 2) := by decide +kernel
theorem dX3_fair_56 : decode cX3_fair 56 = .ok (.iconst 1, 1) := by decide +kernel
theorem dX3_fair_57 : decode cX3_fair 57 = .ok (.istore 5, 2) := by decide +kernel
theorem dX3_fair_59 : decode cX3_fair 59 = .ok (.iload 5, 2) := by decide +kernel
theorem dX3_fair_61 : decode cX3_fair 61 = .ok (.iconst 4, 1) := by decide +kernel
theorem dX3_fair_62 : decode cX3_fair 62 = .ok (.if_icmp .ge 45, 3) := by decide +kernel
theorem dX3_fair_65 : decode cX3_fair 65 = .ok (.iconst 2, 1) := by decide +kernel
theorem dX3_fair_66 : decode cX3_fair 66 = .ok (.iload 5, 2) := by decide +kernel
theorem dX3_fair_68 : decode cX3_fair 68 = .ok (.imul, 1) := by decide +kernel
theorem dX3_fair_69 : decode cX3_fair 69 = .ok (.iconst 1, 1) := by decide +kernel
theorem dX3_fair_70 : decode cX3_fair 70 = .ok (.isub, 1) := by decide +kernel
theorem dX3_fair_71 : decode cX3_fair 71 = .ok (.aload_n 0, 1) := by decide +kernel
theorem dX3_fair_72 : decode cX3_fair 72 = .ok (.getfield 110, 3) := by decide +kernel
theorem dX3_fair_75 : decode cX3_fair 75 = .ok (.imul, 1) := by decide +kernel
theorem dX3_fair_76 : decode cX3_fair 76 = .ok (.iconst 2, 1) := by decide +kernel
theorem dX3_fair_77 : decode cX3_fair 77 = .ok (.iload_n 3, 1) := by decide +kernel
theorem dX3_fair_78 : decode cX3_fair 78 = .ok (.aload_n 0, 1) := by decide +kernel
theorem dX3_fair_79 : decode cX3_fair 79 = .ok (.getfield 110, 3) := by decide +kernel
theorem dX3_fair_82 : decode cX3_fair 82 = .ok (.imul, 1) := by decide +kernel
theorem dX3_fair_83 : decode cX3_fair 83 = .ok (.aload_n 0, 1) := by decide +kernel
theorem dX3_fair_84 : decode cX3_fair 84 = .ok (.getfield 107, 3) := by decide +kernel
theorem dX3_fair_87 : decode cX3_fair 87 = .ok (.isub, 1) := by decide +kernel
theorem dX3_fair_88 : decode cX3_fair 88 = .ok (.imul, 1) := by decide +kernel
theorem dX3_fair_89 : decode cX3_fair 89 = .ok (.if_icmp .gt 8, 3) := by decide +kernel
theorem dX3_fair_92 : decode cX3_fair 92 = .ok (.iload 5, 2) := by decide +kernel
theorem dX3_fair_94 : decode cX3_fair 94 = .ok (.goto 5, 3) := by decide +kernel
theorem dX3_fair_97 : decode cX3_fair 97 = .ok (.iload 4, 2) := by decide +kernel
theorem dX3_fair_99 : decode cX3_fair 99 = .ok (.istore 4, 2) := by decide +kernel
theorem dX3_fair_101 : decode cX3_fair 101 = .ok (.iinc 5 1, 3) := by decide +kernel
theorem dX3_fair_104 : decode cX3_fair 104 = .ok (.goto (-45), 3) := by decide +kernel
theorem dX3_fair_107 : decode cX3_fair 107 = .ok (.iload 4, 2) := by decide +kernel
theorem dX3_fair_109 : decode cX3_fair 109 = .ok (.ireturn, 1) := by decide +kernel
theorem dX3_collect_0 : decode cX3_collect 0 = .ok (.aload_n 0, 1) := by decide +kernel
theorem dX3_collect_1 : decode cX3_collect 1 = .ok (.iconst 0, 1) := by decide +kernel
theorem dX3_collect_2 : decode cX3_collect 2 = .ok (.putfield 117, 3) := by decide +kernel
theorem dX3_collect_5 : decode cX3_collect 5 = .ok (.iconst 0, 1) := by decide +kernel
theorem dX3_collect_6 : decode cX3_collect 6 = .ok (.istore_n 2, 1) := by decide +kernel
theorem dX3_collect_7 : decode cX3_collect 7 = .ok (.iload_n 2, 1) := by decide +kernel
theorem dX3_collect_8 : decode cX3_collect 8 = .ok (.aload_n 0, 1) := by decide +kernel
theorem dX3_collect_9 : decode cX3_collect 9 = .ok (.getfield 77, 3) := by decide +kernel
theorem dX3_collect_12 : decode cX3_collect 12 = .ok (.if_icmp .ge 65, 3) := by decide +kernel
theorem dX3_collect_15 : decode cX3_collect 15 = .ok (.aload_n 0, 1) := by decide +kernel
theorem dX3_collect_16 : decode cX3_collect 16 = .ok (.getfield 117, 3) := by decide +kernel
theorem dX3_collect_19 : decode cX3_collect 19 = .ok (.bipush 6, 2) := by decide +kernel
theorem dX3_collect_21 : decode cX3_collect 21 = .ok (.if_icmp .ge 56, 3) := by decide +kernel
theorem dX3_collect_24 : decode cX3_collect 24 = .ok (.aload_n 0, 1) := by decide +kernel
theorem dX3_collect_25 : decode cX3_collect 25 = .ok (.getfield 28, 3) := by decide +kernel
theorem dX3_collect_28 : decode cX3_collect 28 = .ok (.bipush 12, 2) := by decide +kernel
theorem dX3_collect_30 : decode cX3_collect 30 = .ok (.iload_n 1, 1) := by decide +kernel
theorem dX3_collect_31 : decode cX3_collect 31 = .ok (.imul, 1) := by decide +kernel
theorem dX3_collect_32 : decode cX3_collect 32 = .ok (.iload_n 2, 1) := by decide +kernel
theorem dX3_collect_33 : decode cX3_collect 33 = .ok (.iadd, 1) := by decide +kernel
theorem dX3_collect_34 : decode cX3_collect 34 = .ok (.iaload, 1) := by decide +kernel
theorem dX3_collect_35 : decode cX3_collect 35 = .ok (.sipush (-900), 3) := by decide +kernel
theorem dX3_collect_38 : decode cX3_collect 38 = .ok (.if_icmp .eq 33, 3) := by decide +kernel
theorem dX3_collect_41 : decode cX3_collect 41 = .ok (.aload_n 0, 1) := by decide +kernel
theorem dX3_collect_42 : decode cX3_collect 42 = .ok (.getfield 34, 3) := by decide +kernel
theorem dX3_collect_45 : decode cX3_collect 45 = .ok (.aload_n 0, 1) := by decide +kernel
theorem dX3_collect_46 : decode cX3_collect 46 = .ok (.getfield 117, 3) := by decide +kernel
theorem dX3_collect_49 : decode cX3_collect 49 = .ok (.aload_n 0, 1) := by decide +kernel
theorem dX3_collect_50 : decode cX3_collect 50 = .ok (.getfield 28, 3) := by decide +kernel
theorem dX3_collect_53 : decode cX3_collect 53 = .ok (.bipush 12, 2) := by decide +kernel
theorem dX3_collect_55 : decode cX3_collect 55 = .ok (.iload_n 1, 1) := by decide +kernel
theorem dX3_collect_56 : decode cX3_collect 56 = .ok (.imul, 1) := by decide +kernel
theorem dX3_collect_57 : decode cX3_collect 57 = .ok (.iload_n 2, 1) := by decide +kernel
theorem dX3_collect_58 : decode cX3_collect 58 = .ok (.iadd, 1) := by decide +kernel
theorem dX3_collect_59 : decode cX3_collect 59 = .ok (.iaload, 1) := by decide +kernel
theorem dX3_collect_60 : decode cX3_collect 60 = .ok (.iastore, 1) := by decide +kernel
theorem dX3_collect_61 : decode cX3_collect 61 = .ok (.aload_n 0, 1) := by decide +kernel
theorem dX3_collect_62 : decode cX3_collect 62 = .ok (.dup, 1) := by decide +kernel
theorem dX3_collect_63 : decode cX3_collect 63 = .ok (.getfield 117, 3) := by decide +kernel
theorem dX3_collect_66 : decode cX3_collect 66 = .ok (.iconst 1, 1) := by decide +kernel
theorem dX3_collect_67 : decode cX3_collect 67 = .ok (.iadd, 1) := by decide +kernel
theorem dX3_collect_68 : decode cX3_collect 68 = .ok (.putfield 117, 3) := by decide +kernel
theorem dX3_collect_71 : decode cX3_collect 71 = .ok (.iinc 2 1, 3) := by decide +kernel
theorem dX3_collect_74 : decode cX3_collect 74 = .ok (.goto (-67), 3) := by decide +kernel
theorem dX3_collect_77 : decode cX3_collect 77 = .ok (.return_, 1) := by decide +kernel
theorem dX3_drifts_0 : decode cX3_drifts 0 = .ok (.iconst 0, 1) := by decide +kernel
theorem dX3_drifts_1 : decode cX3_drifts 1 = .ok (.istore_n 1, 1) := by decide +kernel
theorem dX3_drifts_2 : decode cX3_drifts 2 = .ok (.iconst 0, 1) := by decide +kernel
theorem dX3_drifts_3 : decode cX3_drifts 3 = .ok (.istore_n 2, 1) := by decide +kernel
theorem dX3_drifts_4 : decode cX3_drifts 4 = .ok (.iload_n 2, 1) := by decide +kernel
theorem dX3_drifts_5 : decode cX3_drifts 5 = .ok (.aload_n 0, 1) := by decide +kernel
theorem dX3_drifts_6 : decode cX3_drifts 6 = .ok (.getfield 117, 3) := by decide +kernel
theorem dX3_drifts_9 : decode cX3_drifts 9 = .ok (.if_icmp .ge 64, 3) := by decide +kernel
theorem dX3_drifts_12 : decode cX3_drifts 12 = .ok (.iconst 0, 1) := by decide +kernel
theorem dX3_drifts_13 : decode cX3_drifts 13 = .ok (.istore_n 3, 1) := by decide +kernel
theorem dX3_drifts_14 : decode cX3_drifts 14 = .ok (.iload_n 3, 1) := by decide +kernel
theorem dX3_drifts_15 : decode cX3_drifts 15 = .ok (.iload_n 2, 1) := by decide +kernel
theorem dX3_drifts_16 : decode cX3_drifts 16 = .ok (.if_icmp .ge 51, 3) := by decide +kernel
theorem dX3_drifts_19 : decode cX3_drifts 19 = .ok (.iload_n 1, 1) := by decide +kernel
theorem dX3_drifts_20 : decode cX3_drifts 20 = .ok (.aload_n 0, 1) := by decide +kernel
theorem dX3_drifts_21 : decode cX3_drifts 21 = .ok (.getfield 37, 3) := by decide +kernel
theorem dX3_drifts_24 : decode cX3_drifts 24 = .ok (.iload_n 2, 1) := by decide +kernel
theorem dX3_drifts_25 : decode cX3_drifts 25 = .ok (.iaload, 1) := by decide +kernel
theorem dX3_drifts_26 : decode cX3_drifts 26 = .ok (.aload_n 0, 1) := by decide +kernel
theorem dX3_drifts_27 : decode cX3_drifts 27 = .ok (.getfield 37, 3) := by decide +kernel
theorem dX3_drifts_30 : decode cX3_drifts 30 = .ok (.iload_n 3, 1) := by decide +kernel
theorem dX3_drifts_31 : decode cX3_drifts 31 = .ok (.iaload, 1) := by decide +kernel
theorem dX3_drifts_32 : decode cX3_drifts 32 = .ok (.if_icmp .le 7, 3) := by decide +kernel
theorem dX3_drifts_35 : decode cX3_drifts 35 = .ok (.iconst 1, 1) := by decide +kernel
theorem dX3_drifts_36 : decode cX3_drifts 36 = .ok (.goto 23, 3) := by decide +kernel
theorem dX3_drifts_39 : decode cX3_drifts 39 = .ok (.aload_n 0, 1) := by decide +kernel
theorem dX3_drifts_40 : decode cX3_drifts 40 = .ok (.getfield 37, 3) := by decide +kernel
theorem dX3_drifts_43 : decode cX3_drifts 43 = .ok (.iload_n 2, 1) := by decide +kernel
theorem dX3_drifts_44 : decode cX3_drifts 44 = .ok (.iaload, 1) := by decide +kernel
theorem dX3_drifts_45 : decode cX3_drifts 45 = .ok (.aload_n 0, 1) := by decide +kernel
theorem dX3_drifts_46 : decode cX3_drifts 46 = .ok (.getfield 37, 3) := by decide +kernel
theorem dX3_drifts_49 : decode cX3_drifts 49 = .ok (.iload_n 3, 1) := by decide +kernel
theorem dX3_drifts_50 : decode cX3_drifts 50 = .ok (.iaload, 1) := by decide +kernel
theorem dX3_drifts_51 : decode cX3_drifts 51 = .ok (.if_icmp .ge 7, 3) := by decide +kernel
theorem dX3_drifts_54 : decode cX3_drifts 54 = .ok (.iconst (-1), 1) := by decide +kernel
theorem dX3_drifts_55 : decode cX3_drifts 55 = .ok (.goto 4, 3) := by decide +kernel
theorem dX3_drifts_58 : decode cX3_drifts 58 = .ok (.iconst 0, 1) := by decide +kernel
theorem dX3_drifts_59 : decode cX3_drifts 59 = .ok (.iadd, 1) := by decide +kernel
theorem dX3_drifts_60 : decode cX3_drifts 60 = .ok (.istore_n 1, 1) := by decide +kernel
theorem dX3_drifts_61 : decode cX3_drifts 61 = .ok (.iinc 3 1, 3) := by decide +kernel
theorem dX3_drifts_64 : decode cX3_drifts 64 = .ok (.goto (-50), 3) := by decide +kernel
theorem dX3_drifts_67 : decode cX3_drifts 67 = .ok (.iinc 2 1, 3) := by decide +kernel
theorem dX3_drifts_70 : decode cX3_drifts 70 = .ok (.goto (-66), 3) := by decide +kernel
theorem dX3_drifts_73 : decode cX3_drifts 73 = .ok (.iload_n 1, 1) := by decide +kernel
theorem dX3_drifts_74 : decode cX3_drifts 74 = .ok (.ireturn, 1) := by decide +kernel
theorem dX3_take_0 : decode cX3_take 0 = .ok (.iload_n 1, 1) := by decide +kernel
theorem dX3_take_1 : decode cX3_take 1 = .ok (.istore_n 2, 1) := by decide +kernel
theorem dX3_take_2 : decode cX3_take 2 = .ok (.iconst 0, 1) := by decide +kernel
theorem dX3_take_3 : decode cX3_take 3 = .ok (.istore_n 3, 1) := by decide +kernel
theorem dX3_take_4 : decode cX3_take 4 = .ok (.iload_n 3, 1) := by decide +kernel
theorem dX3_take_5 : decode cX3_take 5 = .ok (.aload_n 0, 1) := by decide +kernel
theorem dX3_take_6 : decode cX3_take 6 = .ok (.getfield 117, 3) := by decide +kernel
theorem dX3_take_9 : decode cX3_take 9 = .ok (.if_icmp .ge 67, 3) := by decide +kernel
theorem dX3_take_12 : decode cX3_take 12 = .ok (.iload_n 2, 1) := by decide +kernel
theorem dX3_take_13 : decode cX3_take 13 = .ok (.iload_n 3, 1) := by decide +kernel
theorem dX3_take_14 : decode cX3_take 14 = .ok (.iconst 1, 1) := by decide +kernel
theorem dX3_take_15 : decode cX3_take 15 = .ok (.iadd, 1) := by decide +kernel
theorem dX3_take_16 : decode cX3_take 16 = .ok (.irem, 1) := by decide +kernel
theorem dX3_take_17 : decode cX3_take 17 = .ok (.istore 4, 2) := by decide +kernel
theorem dX3_take_19 : decode cX3_take 19 = .ok (.iload_n 2, 1) := by decide +kernel
theorem dX3_take_20 : decode cX3_take 20 = .ok (.iload_n 3, 1) := by decide +kernel
theorem dX3_take_21 : decode cX3_take 21 = .ok (.iconst 1, 1) := by decide +kernel
theorem dX3_take_22 : decode cX3_take 22 = .ok (.iadd, 1) := by decide +kernel
theorem dX3_take_23 : decode cX3_take 23 = .ok (.idiv, 1) := by decide +kernel
theorem dX3_take_24 : decode cX3_take 24 = .ok (.istore_n 2, 1) := by decide +kernel
theorem dX3_take_25 : decode cX3_take 25 = .ok (.iload_n 3, 1) := by decide +kernel
theorem dX3_take_26 : decode cX3_take 26 = .ok (.istore 5, 2) := by decide +kernel
theorem dX3_take_28 : decode cX3_take 28 = .ok (.iload 5, 2) := by decide +kernel
theorem dX3_take_30 : decode cX3_take 30 = .ok (.iload 4, 2) := by decide +kernel
theorem dX3_take_32 : decode cX3_take 32 = .ok (.if_icmp .le 25, 3) := by decide +kernel
theorem dX3_take_35 : decode cX3_take 35 = .ok (.aload_n 0, 1) := by decide +kernel
theorem dX3_take_36 : decode cX3_take 36 = .ok (.getfield 37, 3) := by decide +kernel
theorem dX3_take_39 : decode cX3_take 39 = .ok (.iload 5, 2) := by decide +kernel
theorem dX3_take_41 : decode cX3_take 41 = .ok (.aload_n 0, 1) := by decide +kernel
theorem dX3_take_42 : decode cX3_take 42 = .ok (.getfield 37, 3) := by decide +kernel
theorem dX3_take_45 : decode cX3_take 45 = .ok (.iload 5, 2) := by decide +kernel
theorem dX3_take_47 : decode cX3_take 47 = .ok (.iconst 1, 1) := by decide +kernel
theorem dX3_take_48 : decode cX3_take 48 = .ok (.isub, 1) := by decide +kernel
theorem dX3_take_49 : decode cX3_take 49 = .ok (.iaload, 1) := by decide +kernel
theorem dX3_take_50 : decode cX3_take 50 = .ok (.iastore, 1) := by decide +kernel
theorem dX3_take_51 : decode cX3_take 51 = .ok (.iinc 5 (-1), 3) := by decide +kernel
theorem dX3_take_54 : decode cX3_take 54 = .ok (.goto (-26), 3) := by decide +kernel
theorem dX3_take_57 : decode cX3_take 57 = .ok (.aload_n 0, 1) := by decide +kernel
theorem dX3_take_58 : decode cX3_take 58 = .ok (.getfield 37, 3) := by decide +kernel
theorem dX3_take_61 : decode cX3_take 61 = .ok (.iload 4, 2) := by decide +kernel
theorem dX3_take_63 : decode cX3_take 63 = .ok (.aload_n 0, 1) := by decide +kernel
theorem dX3_take_64 : decode cX3_take 64 = .ok (.getfield 34, 3) := by decide +kernel
theorem dX3_take_67 : decode cX3_take 67 = .ok (.iload_n 3, 1) := by decide +kernel
theorem dX3_take_68 : decode cX3_take 68 = .ok (.iaload, 1) := by decide +kernel
theorem dX3_take_69 : decode cX3_take 69 = .ok (.iastore, 1) := by decide +kernel
theorem dX3_take_70 : decode cX3_take 70 = .ok (.iinc 3 1, 3) := by decide +kernel
theorem dX3_take_73 : decode cX3_take 73 = .ok (.goto (-69), 3) := by decide +kernel
theorem dX3_take_76 : decode cX3_take 76 = .ok (.return_, 1) := by decide +kernel
theorem dX3_drift_0 : decode cX3_drift 0 = .ok (.iload_n 1, 1) := by decide +kernel
theorem dX3_drift_1 : decode cX3_drift 1 = .ok (.invokestatic 87, 3) := by decide +kernel
theorem dX3_drift_4 : decode cX3_drift 4 = .ok (.ifCond .eq 12, 3) := by decide +kernel
theorem dX3_drift_7 : decode cX3_drift 7 = .ok (.iload_n 2, 1) := by decide +kernel
theorem dX3_drift_8 : decode cX3_drift 8 = .ok (.iconst 0, 1) := by decide +kernel
theorem dX3_drift_9 : decode cX3_drift 9 = .ok (.iconst 2, 1) := by decide +kernel
theorem dX3_drift_10 : decode cX3_drift 10 = .ok (.invokestatic 40, 3) := by decide +kernel
theorem dX3_drift_13 : decode cX3_drift 13 = .ok (.ifCond .ne 6, 3) := by decide +kernel
theorem dX3_drift_16 : decode cX3_drift 16 = .ok (.bipush (-100), 2) := by decide +kernel
theorem dX3_drift_18 : decode cX3_drift 18 = .ok (.ireturn, 1) := by decide +kernel
theorem dX3_drift_19 : decode cX3_drift 19 = .ok (.aload_n 0, 1) := by decide +kernel
theorem dX3_drift_20 : decode cX3_drift 20 = .ok (.iload_n 1, 1) := by decide +kernel
theorem dX3_drift_21 : decode cX3_drift 21 = .ok (.invokevirtual 120, 3) := by decide +kernel
theorem dX3_drift_24 : decode cX3_drift 24 = .ok (.iload_n 2, 1) := by decide +kernel
theorem dX3_drift_25 : decode cX3_drift 25 = .ok (.iconst 2, 1) := by decide +kernel
theorem dX3_drift_26 : decode cX3_drift 26 = .ok (.if_icmp .ne 8, 3) := by decide +kernel
theorem dX3_drift_29 : decode cX3_drift 29 = .ok (.aload_n 0, 1) := by decide +kernel
theorem dX3_drift_30 : decode cX3_drift 30 = .ok (.getfield 117, 3) := by decide +kernel
theorem dX3_drift_33 : decode cX3_drift 33 = .ok (.ireturn, 1) := by decide +kernel
theorem dX3_drift_34 : decode cX3_drift 34 = .ok (.iconst 0, 1) := by decide +kernel
theorem dX3_drift_35 : decode cX3_drift 35 = .ok (.istore_n 3, 1) := by decide +kernel
theorem dX3_drift_36 : decode cX3_drift 36 = .ok (.iload_n 3, 1) := by decide +kernel
theorem dX3_drift_37 : decode cX3_drift 37 = .ok (.aload_n 0, 1) := by decide +kernel
theorem dX3_drift_38 : decode cX3_drift 38 = .ok (.getfield 117, 3) := by decide +kernel
theorem dX3_drift_41 : decode cX3_drift 41 = .ok (.if_icmp .ge 21, 3) := by decide +kernel
theorem dX3_drift_44 : decode cX3_drift 44 = .ok (.aload_n 0, 1) := by decide +kernel
theorem dX3_drift_45 : decode cX3_drift 45 = .ok (.getfield 37, 3) := by decide +kernel
theorem dX3_drift_48 : decode cX3_drift 48 = .ok (.iload_n 3, 1) := by decide +kernel
theorem dX3_drift_49 : decode cX3_drift 49 = .ok (.aload_n 0, 1) := by decide +kernel
theorem dX3_drift_50 : decode cX3_drift 50 = .ok (.getfield 34, 3) := by decide +kernel
theorem dX3_drift_53 : decode cX3_drift 53 = .ok (.iload_n 3, 1) := by decide +kernel
theorem dX3_drift_54 : decode cX3_drift 54 = .ok (.iaload, 1) := by decide +kernel
theorem dX3_drift_55 : decode cX3_drift 55 = .ok (.iastore, 1) := by decide +kernel
theorem dX3_drift_56 : decode cX3_drift 56 = .ok (.iinc 3 1, 3) := by decide +kernel
theorem dX3_drift_59 : decode cX3_drift 59 = .ok (.goto (-23), 3) := by decide +kernel
theorem dX3_drift_62 : decode cX3_drift 62 = .ok (.aload_n 0, 1) := by decide +kernel
theorem dX3_drift_63 : decode cX3_drift 63 = .ok (.invokevirtual 123, 3) := by decide +kernel
theorem dX3_drift_66 : decode cX3_drift 66 = .ok (.istore_n 3, 1) := by decide +kernel
theorem dX3_drift_67 : decode cX3_drift 67 = .ok (.iload_n 2, 1) := by decide +kernel
theorem dX3_drift_68 : decode cX3_drift 68 = .ok (.ifCond .ne 5, 3) := by decide +kernel
theorem dX3_drift_71 : decode cX3_drift 71 = .ok (.iload_n 3, 1) := by decide +kernel
theorem dX3_drift_72 : decode cX3_drift 72 = .ok (.ireturn, 1) := by decide +kernel
theorem dX3_drift_73 : decode cX3_drift 73 = .ok (.iconst 1, 1) := by decide +kernel
theorem dX3_drift_74 : decode cX3_drift 74 = .ok (.istore 4, 2) := by decide +kernel
theorem dX3_drift_76 : decode cX3_drift 76 = .ok (.iconst 2, 1) := by decide +kernel
theorem dX3_drift_77 : decode cX3_drift 77 = .ok (.istore 5, 2) := by decide +kernel
theorem dX3_drift_79 : decode cX3_drift 79 = .ok (.iload 5, 2) := by decide +kernel
theorem dX3_drift_81 : decode cX3_drift 81 = .ok (.aload_n 0, 1) := by decide +kernel
theorem dX3_drift_82 : decode cX3_drift 82 = .ok (.getfield 117, 3) := by decide +kernel
theorem dX3_drift_85 : decode cX3_drift 85 = .ok (.if_icmp .gt 16, 3) := by decide +kernel
theorem dX3_drift_88 : decode cX3_drift 88 = .ok (.iload 4, 2) := by decide +kernel
theorem dX3_drift_90 : decode cX3_drift 90 = .ok (.iload 5, 2) := by decide +kernel
theorem dX3_drift_92 : decode cX3_drift 92 = .ok (.imul, 1) := by decide +kernel
theorem dX3_drift_93 : decode cX3_drift 93 = .ok (.istore 4, 2) := by decide +kernel
theorem dX3_drift_95 : decode cX3_drift 95 = .ok (.iinc 5 1, 3) := by decide +kernel
theorem dX3_drift_98 : decode cX3_drift 98 = .ok (.goto (-19), 3) := by decide +kernel
theorem dX3_drift_101 : decode cX3_drift 101 = .ok (.iconst 0, 1) := by decide +kernel
theorem dX3_drift_102 : decode cX3_drift 102 = .ok (.istore 5, 2) := by decide +kernel
theorem dX3_drift_104 : decode cX3_drift 104 = .ok (.iconst 0, 1) := by decide +kernel
theorem dX3_drift_105 : decode cX3_drift 105 = .ok (.istore 6, 2) := by decide +kernel
theorem dX3_drift_107 : decode cX3_drift 107 = .ok (.iload 6, 2) := by decide +kernel
theorem dX3_drift_109 : decode cX3_drift 109 = .ok (.iload 4, 2) := by decide +kernel
theorem dX3_drift_111 : decode cX3_drift 111 = .ok (.if_icmp .ge 33, 3) := by decide +kernel
theorem dX3_drift_114 : decode cX3_drift 114 = .ok (.aload_n 0, 1) := by decide +kernel
theorem dX3_drift_115 : decode cX3_drift 115 = .ok (.iload 6, 2) := by decide +kernel
theorem dX3_drift_117 : decode cX3_drift 117 = .ok (.invokevirtual 127, 3) := by decide +kernel
theorem dX3_drift_120 : decode cX3_drift 120 = .ok (.iload 5, 2) := by decide +kernel
theorem dX3_drift_122 : decode cX3_drift 122 = .ok (.aload_n 0, 1) := by decide +kernel
theorem dX3_drift_123 : decode cX3_drift 123 = .ok (.invokevirtual 123, 3) := by decide +kernel
theorem dX3_drift_126 : decode cX3_drift 126 = .ok (.iload_n 3, 1) := by decide +kernel
theorem dX3_drift_127 : decode cX3_drift 127 = .ok (.if_icmp .lt 7, 3) := by decide +kernel
theorem dX3_drift_130 : decode cX3_drift 130 = .ok (.iconst 1, 1) := by decide +kernel
theorem dX3_drift_131 : decode cX3_drift 131 = .ok (.goto 4, 3) := by decide +kernel
theorem dX3_drift_134 : decode cX3_drift 134 = .ok (.iconst 0, 1) := by decide +kernel
theorem dX3_drift_135 : decode cX3_drift 135 = .ok (.iadd, 1) := by decide +kernel
theorem dX3_drift_136 : decode cX3_drift 136 = .ok (.istore 5, 2) := by decide +kernel
theorem dX3_drift_138 : decode cX3_drift 138 = .ok (.iinc 6 1, 3) := by decide +kernel
theorem dX3_drift_141 : decode cX3_drift 141 = .ok (.goto (-34), 3) := by decide +kernel
theorem dX3_drift_144 : decode cX3_drift 144 = .ok (.iload 5, 2) := by decide +kernel
theorem dX3_drift_146 : decode cX3_drift 146 = .ok (.ireturn, 1) := by decide +kernel
theorem dX3_moves_0 : decode cX3_moves 0 = .ok (.iload_n 1, 1) := by decide +kernel
theorem dX3_moves_1 : decode cX3_moves 1 = .ok (.iconst 0, 1) := by decide +kernel
theorem dX3_moves_2 : decode cX3_moves 2 = .ok (.iconst 1, 1) := by decide +kernel
theorem dX3_moves_3 : decode cX3_moves 3 = .ok (.invokestatic 40, 3) := by decide +kernel
theorem dX3_moves_6 : decode cX3_moves 6 = .ok (.ifCond .ne 6, 3) := by decide +kernel
theorem dX3_moves_9 : decode cX3_moves 9 = .ok (.bipush (-100), 2) := by decide +kernel
theorem dX3_moves_11 : decode cX3_moves 11 = .ok (.ireturn, 1) := by decide +kernel
theorem dX3_moves_12 : decode cX3_moves 12 = .ok (.iconst 0, 1) := by decide +kernel
theorem dX3_moves_13 : decode cX3_moves 13 = .ok (.istore_n 2, 1) := by decide +kernel
theorem dX3_moves_14 : decode cX3_moves 14 = .ok (.iconst 0, 1) := by decide +kernel
theorem dX3_moves_15 : decode cX3_moves 15 = .ok (.istore_n 3, 1) := by decide +kernel
theorem dX3_moves_16 : decode cX3_moves 16 = .ok (.iconst 0, 1) := by decide +kernel
theorem dX3_moves_17 : decode cX3_moves 17 = .ok (.istore 4, 2) := by decide +kernel
theorem dX3_moves_19 : decode cX3_moves 19 = .ok (.iload 4, 2) := by decide +kernel
theorem dX3_moves_21 : decode cX3_moves 21 = .ok (.aload_n 0, 1) := by decide +kernel
theorem dX3_moves_22 : decode cX3_moves 22 = .ok (.getfield 77, 3) := by decide +kernel
theorem dX3_moves_25 : decode cX3_moves 25 = .ok (.if_icmp .ge 94, 3) := by decide +kernel
theorem dX3_moves_28 : decode cX3_moves 28 = .ok (.iload_n 2, 1) := by decide +kernel
theorem dX3_moves_29 : decode cX3_moves 29 = .ok (.aload_n 0, 1) := by decide +kernel
theorem dX3_moves_30 : decode cX3_moves 30 = .ok (.iconst 0, 1) := by decide +kernel
theorem dX3_moves_31 : decode cX3_moves 31 = .ok (.iload 4, 2) := by decide +kernel
theorem dX3_moves_33 : decode cX3_moves 33 = .ok (.invokevirtual 84, 3) := by decide +kernel
theorem dX3_moves_36 : decode cX3_moves 36 = .ok (.aload_n 0, 1) := by decide +kernel
theorem dX3_moves_37 : decode cX3_moves 37 = .ok (.iconst 1, 1) := by decide +kernel
theorem dX3_moves_38 : decode cX3_moves 38 = .ok (.iload 4, 2) := by decide +kernel
theorem dX3_moves_40 : decode cX3_moves 40 = .ok (.invokevirtual 84, 3) := by decide +kernel
theorem dX3_moves_43 : decode cX3_moves 43 = .ok (.if_icmp .eq 7, 3) := by decide +kernel
theorem dX3_moves_46 : decode cX3_moves 46 = .ok (.iconst 1, 1) := by decide +kernel
theorem dX3_moves_47 : decode cX3_moves 47 = .ok (.goto 4, 3) := by decide +kernel
theorem dX3_moves_50 : decode cX3_moves 50 = .ok (.iconst 0, 1) := by decide +kernel
theorem dX3_moves_51 : decode cX3_moves 51 = .ok (.iadd, 1) := by decide +kernel
theorem dX3_moves_52 : decode cX3_moves 52 = .ok (.istore_n 2, 1) := by decide +kernel
theorem dX3_moves_53 : decode cX3_moves 53 = .ok (.iconst 0, 1) := by decide +kernel
theorem dX3_moves_54 : decode cX3_moves 54 = .ok (.istore 5, 2) := by decide +kernel
theorem dX3_moves_56 : decode cX3_moves 56 = .ok (.iload 5, 2) := by decide +kernel
theorem dX3_moves_58 : decode cX3_moves 58 = .ok (.aload_n 0, 1) := by decide +kernel
theorem dX3_moves_59 : decode cX3_moves 59 = .ok (.getfield 77, 3) := by decide +kernel
theorem dX3_moves_62 : decode cX3_moves 62 = .ok (.if_icmp .ge 51, 3) := by decide +kernel
theorem dX3_moves_65 : decode cX3_moves 65 = .ok (.iload_n 3, 1) := by decide +kernel
theorem dX3_moves_66 : decode cX3_moves 66 = .ok (.aload_n 0, 1) := by decide +kernel
theorem dX3_moves_67 : decode cX3_moves 67 = .ok (.iconst 0, 1) := by decide +kernel
theorem dX3_moves_68 : decode cX3_moves 68 = .ok (.iload 4, 2) := by decide +kernel
theorem dX3_moves_70 : decode cX3_moves 70 = .ok (.invokevirtual 84, 3) := by decide +kernel
theorem dX3_moves_73 : decode cX3_moves 73 = .ok (.aload_n 0, 1) := by decide +kernel
theorem dX3_moves_74 : decode cX3_moves 74 = .ok (.iconst 0, 1) := by decide +kernel
theorem dX3_moves_75 : decode cX3_moves 75 = .ok (.iload 5, 2) := by decide +kernel
theorem dX3_moves_77 : decode cX3_moves 77 = .ok (.invokevirtual 84, 3) := by decide +kernel
theorem dX3_moves_80 : decode cX3_moves 80 = .ok (.if_icmp .le 24, 3) := by decide +kernel
