theorem dX2_isMarkOrNone_7 : decode cX2_isMarkOrNone 7 = .ok (.iload_n 0, 1) := by decide +kernel
theorem dX2_isMarkOrNone_8 : decode cX2_isMarkOrNone 8 = .ok (.iconst 4, 1) := by decide +kernel
theorem dX2_isMarkOrNone_9 : decode cX2_isMarkOrNone 9 = .ok (.invokestatic 49, 3) := by decide +kernel
theorem dX2_isMarkOrNone_12 : decode cX2_isMarkOrNone 12 = .ok (.ifCond .eq 7, 3) := by decide +kernel
theorem dX2_isMarkOrNone_15 : decode cX2_isMarkOrNone 15 = .ok (.iconst 1, 1) := by decide +kernel
theorem dX2_isMarkOrNone_16 : decode cX2_isMarkOrNone 16 = .ok (.goto 4, 3) := by decide +kernel
theorem dX2_isMarkOrNone_19 : decode cX2_isMarkOrNone 19 = .ok (.iconst 0, 1) := by decide +kernel
theorem dX2_isMarkOrNone_20 : decode cX2_isMarkOrNone 20 = .ok (.ireturn, 1) := by decide +kernel
theorem dX2_areTwoMarkers_0 : decode cX2_areTwoMarkers 0 = .ok (.iload_n 0, 1) := by decide +kernel
theorem dX2_areTwoMarkers_1 : decode cX2_areTwoMarkers 1 = .ok (.iconst 3, 1) := by decide +kernel
theorem dX2_areTwoMarkers_2 : decode cX2_areTwoMarkers 2 = .ok (.invokestatic 49, 3) := by decide +kernel
theorem dX2_areTwoMarkers_5 : decode cX2_areTwoMarkers 5 = .ok (.ifCond .eq 20, 3) := by decide +kernel
theorem dX2_areTwoMarkers_8 : decode cX2_areTwoMarkers 8 = .ok (.iload_n 1, 1) := by decide +kernel
theorem dX2_areTwoMarkers_9 : decode cX2_areTwoMarkers 9 = .ok (.iconst 3, 1) := by decide +kernel
theorem dX2_areTwoMarkers_10 : decode cX2_areTwoMarkers 10 = .ok (.invokestatic 49, 3) := by decide +kernel
theorem dX2_areTwoMarkers_13 : decode cX2_areTwoMarkers 13 = .ok (.ifCond .eq 12, 3) := by decide +kernel
theorem dX2_areTwoMarkers_16 : decode cX2_areTwoMarkers 16 = .ok (.iload_n 0, 1) := by decide +kernel
theorem dX2_areTwoMarkers_17 : decode cX2_areTwoMarkers 17 = .ok (.iload_n 1, 1) := by decide +kernel
theorem dX2_areTwoMarkers_18 : decode cX2_areTwoMarkers 18 = .ok (.if_icmp .eq 7, 3) := by decide +kernel
theorem dX2_areTwoMarkers_21 : decode cX2_areTwoMarkers 21 = .ok (.iconst 1, 1) := by decide +kernel
theorem dX2_areTwoMarkers_22 : decode cX2_areTwoMarkers 22 = .ok (.goto 4, 3) := by decide +kernel
theorem dX2_areTwoMarkers_25 : decode cX2_areTwoMarkers 25 = .ok (.iconst 0, 1) := by decide +kernel
theorem dX2_areTwoMarkers_26 : decode cX2_areTwoMarkers 26 = .ok (.ireturn, 1) := by decide +kernel
theorem dX2_lineAt_0 : decode cX2_lineAt 0 = .ok (.iload_n 1, 1) := by decide +kernel
theorem dX2_lineAt_1 : decode cX2_lineAt 1 = .ok (.iconst 2, 1) := by decide +kernel
theorem dX2_lineAt_2 : decode cX2_lineAt 2 = .ok (.invokestatic 49, 3) := by decide +kernel
theorem dX2_lineAt_5 : decode cX2_lineAt 5 = .ok (.ifCond .eq 24, 3) := by decide +kernel
theorem dX2_lineAt_8 : decode cX2_lineAt 8 = .ok (.iload_n 2, 1) := by decide +kernel
theorem dX2_lineAt_9 : decode cX2_lineAt 9 = .ok (.iconst 4, 1) := by decide +kernel
theorem dX2_lineAt_10 : decode cX2_lineAt 10 = .ok (.invokestatic 49, 3) := by decide +kernel
theorem dX2_lineAt_13 : decode cX2_lineAt 13 = .ok (.ifCond .eq 16, 3) := by decide +kernel
theorem dX2_lineAt_16 : decode cX2_lineAt 16 = .ok (.aload_n 0, 1) := by decide +kernel
theorem dX2_lineAt_17 : decode cX2_lineAt 17 = .ok (.getfield 11, 3) := by decide +kernel
theorem dX2_lineAt_20 : decode cX2_lineAt 20 = .ok (.iload_n 1, 1) := by decide +kernel
theorem dX2_lineAt_21 : decode cX2_lineAt 21 = .ok (.iconst 4, 1) := by decide +kernel
theorem dX2_lineAt_22 : decode cX2_lineAt 22 = .ok (.imul, 1) := by decide +kernel
theorem dX2_lineAt_23 : decode cX2_lineAt 23 = .ok (.iload_n 2, 1) := by decide +kernel
theorem dX2_lineAt_24 : decode cX2_lineAt 24 = .ok (.iadd, 1) := by decide +kernel
theorem dX2_lineAt_25 : decode cX2_lineAt 25 = .ok (.aaload, 1) := by decide +kernel
theorem dX2_lineAt_26 : decode cX2_lineAt 26 = .ok (.goto 4, 3) := by decide +kernel
theorem dX2_lineAt_29 : decode cX2_lineAt 29 = .ok (.aconst_null, 1) := by decide +kernel
theorem dX2_lineAt_30 : decode cX2_lineAt 30 = .ok (.areturn, 1) := by decide +kernel
theorem dX2_workAt_0 : decode cX2_workAt 0 = .ok (.iload_n 1, 1) := by decide +kernel
theorem dX2_workAt_1 : decode cX2_workAt 1 = .ok (.aload_n 0, 1) := by decide +kernel
theorem dX2_workAt_2 : decode cX2_workAt 2 = .ok (.getfield 21, 3) := by decide +kernel
theorem dX2_workAt_5 : decode cX2_workAt 5 = .ok (.invokestatic 49, 3) := by decide +kernel
theorem dX2_workAt_8 : decode cX2_workAt 8 = .ok (.ifCond .eq 12, 3) := by decide +kernel
theorem dX2_workAt_11 : decode cX2_workAt 11 = .ok (.aload_n 0, 1) := by decide +kernel
theorem dX2_workAt_12 : decode cX2_workAt 12 = .ok (.getfield 17, 3) := by decide +kernel
theorem dX2_workAt_15 : decode cX2_workAt 15 = .ok (.iload_n 1, 1) := by decide +kernel
theorem dX2_workAt_16 : decode cX2_workAt 16 = .ok (.aaload, 1) := by decide +kernel
theorem dX2_workAt_17 : decode cX2_workAt 17 = .ok (.goto 4, 3) := by decide +kernel
theorem dX2_workAt_20 : decode cX2_workAt 20 = .ok (.aconst_null, 1) := by decide +kernel
theorem dX2_workAt_21 : decode cX2_workAt 21 = .ok (.areturn, 1) := by decide +kernel
theorem dX2_pointsBy_0 : decode cX2_pointsBy 0 = .ok (.iconst 0, 1) := by decide +kernel
theorem dX2_pointsBy_1 : decode cX2_pointsBy 1 = .ok (.istore_n 3, 1) := by decide +kernel
theorem dX2_pointsBy_2 : decode cX2_pointsBy 2 = .ok (.iconst 0, 1) := by decide +kernel
theorem dX2_pointsBy_3 : decode cX2_pointsBy 3 = .ok (.istore 4, 2) := by decide +kernel
theorem dX2_pointsBy_5 : decode cX2_pointsBy 5 = .ok (.iload 4, 2) := by decide +kernel
theorem dX2_pointsBy_7 : decode cX2_pointsBy 7 = .ok (.iconst 4, 1) := by decide +kernel
theorem dX2_pointsBy_8 : decode cX2_pointsBy 8 = .ok (.if_icmp .ge 58, 3) := by decide +kernel
theorem dX2_pointsBy_11 : decode cX2_pointsBy 11 = .ok (.aload_n 0, 1) := by decide +kernel
theorem dX2_pointsBy_12 : decode cX2_pointsBy 12 = .ok (.getfield 11, 3) := by decide +kernel
theorem dX2_pointsBy_15 : decode cX2_pointsBy 15 = .ok (.iload_n 1, 1) := by decide +kernel
theorem dX2_pointsBy_16 : decode cX2_pointsBy 16 = .ok (.iconst 4, 1) := by decide +kernel
theorem dX2_pointsBy_17 : decode cX2_pointsBy 17 = .ok (.imul, 1) := by decide +kernel
theorem dX2_pointsBy_18 : decode cX2_pointsBy 18 = .ok (.iload 4, 2) := by decide +kernel
theorem dX2_pointsBy_20 : decode cX2_pointsBy 20 = .ok (.iadd, 1) := by decide +kernel
theorem dX2_pointsBy_21 : decode cX2_pointsBy 21 = .ok (.aaload, 1) := by decide +kernel
theorem dX2_pointsBy_22 : decode cX2_pointsBy 22 = .ok (.astore 5, 2) := by decide +kernel
theorem dX2_pointsBy_24 : decode cX2_pointsBy 24 = .ok (.aload 5, 2) := by decide +kernel
theorem dX2_pointsBy_26 : decode cX2_pointsBy 26 = .ok (.aload_n 2, 1) := by decide +kernel
theorem dX2_pointsBy_27 : decode cX2_pointsBy 27 = .ok (.getfield 96, 3) := by decide +kernel
theorem dX2_pointsBy_30 : decode cX2_pointsBy 30 = .ok (.aload 5, 2) := by decide +kernel
theorem dX2_pointsBy_32 : decode cX2_pointsBy 32 = .ok (.getfield 59, 3) := by decide +kernel
theorem dX2_pointsBy_35 : decode cX2_pointsBy 35 = .ok (.iaload, 1) := by decide +kernel
theorem dX2_pointsBy_36 : decode cX2_pointsBy 36 = .ok (.invokevirtual 75, 3) := by decide +kernel
theorem dX2_pointsBy_39 : decode cX2_pointsBy 39 = .ok (.istore 6, 2) := by decide +kernel
theorem dX2_pointsBy_41 : decode cX2_pointsBy 41 = .ok (.iload 6, 2) := by decide +kernel
theorem dX2_pointsBy_43 : decode cX2_pointsBy 43 = .ok (.sipush (-900), 3) := by decide +kernel
theorem dX2_pointsBy_46 : decode cX2_pointsBy 46 = .ok (.if_icmp .eq 14, 3) := by decide +kernel
theorem dX2_pointsBy_49 : decode cX2_pointsBy 49 = .ok (.iload_n 3, 1) := by decide +kernel
theorem dX2_pointsBy_50 : decode cX2_pointsBy 50 = .ok (.aload 5, 2) := by decide +kernel
theorem dX2_pointsBy_52 : decode cX2_pointsBy 52 = .ok (.getfield 62, 3) := by decide +kernel
theorem dX2_pointsBy_55 : decode cX2_pointsBy 55 = .ok (.iload 6, 2) := by decide +kernel
theorem dX2_pointsBy_57 : decode cX2_pointsBy 57 = .ok (.imul, 1) := by decide +kernel
theorem dX2_pointsBy_58 : decode cX2_pointsBy 58 = .ok (.iadd, 1) := by decide +kernel
theorem dX2_pointsBy_59 : decode cX2_pointsBy 59 = .ok (.istore_n 3, 1) := by decide +kernel
theorem dX2_pointsBy_60 : decode cX2_pointsBy 60 = .ok (.iinc 4 1, 3) := by decide +kernel
theorem dX2_pointsBy_63 : decode cX2_pointsBy 63 = .ok (.goto (-58), 3) := by decide +kernel
theorem dX2_pointsBy_66 : decode cX2_pointsBy 66 = .ok (.iload_n 3, 1) := by decide +kernel
theorem dX2_pointsBy_67 : decode cX2_pointsBy 67 = .ok (.ireturn, 1) := by decide +kernel
theorem dX2_countSensible_0 : decode cX2_countSensible 0 = .ok (.iconst 0, 1) := by decide +kernel
theorem dX2_countSensible_1 : decode cX2_countSensible 1 = .ok (.istore_n 2, 1) := by decide +kernel
theorem dX2_countSensible_2 : decode cX2_countSensible 2 = .ok (.iconst 0, 1) := by decide +kernel
theorem dX2_countSensible_3 : decode cX2_countSensible 3 = .ok (.istore_n 3, 1) := by decide +kernel
theorem dX2_countSensible_4 : decode cX2_countSensible 4 = .ok (.iload_n 3, 1) := by decide +kernel
theorem dX2_countSensible_5 : decode cX2_countSensible 5 = .ok (.iconst 4, 1) := by decide +kernel
theorem dX2_countSensible_6 : decode cX2_countSensible 6 = .ok (.if_icmp .ge 28, 3) := by decide +kernel
theorem dX2_countSensible_9 : decode cX2_countSensible 9 = .ok (.aload_n 0, 1) := by decide +kernel
theorem dX2_countSensible_10 : decode cX2_countSensible 10 = .ok (.getfield 11, 3) := by decide +kernel
theorem dX2_countSensible_13 : decode cX2_countSensible 13 = .ok (.iload_n 1, 1) := by decide +kernel
theorem dX2_countSensible_14 : decode cX2_countSensible 14 = .ok (.iconst 4, 1) := by decide +kernel
theorem dX2_countSensible_15 : decode cX2_countSensible 15 = .ok (.imul, 1) := by decide +kernel
theorem dX2_countSensible_16 : decode cX2_countSensible 16 = .ok (.iload_n 3, 1) := by decide +kernel
theorem dX2_countSensible_17 : decode cX2_countSensible 17 = .ok (.iadd, 1) := by decide +kernel
theorem dX2_countSensible_18 : decode cX2_countSensible 18 = .ok (.aaload, 1) := by decide +kernel
theorem dX2_countSensible_19 : decode cX2_countSensible 19 = .ok (.invokevirtual 85, 3) := by decide +kernel
theorem dX2_countSensible_22 : decode cX2_countSensible 22 = .ok (.ifCond .eq 6, 3) := by decide +kernel
theorem dX2_countSensible_25 : decode cX2_countSensible 25 = .ok (.iinc 2 1, 3) := by decide +kernel
theorem dX2_countSensible_28 : decode cX2_countSensible 28 = .ok (.iinc 3 1, 3) := by decide +kernel
theorem dX2_countSensible_31 : decode cX2_countSensible 31 = .ok (.goto (-27), 3) := by decide +kernel
theorem dX2_countSensible_34 : decode cX2_countSensible 34 = .ok (.iload_n 2, 1) := by decide +kernel
theorem dX2_countSensible_35 : decode cX2_countSensible 35 = .ok (.ireturn, 1) := by decide +kernel
theorem dX2_countAnchors_0 : decode cX2_countAnchors 0 = .ok (.iconst 0, 1) := by decide +kernel
theorem dX2_countAnchors_1 : decode cX2_countAnchors 1 = .ok (.istore_n 1, 1) := by decide +kernel
theorem dX2_countAnchors_2 : decode cX2_countAnchors 2 = .ok (.iconst 0, 1) := by decide +kernel
theorem dX2_countAnchors_3 : decode cX2_countAnchors 3 = .ok (.istore_n 2, 1) := by decide +kernel
theorem dX2_countAnchors_4 : decode cX2_countAnchors 4 = .ok (.iload_n 2, 1) := by decide +kernel
theorem dX2_countAnchors_5 : decode cX2_countAnchors 5 = .ok (.aload_n 0, 1) := by decide +kernel
theorem dX2_countAnchors_6 : decode cX2_countAnchors 6 = .ok (.getfield 21, 3) := by decide +kernel
theorem dX2_countAnchors_9 : decode cX2_countAnchors 9 = .ok (.if_icmp .ge 24, 3) := by decide +kernel
theorem dX2_countAnchors_12 : decode cX2_countAnchors 12 = .ok (.aload_n 0, 1) := by decide +kernel
theorem dX2_countAnchors_13 : decode cX2_countAnchors 13 = .ok (.getfield 17, 3) := by decide +kernel
theorem dX2_countAnchors_16 : decode cX2_countAnchors 16 = .ok (.iload_n 2, 1) := by decide +kernel
theorem dX2_countAnchors_17 : decode cX2_countAnchors 17 = .ok (.aaload, 1) := by decide +kernel
theorem dX2_countAnchors_18 : decode cX2_countAnchors 18 = .ok (.invokevirtual 184, 3) := by decide +kernel
theorem dX2_countAnchors_21 : decode cX2_countAnchors 21 = .ok (.ifCond .eq 6, 3) := by decide +kernel
theorem dX2_countAnchors_24 : decode cX2_countAnchors 24 = .ok (.iinc 1 1, 3) := by decide +kernel
theorem dX2_countAnchors_27 : decode cX2_countAnchors 27 = .ok (.iinc 2 1, 3) := by decide +kernel
theorem dX2_countAnchors_30 : decode cX2_countAnchors 30 = .ok (.goto (-26), 3) := by decide +kernel
theorem dX2_countAnchors_33 : decode cX2_countAnchors 33 = .ok (.iload_n 1, 1) := by decide +kernel
theorem dX2_countAnchors_34 : decode cX2_countAnchors 34 = .ok (.ireturn, 1) := by decide +kernel
theorem dX2_countMarks_0 : decode cX2_countMarks 0 = .ok (.iconst 0, 1) := by decide +kernel
theorem dX2_countMarks_1 : decode cX2_countMarks 1 = .ok (.istore_n 1, 1) := by decide +kernel
theorem dX2_countMarks_2 : decode cX2_countMarks 2 = .ok (.iconst 0, 1) := by decide +kernel
theorem dX2_countMarks_3 : decode cX2_countMarks 3 = .ok (.istore_n 2, 1) := by decide +kernel
theorem dX2_countMarks_4 : decode cX2_countMarks 4 = .ok (.iload_n 2, 1) := by decide +kernel
theorem dX2_countMarks_5 : decode cX2_countMarks 5 = .ok (.aload_n 0, 1) := by decide +kernel
theorem dX2_countMarks_6 : decode cX2_countMarks 6 = .ok (.getfield 21, 3) := by decide +kernel
theorem dX2_countMarks_9 : decode cX2_countMarks 9 = .ok (.if_icmp .ge 38, 3) := by decide +kernel
theorem dX2_countMarks_12 : decode cX2_countMarks 12 = .ok (.iconst 0, 1) := by decide +kernel
theorem dX2_countMarks_13 : decode cX2_countMarks 13 = .ok (.istore_n 3, 1) := by decide +kernel
theorem dX2_countMarks_14 : decode cX2_countMarks 14 = .ok (.iload_n 3, 1) := by decide +kernel
theorem dX2_countMarks_15 : decode cX2_countMarks 15 = .ok (.iconst 3, 1) := by decide +kernel
theorem dX2_countMarks_16 : decode cX2_countMarks 16 = .ok (.if_icmp .ge 25, 3) := by decide +kernel
theorem dX2_countMarks_19 : decode cX2_countMarks 19 = .ok (.aload_n 0, 1) := by decide +kernel
theorem dX2_countMarks_20 : decode cX2_countMarks 20 = .ok (.getfield 17, 3) := by decide +kernel
theorem dX2_countMarks_23 : decode cX2_countMarks 23 = .ok (.iload_n 2, 1) := by decide +kernel
theorem dX2_countMarks_24 : decode cX2_countMarks 24 = .ok (.aaload, 1) := by decide +kernel
theorem dX2_countMarks_25 : decode cX2_countMarks 25 = .ok (.iload_n 3, 1) := by decide +kernel
theorem dX2_countMarks_26 : decode cX2_countMarks 26 = .ok (.invokevirtual 144, 3) := by decide +kernel
theorem dX2_countMarks_29 : decode cX2_countMarks 29 = .ok (.ifCond .eq 6, 3) := by decide +kernel
theorem dX2_countMarks_32 : decode cX2_countMarks 32 = .ok (.iinc 1 1, 3) := by decide +kernel
theorem dX2_countMarks_35 : decode cX2_countMarks 35 = .ok (.iinc 3 1, 3) := by decide +kernel
theorem dX2_countMarks_38 : decode cX2_countMarks 38 = .ok (.goto (-24), 3) := by decide +kernel
theorem dX2_countMarks_41 : decode cX2_countMarks 41 = .ok (.iinc 2 1, 3) := by decide +kernel
theorem dX2_countMarks_44 : decode cX2_countMarks 44 = .ok (.goto (-40), 3) := by decide +kernel
theorem dX2_countMarks_47 : decode cX2_countMarks 47 = .ok (.iload_n 1, 1) := by decide +kernel
theorem dX2_countMarks_48 : decode cX2_countMarks 48 = .ok (.ireturn, 1) := by decide +kernel
theorem dX2_countMoved_0 : decode cX2_countMoved 0 = .ok (.iconst 0, 1) := by decide +kernel
theorem dX2_countMoved_1 : decode cX2_countMoved 1 = .ok (.istore_n 1, 1) := by decide +kernel
theorem dX2_countMoved_2 : decode cX2_countMoved 2 = .ok (.iconst 0, 1) := by decide +kernel
theorem dX2_countMoved_3 : decode cX2_countMoved 3 = .ok (.istore_n 2, 1) := by decide +kernel
theorem dX2_countMoved_4 : decode cX2_countMoved 4 = .ok (.iload_n 2, 1) := by decide +kernel
theorem dX2_countMoved_5 : decode cX2_countMoved 5 = .ok (.aload_n 0, 1) := by decide +kernel
theorem dX2_countMoved_6 : decode cX2_countMoved 6 = .ok (.getfield 21, 3) := by decide +kernel
theorem dX2_countMoved_9 : decode cX2_countMoved 9 = .ok (.if_icmp .ge 27, 3) := by decide +kernel
theorem dX2_countMoved_12 : decode cX2_countMoved 12 = .ok (.aload_n 0, 1) := by decide +kernel
theorem dX2_countMoved_13 : decode cX2_countMoved 13 = .ok (.getfield 36, 3) := by decide +kernel
theorem dX2_countMoved_16 : decode cX2_countMoved 16 = .ok (.iload_n 2, 1) := by decide +kernel
theorem dX2_countMoved_17 : decode cX2_countMoved 17 = .ok (.iaload, 1) := by decide +kernel
theorem dX2_countMoved_18 : decode cX2_countMoved 18 = .ok (.aload_n 0, 1) := by decide +kernel
theorem dX2_countMoved_19 : decode cX2_countMoved 19 = .ok (.getfield 39, 3) := by decide +kernel
theorem dX2_countMoved_22 : decode cX2_countMoved 22 = .ok (.iload_n 2, 1) := by decide +kernel
theorem dX2_countMoved_23 : decode cX2_countMoved 23 = .ok (.iaload, 1) := by decide +kernel
theorem dX2_countMoved_24 : decode cX2_countMoved 24 = .ok (.if_icmp .eq 6, 3) := by decide +kernel
theorem dX2_countMoved_27 : decode cX2_countMoved 27 = .ok (.iinc 1 1, 3) := by decide +kernel
theorem dX2_countMoved_30 : decode cX2_countMoved 30 = .ok (.iinc 2 1, 3) := by decide +kernel
theorem dX2_countMoved_33 : decode cX2_countMoved 33 = .ok (.goto (-29), 3) := by decide +kernel
theorem dX2_countMoved_36 : decode cX2_countMoved 36 = .ok (.iload_n 1, 1) := by decide +kernel
theorem dX2_countMoved_37 : decode cX2_countMoved 37 = .ok (.ireturn, 1) := by decide +kernel
theorem dX2_countTurned_0 : decode cX2_countTurned 0 = .ok (.iconst 0, 1) := by decide +kernel
theorem dX2_countTurned_1 : decode cX2_countTurned 1 = .ok (.istore_n 1, 1) := by decide +kernel
theorem dX2_countTurned_2 : decode cX2_countTurned 2 = .ok (.iconst 0, 1) := by decide +kernel
theorem dX2_countTurned_3 : decode cX2_countTurned 3 = .ok (.istore_n 2, 1) := by decide +kernel
theorem dX2_countTurned_4 : decode cX2_countTurned 4 = .ok (.iload_n 2, 1) := by decide +kernel
theorem dX2_countTurned_5 : decode cX2_countTurned 5 = .ok (.aload_n 0, 1) := by decide +kernel
theorem dX2_countTurned_6 : decode cX2_countTurned 6 = .ok (.getfield 21, 3) := by decide +kernel
theorem dX2_countTurned_9 : decode cX2_countTurned 9 = .ok (.if_icmp .ge 58, 3) := by decide +kernel
theorem dX2_countTurned_12 : decode cX2_countTurned 12 = .ok (.iconst 0, 1) := by decide +kernel
theorem dX2_countTurned_13 : decode cX2_countTurned 13 = .ok (.istore_n 3, 1) := by decide +kernel
theorem dX2_countTurned_14 : decode cX2_countTurned 14 = .ok (.iload_n 3, 1) := by decide +kernel
theorem dX2_countTurned_15 : decode cX2_countTurned 15 = .ok (.aload_n 0, 1) := by decide +kernel
theorem dX2_countTurned_16 : decode cX2_countTurned 16 = .ok (.getfield 21, 3) := by decide +kernel
theorem dX2_countTurned_19 : decode cX2_countTurned 19 = .ok (.if_icmp .ge 42, 3) := by decide +kernel
theorem dX2_countTurned_22 : decode cX2_countTurned 22 = .ok (.aload_n 0, 1) := by decide +kernel
theorem dX2_countTurned_23 : decode cX2_countTurned 23 = .ok (.getfield 36, 3) := by decide +kernel
theorem dX2_countTurned_26 : decode cX2_countTurned 26 = .ok (.iload_n 2, 1) := by decide +kernel
theorem dX2_countTurned_27 : decode cX2_countTurned 27 = .ok (.iaload, 1) := by decide +kernel
theorem dX2_countTurned_28 : decode cX2_countTurned 28 = .ok (.aload_n 0, 1) := by decide +kernel
theorem dX2_countTurned_29 : decode cX2_countTurned 29 = .ok (.getfield 36, 3) := by decide +kernel
theorem dX2_countTurned_32 : decode cX2_countTurned 32 = .ok (.iload_n 3, 1) := by decide +kernel
theorem dX2_countTurned_33 : decode cX2_countTurned 33 = .ok (.iaload, 1) := by decide +kernel
theorem dX2_countTurned_34 : decode cX2_countTurned 34 = .ok (.if_icmp .le 21, 3) := by decide +kernel
theorem dX2_countTurned_37 : decode cX2_countTurned 37 = .ok (.aload_n 0, 1) := by decide +kernel
theorem dX2_countTurned_38 : decode cX2_countTurned 38 = .ok (.getfield 39, 3) := by decide +kernel
theorem dX2_countTurned_41 : decode cX2_countTurned 41 = .ok (.iload_n 2, 1) := by decide +kernel
theorem dX2_countTurned_42 : decode cX2_countTurned 42 = .ok (.iaload, 1) := by decide +kernel
theorem dX2_countTurned_43 : decode cX2_countTurned 43 = .ok (.aload_n 0, 1) := by decide +kernel
theorem dX2_countTurned_44 : decode cX2_countTurned 44 = .ok (.getfield 39, 3) := by decide +kernel
theorem dX2_countTurned_47 : decode cX2_countTurned 47 = .ok (.iload_n 3, 1) := by decide +kernel
theorem dX2_countTurned_48 : decode cX2_countTurned 48 = .ok (.iaload, 1) := by decide +kernel
theorem dX2_countTurned_49 : decode cX2_countTurned 49 = .ok (.if_icmp .ge 6, 3) := by decide +kernel
theorem dX2_countTurned_52 : decode cX2_countTurned 52 = .ok (.iinc 1 1, 3) := by decide +kernel
theorem dX2_countTurned_55 : decode cX2_countTurned 55 = .ok (.iinc 3 1, 3) := by decide +kernel
theorem dX2_countTurned_58 : decode cX2_countTurned 58 = .ok (.goto (-44), 3) := by decide +kernel
theorem dX2_countTurned_61 : decode cX2_countTurned 61 = .ok (.iinc 2 1, 3) := by decide +kernel
theorem dX2_countTurned_64 : decode cX2_countTurned 64 = .ok (.goto (-60), 3) := by decide +kernel
theorem dX2_countTurned_67 : decode cX2_countTurned 67 = .ok (.iload_n 1, 1) := by decide +kernel
theorem dX2_countTurned_68 : decode cX2_countTurned 68 = .ok (.ireturn, 1) := by decide +kernel
theorem dX2_countBothMarked_0 : decode cX2_countBothMarked 0 = .ok (.iconst 0, 1) := by decide +kernel
theorem dX2_countBothMarked_1 : decode cX2_countBothMarked 1 = .ok (.istore_n 3, 1) := by decide +kernel
theorem dX2_countBothMarked_2 : decode cX2_countBothMarked 2 = .ok (.iconst 0, 1) := by decide +kernel
theorem dX2_countBothMarked_3 : decode cX2_countBothMarked 3 = .ok (.istore 4, 2) := by decide +kernel
theorem dX2_countBothMarked_5 : decode cX2_countBothMarked 5 = .ok (.iload 4, 2) := by decide +kernel
theorem dX2_countBothMarked_7 : decode cX2_countBothMarked 7 = .ok (.aload_n 0, 1) := by decide +kernel
theorem dX2_countBothMarked_8 : decode cX2_countBothMarked 8 = .ok (.getfield 21, 3) := by decide +kernel
theorem dX2_countBothMarked_11 : decode cX2_countBothMarked 11 = .ok (.if_icmp .ge 27, 3) := by decide +kernel
theorem dX2_countBothMarked_14 : decode cX2_countBothMarked 14 = .ok (.aload_n 0, 1) := by decide +kernel
theorem dX2_countBothMarked_15 : decode cX2_countBothMarked 15 = .ok (.getfield 17, 3) := by decide +kernel
theorem dX2_countBothMarked_18 : decode cX2_countBothMarked 18 = .ok (.iload 4, 2) := by decide +kernel
theorem dX2_countBothMarked_20 : decode cX2_countBothMarked 20 = .ok (.aaload, 1) := by decide +kernel
theorem dX2_countBothMarked_21 : decode cX2_countBothMarked 21 = .ok (.iload_n 1, 1) := by decide +kernel
theorem dX2_countBothMarked_22 : decode cX2_countBothMarked 22 = .ok (.iload_n 2, 1) := by decide +kernel
theorem dX2_countBothMarked_23 : decode cX2_countBothMarked 23 = .ok (.invokevirtual 127, 3) := by decide +kernel
theorem dX2_countBothMarked_26 : decode cX2_countBothMarked 26 = .ok (.ifCond .eq 6, 3) := by decide +kernel
theorem dX2_countBothMarked_29 : decode cX2_countBothMarked 29 = .ok (.iinc 3 1, 3) := by decide +kernel
theorem dX2_countBothMarked_32 : decode cX2_countBothMarked 32 = .ok (.iinc 4 1, 3) := by decide +kernel
theorem dX2_countBothMarked_35 : decode cX2_countBothMarked 35 = .ok (.goto (-30), 3) := by decide +kernel
theorem dX2_countBothMarked_38 : decode cX2_countBothMarked 38 = .ok (.iload_n 3, 1) := by decide +kernel
theorem dX2_countBothMarked_39 : decode cX2_countBothMarked 39 = .ok (.ireturn, 1) := by decide +kernel
theorem dX2_countAlike_0 : decode cX2_countAlike 0 = .ok (.iconst 0, 1) := by decide +kernel
theorem dX2_countAlike_1 : decode cX2_countAlike 1 = .ok (.istore_n 3, 1) := by decide +kernel
theorem dX2_countAlike_2 : decode cX2_countAlike 2 = .ok (.iconst 0, 1) := by decide +kernel
theorem dX2_countAlike_3 : decode cX2_countAlike 3 = .ok (.istore 4, 2) := by decide +kernel
theorem dX2_countAlike_5 : decode cX2_countAlike 5 = .ok (.iload 4, 2) := by decide +kernel
theorem dX2_countAlike_7 : decode cX2_countAlike 7 = .ok (.aload_n 0, 1) := by decide +kernel
theorem dX2_countAlike_8 : decode cX2_countAlike 8 = .ok (.getfield 21, 3) := by decide +kernel
theorem dX2_countAlike_11 : decode cX2_countAlike 11 = .ok (.if_icmp .ge 54, 3) := by decide +kernel
theorem dX2_countAlike_14 : decode cX2_countAlike 14 = .ok (.aload_n 0, 1) := by decide +kernel
theorem dX2_countAlike_15 : decode cX2_countAlike 15 = .ok (.getfield 17, 3) := by decide +kernel
theorem dX2_countAlike_18 : decode cX2_countAlike 18 = .ok (.iload 4, 2) := by decide +kernel
theorem dX2_countAlike_20 : decode cX2_countAlike 20 = .ok (.aaload, 1) := by decide +kernel
theorem dX2_countAlike_21 : decode cX2_countAlike 21 = .ok (.iload_n 1, 1) := by decide +kernel
theorem dX2_countAlike_22 : decode cX2_countAlike 22 = .ok (.iload_n 2, 1) := by decide +kernel
theorem dX2_countAlike_23 : decode cX2_countAlike 23 = .ok (.invokevirtual 127, 3) := by decide +kernel
theorem dX2_countAlike_26 : decode cX2_countAlike 26 = .ok (.ifCond .eq 33, 3) := by decide +kernel
theorem dX2_countAlike_29 : decode cX2_countAlike 29 = .ok (.aload_n 0, 1) := by decide +kernel
theorem dX2_countAlike_30 : decode cX2_countAlike 30 = .ok (.getfield 17, 3) := by decide +kernel
theorem dX2_countAlike_33 : decode cX2_countAlike 33 = .ok (.iload 4, 2) := by decide +kernel
theorem dX2_countAlike_35 : decode cX2_countAlike 35 = .ok (.aaload, 1) := by decide +kernel
theorem dX2_countAlike_36 : decode cX2_countAlike 36 = .ok (.getfield 107, 3) := by decide +kernel
theorem dX2_countAlike_39 : decode cX2_countAlike 39 = .ok (.iload_n 1, 1) := by decide +kernel
theorem dX2_countAlike_40 : decode cX2_countAlike 40 = .ok (.iaload, 1) := by decide +kernel
theorem dX2_countAlike_41 : decode cX2_countAlike 41 = .ok (.aload_n 0, 1) := by decide +kernel
theorem dX2_countAlike_42 : decode cX2_countAlike 42 = .ok (.getfield 17, 3) := by decide +kernel
theorem dX2_countAlike_45 : decode cX2_countAlike 45 = .ok (.iload 4, 2) := by decide +kernel
theorem dX2_countAlike_47 : decode cX2_countAlike 47 = .ok (.aaload, 1) := by decide +kernel
theorem dX2_countAlike_48 : decode cX2_countAlike 48 = .ok (.getfield 107, 3) := by decide +kernel
theorem dX2_countAlike_51 : decode cX2_countAlike 51 = .ok (.iload_n 2, 1) := by decide +kernel
theorem dX2_countAlike_52 : decode cX2_countAlike 52 = .ok (.iaload, 1) := by decide +kernel
theorem dX2_countAlike_53 : decode cX2_countAlike 53 = .ok (.if_icmp .ne 6, 3) := by decide +kernel
theorem dX2_countAlike_56 : decode cX2_countAlike 56 = .ok (.iinc 3 1, 3) := by decide +kernel
theorem dX2_countAlike_59 : decode cX2_countAlike 59 = .ok (.iinc 4 1, 3) := by decide +kernel
theorem dX2_countAlike_62 : decode cX2_countAlike 62 = .ok (.goto (-57), 3) := by decide +kernel
theorem dX2_countAlike_65 : decode cX2_countAlike 65 = .ok (.iload_n 3, 1) := by decide +kernel
theorem dX2_countAlike_66 : decode cX2_countAlike 66 = .ok (.ireturn, 1) := by decide +kernel
theorem dX2_chanceOfAlike_0 : decode cX2_chanceOfAlike 0 = .ok (.iconst 0, 1) := by decide +kernel
theorem dX2_chanceOfAlike_1 : decode cX2_chanceOfAlike 1 = .ok (.istore_n 3, 1) := by decide +kernel
theorem dX2_chanceOfAlike_2 : decode cX2_chanceOfAlike 2 = .ok (.iconst 0, 1) := by decide +kernel
theorem dX2_chanceOfAlike_3 : decode cX2_chanceOfAlike 3 = .ok (.istore 4, 2) := by decide +kernel
theorem dX2_chanceOfAlike_5 : decode cX2_chanceOfAlike 5 = .ok (.iload 4, 2) := by decide +kernel
theorem dX2_chanceOfAlike_7 : decode cX2_chanceOfAlike 7 = .ok (.iconst 4, 1) := by decide +kernel
theorem dX2_chanceOfAlike_8 : decode cX2_chanceOfAlike 8 = .ok (.if_icmp .ge 29, 3) := by decide +kernel
theorem dX2_chanceOfAlike_11 : decode cX2_chanceOfAlike 11 = .ok (.iload_n 3, 1) := by decide +kernel
theorem dX2_chanceOfAlike_12 : decode cX2_chanceOfAlike 12 = .ok (.aload_n 0, 1) := by decide +kernel
theorem dX2_chanceOfAlike_13 : decode cX2_chanceOfAlike 13 = .ok (.iload_n 1, 1) := by decide +kernel
theorem dX2_chanceOfAlike_14 : decode cX2_chanceOfAlike 14 = .ok (.iload_n 2, 1) := by decide +kernel
theorem dX2_chanceOfAlike_15 : decode cX2_chanceOfAlike 15 = .ok (.iload 4, 2) := by decide +kernel
theorem dX2_chanceOfAlike_17 : decode cX2_chanceOfAlike 17 = .ok (.invokevirtual 187, 3) := by decide +kernel
theorem dX2_chanceOfAlike_20 : decode cX2_chanceOfAlike 20 = .ok (.aload_n 0, 1) := by decide +kernel
theorem dX2_chanceOfAlike_21 : decode cX2_chanceOfAlike 21 = .ok (.iload_n 2, 1) := by decide +kernel
theorem dX2_chanceOfAlike_22 : decode cX2_chanceOfAlike 22 = .ok (.iload_n 1, 1) := by decide +kernel
theorem dX2_chanceOfAlike_23 : decode cX2_chanceOfAlike 23 = .ok (.iload 4, 2) := by decide +kernel
theorem dX2_chanceOfAlike_25 : decode cX2_chanceOfAlike 25 = .ok (.invokevirtual 187, 3) := by decide +kernel
theorem dX2_chanceOfAlike_28 : decode cX2_chanceOfAlike 28 = .ok (.imul, 1) := by decide +kernel
theorem dX2_chanceOfAlike_29 : decode cX2_chanceOfAlike 29 = .ok (.iadd, 1) := by decide +kernel
theorem dX2_chanceOfAlike_30 : decode cX2_chanceOfAlike 30 = .ok (.istore_n 3, 1) := by decide +kernel
theorem dX2_chanceOfAlike_31 : decode cX2_chanceOfAlike 31 = .ok (.iinc 4 1, 3) := by decide +kernel
theorem dX2_chanceOfAlike_34 : decode cX2_chanceOfAlike 34 = .ok (.goto (-29), 3) := by decide +kernel
theorem dX2_chanceOfAlike_37 : decode cX2_chanceOfAlike 37 = .ok (.iload_n 3, 1) := by decide +kernel
theorem dX2_chanceOfAlike_38 : decode cX2_chanceOfAlike 38 = .ok (.ireturn, 1) := by decide +kernel
theorem dX2_countGave_0 : decode cX2_countGave 0 = .ok (.iconst 0, 1) := by decide +kernel
theorem dX2_countGave_1 : decode cX2_countGave 1 = .ok (.istore 4, 2) := by decide +kernel
theorem dX2_countGave_3 : decode cX2_countGave 3 = .ok (.iconst 0, 1) := by decide +kernel
theorem dX2_countGave_4 : decode cX2_countGave 4 = .ok (.istore 5, 2) := by decide +kernel
theorem dX2_countGave_6 : decode cX2_countGave 6 = .ok (.iload 5, 2) := by decide +kernel
theorem dX2_countGave_8 : decode cX2_countGave 8 = .ok (.aload_n 0, 1) := by decide +kernel
theorem dX2_countGave_9 : decode cX2_countGave 9 = .ok (.getfield 21, 3) := by decide +kernel
theorem dX2_countGave_12 : decode cX2_countGave 12 = .ok (.if_icmp .ge 43, 3) := by decide +kernel
theorem dX2_countGave_15 : decode cX2_countGave 15 = .ok (.aload_n 0, 1) := by decide +kernel
theorem dX2_countGave_16 : decode cX2_countGave 16 = .ok (.getfield 17, 3) := by decide +kernel
theorem dX2_countGave_19 : decode cX2_countGave 19 = .ok (.iload 5, 2) := by decide +kernel
theorem dX2_countGave_21 : decode cX2_countGave 21 = .ok (.aaload, 1) := by decide +kernel
theorem dX2_countGave_22 : decode cX2_countGave 22 = .ok (.iload_n 1, 1) := by decide +kernel
theorem dX2_countGave_23 : decode cX2_countGave 23 = .ok (.iload_n 2, 1) := by decide +kernel
theorem dX2_countGave_24 : decode cX2_countGave 24 = .ok (.invokevirtual 127, 3) := by decide +kernel
theorem dX2_countGave_27 : decode cX2_countGave 27 = .ok (.ifCond .eq 22, 3) := by decide +kernel
theorem dX2_countGave_30 : decode cX2_countGave 30 = .ok (.aload_n 0, 1) := by decide +kernel
theorem dX2_countGave_31 : decode cX2_countGave 31 = .ok (.getfield 17, 3) := by decide +kernel
theorem dX2_countGave_34 : decode cX2_countGave 34 = .ok (.iload 5, 2) := by decide +kernel
theorem dX2_countGave_36 : decode cX2_countGave 36 = .ok (.aaload, 1) := by decide +kernel
theorem dX2_countGave_37 : decode cX2_countGave 37 = .ok (.getfield 107, 3) := by decide +kernel
theorem dX2_countGave_40 : decode cX2_countGave 40 = .ok (.iload_n 1, 1) := by decide +kernel
theorem dX2_countGave_41 : decode cX2_countGave 41 = .ok (.iaload, 1) := by decide +kernel
theorem dX2_countGave_42 : decode cX2_countGave 42 = .ok (.iload_n 3, 1) := by decide +kernel
theorem dX2_countGave_43 : decode cX2_countGave 43 = .ok (.if_icmp .ne 6, 3) := by decide +kernel
theorem dX2_countGave_46 : decode cX2_countGave 46 = .ok (.iinc 4 1, 3) := by decide +kernel
theorem dX2_countGave_49 : decode cX2_countGave 49 = .ok (.iinc 5 1, 3) := by decide +kernel
theorem dX2_countGave_52 : decode cX2_countGave 52 = .ok (.goto (-46), 3) := by decide +kernel
theorem dX2_countGave_55 : decode cX2_countGave 55 = .ok (.iload 4, 2) := by decide +kernel
theorem dX2_countGave_57 : decode cX2_countGave 57 = .ok (.ireturn, 1) := by decide +kernel
theorem dX2_countMarkedAnchors_0 : decode cX2_countMarkedAnchors 0 = .ok (.iconst 0, 1) := by decide +kernel
theorem dX2_countMarkedAnchors_1 : decode cX2_countMarkedAnchors 1 = .ok (.istore_n 2, 1) := by decide +kernel
theorem dX2_countMarkedAnchors_2 : decode cX2_countMarkedAnchors 2 = .ok (.iconst 0, 1) := by decide +kernel
theorem dX2_countMarkedAnchors_3 : decode cX2_countMarkedAnchors 3 = .ok (.istore_n 3, 1) := by decide +kernel
theorem dX2_countMarkedAnchors_4 : decode cX2_countMarkedAnchors 4 = .ok (.iload_n 3, 1) := by decide +kernel
theorem dX2_countMarkedAnchors_5 : decode cX2_countMarkedAnchors 5 = .ok (.aload_n 0, 1) := by decide +kernel
theorem dX2_countMarkedAnchors_6 : decode cX2_countMarkedAnchors 6 = .ok (.getfield 21, 3) := by decide +kernel
theorem dX2_countMarkedAnchors_9 : decode cX2_countMarkedAnchors 9 = .ok (.if_icmp .ge 37, 3) := by decide +kernel
theorem dX2_countMarkedAnchors_12 : decode cX2_countMarkedAnchors 12 = .ok (.aload_n 0, 1) := by decide +kernel
theorem dX2_countMarkedAnchors_13 : decode cX2_countMarkedAnchors 13 = .ok (.getfield 17, 3) := by decide +kernel
theorem dX2_countMarkedAnchors_16 : decode cX2_countMarkedAnchors 16 = .ok (.iload_n 3, 1) := by decide +kernel
theorem dX2_countMarkedAnchors_17 : decode cX2_countMarkedAnchors 17 = .ok (.aaload, 1) := by decide +kernel
theorem dX2_countMarkedAnchors_18 : decode cX2_countMarkedAnchors 18 = .ok (.invokevirtual 184, 3) := by decide +kernel
theorem dX2_countMarkedAnchors_21 : decode cX2_countMarkedAnchors 21 = .ok (.ifCond .eq 19, 3) := by decide +kernel
theorem dX2_countMarkedAnchors_24 : decode cX2_countMarkedAnchors 24 = .ok (.aload_n 0, 1) := by decide +kernel
theorem dX2_countMarkedAnchors_25 : decode cX2_countMarkedAnchors 25 = .ok (.getfield 17, 3) := by decide +kernel
theorem dX2_countMarkedAnchors_28 : decode cX2_countMarkedAnchors 28 = .ok (.iload_n 3, 1) := by decide +kernel
theorem dX2_countMarkedAnchors_29 : decode cX2_countMarkedAnchors 29 = .ok (.aaload, 1) := by decide +kernel
theorem dX2_countMarkedAnchors_30 : decode cX2_countMarkedAnchors 30 = .ok (.iload_n 1, 1) := by decide +kernel
theorem dX2_countMarkedAnchors_31 : decode cX2_countMarkedAnchors 31 = .ok (.invokevirtual 144, 3) := by decide +kernel
theorem dX2_countMarkedAnchors_34 : decode cX2_countMarkedAnchors 34 = .ok (.ifCond .eq 6, 3) := by decide +kernel
theorem dX2_countMarkedAnchors_37 : decode cX2_countMarkedAnchors 37 = .ok (.iinc 2 1, 3) := by decide +kernel
theorem dX2_countMarkedAnchors_40 : decode cX2_countMarkedAnchors 40 = .ok (.iinc 3 1, 3) := by decide +kernel
theorem dX2_countMarkedAnchors_43 : decode cX2_countMarkedAnchors 43 = .ok (.goto (-39), 3) := by decide +kernel
theorem dX2_countMarkedAnchors_46 : decode cX2_countMarkedAnchors 46 = .ok (.iload_n 2, 1) := by decide +kernel
theorem dX2_countMarkedAnchors_47 : decode cX2_countMarkedAnchors 47 = .ok (.ireturn, 1) := by decide +kernel
theorem dX2_sumOffAnchors_0 : decode cX2_sumOffAnchors 0 = .ok (.iconst 0, 1) := by decide +kernel
theorem dX2_sumOffAnchors_1 : decode cX2_sumOffAnchors 1 = .ok (.istore_n 2, 1) := by decide +kernel
theorem dX2_sumOffAnchors_2 : decode cX2_sumOffAnchors 2 = .ok (.iconst 0, 1) := by decide +kernel
theorem dX2_sumOffAnchors_3 : decode cX2_sumOffAnchors 3 = .ok (.istore_n 3, 1) := by decide +kernel
theorem dX2_sumOffAnchors_4 : decode cX2_sumOffAnchors 4 = .ok (.iload_n 3, 1) := by decide +kernel
theorem dX2_sumOffAnchors_5 : decode cX2_sumOffAnchors 5 = .ok (.aload_n 0, 1) := by decide +kernel
theorem dX2_sumOffAnchors_6 : decode cX2_sumOffAnchors 6 = .ok (.getfield 21, 3) := by decide +kernel
theorem dX2_sumOffAnchors_9 : decode cX2_sumOffAnchors 9 = .ok (.if_icmp .ge 58, 3) := by decide +kernel
theorem dX2_sumOffAnchors_12 : decode cX2_sumOffAnchors 12 = .ok (.aload_n 0, 1) := by decide +kernel
theorem dX2_sumOffAnchors_13 : decode cX2_sumOffAnchors 13 = .ok (.getfield 17, 3) := by decide +kernel
theorem dX2_sumOffAnchors_16 : decode cX2_sumOffAnchors 16 = .ok (.iload_n 3, 1) := by decide +kernel
theorem dX2_sumOffAnchors_17 : decode cX2_sumOffAnchors 17 = .ok (.aaload, 1) := by decide +kernel
theorem dX2_sumOffAnchors_18 : decode cX2_sumOffAnchors 18 = .ok (.invokevirtual 184, 3) := by decide +kernel
theorem dX2_sumOffAnchors_21 : decode cX2_sumOffAnchors 21 = .ok (.ifCond .eq 40, 3) := by decide +kernel
theorem dX2_sumOffAnchors_24 : decode cX2_sumOffAnchors 24 = .ok (.aload_n 0, 1) := by decide +kernel
theorem dX2_sumOffAnchors_25 : decode cX2_sumOffAnchors 25 = .ok (.getfield 17, 3) := by decide +kernel
theorem dX2_sumOffAnchors_28 : decode cX2_sumOffAnchors 28 = .ok (.iload_n 3, 1) := by decide +kernel
theorem dX2_sumOffAnchors_29 : decode cX2_sumOffAnchors 29 = .ok (.aaload, 1) := by decide +kernel
theorem dX2_sumOffAnchors_30 : decode cX2_sumOffAnchors 30 = .ok (.iload_n 1, 1) := by decide +kernel
theorem dX2_sumOffAnchors_31 : decode cX2_sumOffAnchors 31 = .ok (.invokevirtual 144, 3) := by decide +kernel
theorem dX2_sumOffAnchors_34 : decode cX2_sumOffAnchors 34 = .ok (.ifCond .eq 27, 3) := by decide +kernel
theorem dX2_sumOffAnchors_37 : decode cX2_sumOffAnchors 37 = .ok (.iload_n 2, 1) := by decide +kernel
theorem dX2_sumOffAnchors_38 : decode cX2_sumOffAnchors 38 = .ok (.aload_n 0, 1) := by decide +kernel
theorem dX2_sumOffAnchors_39 : decode cX2_sumOffAnchors 39 = .ok (.getfield 17, 3) := by decide +kernel
theorem dX2_sumOffAnchors_42 : decode cX2_sumOffAnchors 42 = .ok (.iload_n 3, 1) := by decide +kernel
theorem dX2_sumOffAnchors_43 : decode cX2_sumOffAnchors 43 = .ok (.aaload, 1) := by decide +kernel
theorem dX2_sumOffAnchors_44 : decode cX2_sumOffAnchors 44 = .ok (.getfield 107, 3) := by decide +kernel
theorem dX2_sumOffAnchors_47 : decode cX2_sumOffAnchors 47 = .ok (.iload_n 1, 1) := by decide +kernel
theorem dX2_sumOffAnchors_48 : decode cX2_sumOffAnchors 48 = .ok (.iaload, 1) := by decide +kernel
theorem dX2_sumOffAnchors_49 : decode cX2_sumOffAnchors 49 = .ok (.aload_n 0, 1) := by decide +kernel
theorem dX2_sumOffAnchors_50 : decode cX2_sumOffAnchors 50 = .ok (.getfield 17, 3) := by decide +kernel
theorem dX2_sumOffAnchors_53 : decode cX2_sumOffAnchors 53 = .ok (.iload_n 3, 1) := by decide +kernel
theorem dX2_sumOffAnchors_54 : decode cX2_sumOffAnchors 54 = .ok (.aaload, 1) := by decide +kernel
theorem dX2_sumOffAnchors_55 : decode cX2_sumOffAnchors 55 = .ok (.getfield 135, 3) := by decide +kernel
theorem dX2_sumOffAnchors_58 : decode cX2_sumOffAnchors 58 = .ok (.isub, 1) := by decide +kernel
theorem dX2_sumOffAnchors_59 : decode cX2_sumOffAnchors 59 = .ok (.iadd, 1) := by decide +kernel
theorem dX2_sumOffAnchors_60 : decode cX2_sumOffAnchors 60 = .ok (.istore_n 2, 1) := by decide +kernel
theorem dX2_sumOffAnchors_61 : decode cX2_sumOffAnchors 61 = .ok (.iinc 3 1, 3) := by decide +kernel
theorem dX2_sumOffAnchors_64 : decode cX2_sumOffAnchors 64 = .ok (.goto (-60), 3) := by decide +kernel
theorem dX2_sumOffAnchors_67 : decode cX2_sumOffAnchors 67 = .ok (.iload_n 2, 1) := by decide +kernel
theorem dX2_sumOffAnchors_68 : decode cX2_sumOffAnchors 68 = .ok (.ireturn, 1) := by decide +kernel
theorem dX2_partOfRatio_0 : decode cX2_partOfRatio 0 = .ok (.iload_n 1, 1) := by decide +kernel
theorem dX2_partOfRatio_1 : decode cX2_partOfRatio 1 = .ok (.ifCond .gt 7, 3) := by decide +kernel
theorem dX2_partOfRatio_4 : decode cX2_partOfRatio 4 = .ok (.sipush (-200), 3) := by decide +kernel
theorem dX2_partOfRatio_7 : decode cX2_partOfRatio 7 = .ok (.ireturn, 1) := by decide +kernel
theorem dX2_partOfRatio_8 : decode cX2_partOfRatio 8 = .ok (.iload_n 1, 1) := by decide +kernel
theorem dX2_partOfRatio_9 : decode cX2_partOfRatio 9 = .ok (.istore_n 3, 1) := by decide +kernel
theorem dX2_partOfRatio_10 : decode cX2_partOfRatio 10 = .ok (.iload_n 3, 1) := by decide +kernel
theorem dX2_partOfRatio_11 : decode cX2_partOfRatio 11 = .ok (.iconst 1, 1) := by decide +kernel
theorem dX2_partOfRatio_12 : decode cX2_partOfRatio 12 = .ok (.if_icmp .le 21, 3) := by decide +kernel
theorem dX2_partOfRatio_15 : decode cX2_partOfRatio 15 = .ok (.iload_n 0, 1) := by decide +kernel
theorem dX2_partOfRatio_16 : decode cX2_partOfRatio 16 = .ok (.iload_n 3, 1) := by decide +kernel
theorem dX2_partOfRatio_17 : decode cX2_partOfRatio 17 = .ok (.irem, 1) := by decide +kernel
theorem dX2_partOfRatio_18 : decode cX2_partOfRatio 18 = .ok (.ifCond .ne 9, 3) := by decide +kernel
theorem dX2_partOfRatio_21 : decode cX2_partOfRatio 21 = .ok (.iload_n 1, 1) := by decide +kernel
theorem dX2_partOfRatio_22 : decode cX2_partOfRatio 22 = .ok (.iload_n 3, 1) := by decide +kernel
theorem dX2_partOfRatio_23 : decode cX2_partOfRatio 23 = .ok (.irem, 1) := by decide +kernel
theorem dX2_partOfRatio_24 : decode cX2_partOfRatio 24 = .ok (.ifCond .eq 9, 3) := by decide +kernel
theorem dX2_partOfRatio_27 : decode cX2_partOfRatio 27 = .ok (.iinc 3 (-1), 3) := by decide +kernel
theorem dX2_partOfRatio_30 : decode cX2_partOfRatio 30 = .ok (.goto (-20), 3) := by decide +kernel
theorem dX2_partOfRatio_33 : decode cX2_partOfRatio 33 = .ok (.iload_n 2, 1) := by decide +kernel
theorem dX2_partOfRatio_34 : decode cX2_partOfRatio 34 = .ok (.ifCond .ne 7, 3) := by decide +kernel
theorem dX2_partOfRatio_37 : decode cX2_partOfRatio 37 = .ok (.iload_n 0, 1) := by decide +kernel
theorem dX2_partOfRatio_38 : decode cX2_partOfRatio 38 = .ok (.goto 4, 3) := by decide +kernel
theorem dX2_partOfRatio_41 : decode cX2_partOfRatio 41 = .ok (.iload_n 1, 1) := by decide +kernel
theorem dX2_partOfRatio_42 : decode cX2_partOfRatio 42 = .ok (.iload_n 3, 1) := by decide +kernel
theorem dX2_partOfRatio_43 : decode cX2_partOfRatio 43 = .ok (.idiv, 1) := by decide +kernel
theorem dX2_partOfRatio_44 : decode cX2_partOfRatio 44 = .ok (.ireturn, 1) := by decide +kernel
theorem dX2_gatherPile_0 : decode cX2_gatherPile 0 = .ok (.iconst 0, 1) := by decide +kernel
theorem dX2_gatherPile_1 : decode cX2_gatherPile 1 = .ok (.istore_n 2, 1) := by decide +kernel
theorem dX2_gatherPile_2 : decode cX2_gatherPile 2 = .ok (.iconst 0, 1) := by decide +kernel
theorem dX2_gatherPile_3 : decode cX2_gatherPile 3 = .ok (.istore_n 3, 1) := by decide +kernel
theorem dX2_gatherPile_4 : decode cX2_gatherPile 4 = .ok (.iload_n 3, 1) := by decide +kernel
theorem dX2_gatherPile_5 : decode cX2_gatherPile 5 = .ok (.aload_n 0, 1) := by decide +kernel
theorem dX2_gatherPile_6 : decode cX2_gatherPile 6 = .ok (.getfield 21, 3) := by decide +kernel
theorem dX2_gatherPile_9 : decode cX2_gatherPile 9 = .ok (.if_icmp .ge 48, 3) := by decide +kernel
theorem dX2_gatherPile_12 : decode cX2_gatherPile 12 = .ok (.iload_n 2, 1) := by decide +kernel
theorem dX2_gatherPile_13 : decode cX2_gatherPile 13 = .ok (.bipush 6, 2) := by decide +kernel
theorem dX2_gatherPile_15 : decode cX2_gatherPile 15 = .ok (.if_icmp .ge 42, 3) := by decide +kernel
theorem dX2_gatherPile_18 : decode cX2_gatherPile 18 = .ok (.aload_n 0, 1) := by decide +kernel
theorem dX2_gatherPile_19 : decode cX2_gatherPile 19 = .ok (.getfield 17, 3) := by decide +kernel
theorem dX2_gatherPile_22 : decode cX2_gatherPile 22 = .ok (.iload_n 3, 1) := by decide +kernel
theorem dX2_gatherPile_23 : decode cX2_gatherPile 23 = .ok (.aaload, 1) := by decide +kernel
theorem dX2_gatherPile_24 : decode cX2_gatherPile 24 = .ok (.iload_n 1, 1) := by decide +kernel
theorem dX2_gatherPile_25 : decode cX2_gatherPile 25 = .ok (.invokevirtual 144, 3) := by decide +kernel
theorem dX2_gatherPile_28 : decode cX2_gatherPile 28 = .ok (.ifCond .eq 23, 3) := by decide +kernel
theorem dX2_gatherPile_31 : decode cX2_gatherPile 31 = .ok (.aload_n 0, 1) := by decide +kernel
theorem dX2_gatherPile_32 : decode cX2_gatherPile 32 = .ok (.getfield 29, 3) := by decide +kernel
theorem dX2_gatherPile_35 : decode cX2_gatherPile 35 = .ok (.iload_n 2, 1) := by decide +kernel
theorem dX2_gatherPile_36 : decode cX2_gatherPile 36 = .ok (.aload_n 0, 1) := by decide +kernel
theorem dX2_gatherPile_37 : decode cX2_gatherPile 37 = .ok (.getfield 17, 3) := by decide +kernel
theorem dX2_gatherPile_40 : decode cX2_gatherPile 40 = .ok (.iload_n 3, 1) := by decide +kernel
theorem dX2_gatherPile_41 : decode cX2_gatherPile 41 = .ok (.aaload, 1) := by decide +kernel
theorem dX2_gatherPile_42 : decode cX2_gatherPile 42 = .ok (.getfield 107, 3) := by decide +kernel
theorem dX2_gatherPile_45 : decode cX2_gatherPile 45 = .ok (.iload_n 1, 1) := by decide +kernel
theorem dX2_gatherPile_46 : decode cX2_gatherPile 46 = .ok (.iaload, 1) := by decide +kernel
theorem dX2_gatherPile_47 : decode cX2_gatherPile 47 = .ok (.iastore, 1) := by decide +kernel
theorem dX2_gatherPile_48 : decode cX2_gatherPile 48 = .ok (.iinc 2 1, 3) := by decide +kernel
theorem dX2_gatherPile_51 : decode cX2_gatherPile 51 = .ok (.iinc 3 1, 3) := by decide +kernel
theorem dX2_gatherPile_54 : decode cX2_gatherPile 54 = .ok (.goto (-50), 3) := by decide +kernel
theorem dX2_gatherPile_57 : decode cX2_gatherPile 57 = .ok (.iload_n 2, 1) := by decide +kernel
theorem dX2_gatherPile_58 : decode cX2_gatherPile 58 = .ok (.ireturn, 1) := by decide +kernel
theorem dX2_driftOfPile_0 : decode cX2_driftOfPile 0 = .ok (.iconst 0, 1) := by decide +kernel
theorem dX2_driftOfPile_1 : decode cX2_driftOfPile 1 = .ok (.istore_n 2, 1) := by decide +kernel
theorem dX2_driftOfPile_2 : decode cX2_driftOfPile 2 = .ok (.iconst 1, 1) := by decide +kernel
theorem dX2_driftOfPile_3 : decode cX2_driftOfPile 3 = .ok (.istore_n 3, 1) := by decide +kernel
theorem dX2_driftOfPile_4 : decode cX2_driftOfPile 4 = .ok (.iload_n 3, 1) := by decide +kernel
theorem dX2_driftOfPile_5 : decode cX2_driftOfPile 5 = .ok (.iload_n 1, 1) := by decide +kernel
theorem dX2_driftOfPile_6 : decode cX2_driftOfPile 6 = .ok (.if_icmp .ge 43, 3) := by decide +kernel
theorem dX2_driftOfPile_9 : decode cX2_driftOfPile 9 = .ok (.iconst 0, 1) := by decide +kernel
theorem dX2_driftOfPile_10 : decode cX2_driftOfPile 10 = .ok (.istore 4, 2) := by decide +kernel
theorem dX2_driftOfPile_12 : decode cX2_driftOfPile 12 = .ok (.iload 4, 2) := by decide +kernel
theorem dX2_driftOfPile_14 : decode cX2_driftOfPile 14 = .ok (.iload_n 3, 1) := by decide +kernel
theorem dX2_driftOfPile_15 : decode cX2_driftOfPile 15 = .ok (.if_icmp .ge 28, 3) := by decide +kernel
theorem dX2_driftOfPile_18 : decode cX2_driftOfPile 18 = .ok (.iload_n 2, 1) := by decide +kernel
theorem dX2_driftOfPile_19 : decode cX2_driftOfPile 19 = .ok (.aload_n 0, 1) := by decide +kernel
theorem dX2_driftOfPile_20 : decode cX2_driftOfPile 20 = .ok (.getfield 29, 3) := by decide +kernel
theorem dX2_driftOfPile_23 : decode cX2_driftOfPile 23 = .ok (.iload_n 3, 1) := by decide +kernel
theorem dX2_driftOfPile_24 : decode cX2_driftOfPile 24 = .ok (.iaload, 1) := by decide +kernel
theorem dX2_driftOfPile_25 : decode cX2_driftOfPile 25 = .ok (.aload_n 0, 1) := by decide +kernel
theorem dX2_driftOfPile_26 : decode cX2_driftOfPile 26 = .ok (.getfield 29, 3) := by decide +kernel
theorem dX2_driftOfPile_29 : decode cX2_driftOfPile 29 = .ok (.iload 4, 2) := by decide +kernel
theorem dX2_driftOfPile_31 : decode cX2_driftOfPile 31 = .ok (.iaload, 1) := by decide +kernel
theorem dX2_driftOfPile_32 : decode cX2_driftOfPile 32 = .ok (.invokestatic 190, 3) := by decide +kernel
theorem dX2_driftOfPile_35 : decode cX2_driftOfPile 35 = .ok (.iadd, 1) := by decide +kernel
theorem dX2_driftOfPile_36 : decode cX2_driftOfPile 36 = .ok (.istore_n 2, 1) := by decide +kernel
theorem dX2_driftOfPile_37 : decode cX2_driftOfPile 37 = .ok (.iinc 4 1, 3) := by decide +kernel
theorem dX2_driftOfPile_40 : decode cX2_driftOfPile 40 = .ok (.goto (-28), 3) := by decide +kernel
theorem dX2_driftOfPile_43 : decode cX2_driftOfPile 43 = .ok (.iinc 3 1, 3) := by decide +kernel
theorem dX2_driftOfPile_46 : decode cX2_driftOfPile 46 = .ok (.goto (-42), 3) := by decide +kernel
theorem dX2_driftOfPile_49 : decode cX2_driftOfPile 49 = .ok (.iload_n 2, 1) := by decide +kernel
theorem dX2_driftOfPile_50 : decode cX2_driftOfPile 50 = .ok (.ireturn, 1) := by decide +kernel
theorem dX2_oddsOfPile_0 : decode cX2_oddsOfPile 0 = .ok (.iconst 0, 1) := by decide +kernel
theorem dX2_oddsOfPile_1 : decode cX2_oddsOfPile 1 = .ok (.istore_n 3, 1) := by decide +kernel
theorem dX2_oddsOfPile_2 : decode cX2_oddsOfPile 2 = .ok (.iload_n 3, 1) := by decide +kernel
theorem dX2_oddsOfPile_3 : decode cX2_oddsOfPile 3 = .ok (.iconst 4, 1) := by decide +kernel
theorem dX2_oddsOfPile_4 : decode cX2_oddsOfPile 4 = .ok (.if_icmp .ge 21, 3) := by decide +kernel
theorem dX2_oddsOfPile_7 : decode cX2_oddsOfPile 7 = .ok (.aload_n 0, 1) := by decide +kernel
theorem dX2_oddsOfPile_8 : decode cX2_oddsOfPile 8 = .ok (.getfield 33, 3) := by decide +kernel
theorem dX2_oddsOfPile_11 : decode cX2_oddsOfPile 11 = .ok (.iload_n 3, 1) := by decide +kernel
theorem dX2_oddsOfPile_12 : decode cX2_oddsOfPile 12 = .ok (.aload_n 0, 1) := by decide +kernel
theorem dX2_oddsOfPile_13 : decode cX2_oddsOfPile 13 = .ok (.iload_n 1, 1) := by decide +kernel
theorem dX2_oddsOfPile_14 : decode cX2_oddsOfPile 14 = .ok (.iload_n 3, 1) := by decide +kernel
theorem dX2_oddsOfPile_15 : decode cX2_oddsOfPile 15 = .ok (.invokevirtual 195, 3) := by decide +kernel
theorem dX2_oddsOfPile_18 : decode cX2_oddsOfPile 18 = .ok (.iastore, 1) := by decide +kernel
theorem dX2_oddsOfPile_19 : decode cX2_oddsOfPile 19 = .ok (.iinc 3 1, 3) := by decide +kernel
theorem dX2_oddsOfPile_22 : decode cX2_oddsOfPile 22 = .ok (.goto (-20), 3) := by decide +kernel
theorem dX2_oddsOfPile_25 : decode cX2_oddsOfPile 25 = .ok (.aload_n 0, 1) := by decide +kernel
theorem dX2_oddsOfPile_26 : decode cX2_oddsOfPile 26 = .ok (.getfield 33, 3) := by decide +kernel
theorem dX2_oddsOfPile_29 : decode cX2_oddsOfPile 29 = .ok (.iload_n 1, 1) := by decide +kernel
theorem dX2_oddsOfPile_30 : decode cX2_oddsOfPile 30 = .ok (.iload_n 2, 1) := by decide +kernel
theorem dX2_oddsOfPile_31 : decode cX2_oddsOfPile 31 = .ok (.invokestatic 198, 3) := by decide +kernel
theorem dX2_oddsOfPile_34 : decode cX2_oddsOfPile 34 = .ok (.ireturn, 1) := by decide +kernel
theorem dX2_countInPile_0 : decode cX2_countInPile 0 = .ok (.iconst 0, 1) := by decide +kernel
theorem dX2_countInPile_1 : decode cX2_countInPile 1 = .ok (.istore_n 3, 1) := by decide +kernel
theorem dX2_countInPile_2 : decode cX2_countInPile 2 = .ok (.iconst 0, 1) := by decide +kernel
theorem dX2_countInPile_3 : decode cX2_countInPile 3 = .ok (.istore 4, 2) := by decide +kernel
theorem dX2_countInPile_5 : decode cX2_countInPile 5 = .ok (.iload 4, 2) := by decide +kernel
theorem dX2_countInPile_7 : decode cX2_countInPile 7 = .ok (.iload_n 1, 1) := by decide +kernel
theorem dX2_countInPile_8 : decode cX2_countInPile 8 = .ok (.if_icmp .ge 23, 3) := by decide +kernel
theorem dX2_countInPile_11 : decode cX2_countInPile 11 = .ok (.aload_n 0, 1) := by decide +kernel
theorem dX2_countInPile_12 : decode cX2_countInPile 12 = .ok (.getfield 29, 3) := by decide +kernel
theorem dX2_countInPile_15 : decode cX2_countInPile 15 = .ok (.iload 4, 2) := by decide +kernel
theorem dX2_countInPile_17 : decode cX2_countInPile 17 = .ok (.iaload, 1) := by decide +kernel
theorem dX2_countInPile_18 : decode cX2_countInPile 18 = .ok (.iload_n 2, 1) := by decide +kernel
theorem dX2_countInPile_19 : decode cX2_countInPile 19 = .ok (.if_icmp .ne 6, 3) := by decide +kernel
theorem dX2_countInPile_22 : decode cX2_countInPile 22 = .ok (.iinc 3 1, 3) := by decide +kernel
theorem dX2_countInPile_25 : decode cX2_countInPile 25 = .ok (.iinc 4 1, 3) := by decide +kernel
theorem dX2_countInPile_28 : decode cX2_countInPile 28 = .ok (.goto (-23), 3) := by decide +kernel
theorem dX2_countInPile_31 : decode cX2_countInPile 31 = .ok (.iload_n 3, 1) := by decide +kernel
theorem dX2_countInPile_32 : decode cX2_countInPile 32 = .ok (.ireturn, 1) := by decide +kernel
theorem dX2_countOrders_0 : decode cX2_countOrders 0 = .ok (.iload_n 1, 1) := by decide +kernel
theorem dX2_countOrders_1 : decode cX2_countOrders 1 = .ok (.ifCond .gt 13, 3) := by decide +kernel
theorem dX2_countOrders_4 : decode cX2_countOrders 4 = .ok (.iload_n 2, 1) := by decide +kernel
theorem dX2_countOrders_5 : decode cX2_countOrders 5 = .ok (.ifCond .gt 7, 3) := by decide +kernel
theorem dX2_countOrders_8 : decode cX2_countOrders 8 = .ok (.iconst 1, 1) := by decide +kernel
theorem dX2_countOrders_9 : decode cX2_countOrders 9 = .ok (.goto 4, 3) := by decide +kernel
theorem dX2_countOrders_12 : decode cX2_countOrders 12 = .ok (.iconst 0, 1) := by decide +kernel
theorem dX2_countOrders_13 : decode cX2_countOrders 13 = .ok (.ireturn, 1) := by decide +kernel
theorem dX2_countOrders_14 : decode cX2_countOrders 14 = .ok (.iconst 0, 1) := by decide +kernel
theorem dX2_countOrders_15 : decode cX2_countOrders 15 = .ok (.istore_n 3, 1) := by decide +kernel
theorem dX2_countOrders_16 : decode cX2_countOrders 16 = .ok (.iconst 0, 1) := by decide +kernel
theorem dX2_countOrders_17 : decode cX2_countOrders 17 = .ok (.istore 4, 2) := by decide +kernel
theorem dX2_countOrders_19 : decode cX2_countOrders 19 = .ok (.iload 4, 2) := by decide +kernel
theorem dX2_countOrders_21 : decode cX2_countOrders 21 = .ok (.aload_n 0, 1) := by decide +kernel
theorem dX2_countOrders_22 : decode cX2_countOrders 22 = .ok (.arraylength, 1) := by decide +kernel
theorem dX2_countOrders_23 : decode cX2_countOrders 23 = .ok (.if_icmp .ge 55, 3) := by decide +kernel
theorem dX2_countOrders_26 : decode cX2_countOrders 26 = .ok (.aload_n 0, 1) := by decide +kernel
theorem dX2_countOrders_27 : decode cX2_countOrders 27 = .ok (.iload 4, 2) := by decide +kernel
theorem dX2_countOrders_29 : decode cX2_countOrders 29 = .ok (.iaload, 1) := by decide +kernel
theorem dX2_countOrders_30 : decode cX2_countOrders 30 = .ok (.istore 5, 2) := by decide +kernel
theorem dX2_countOrders_32 : decode cX2_countOrders 32 = .ok (.iload 5, 2) := by decide +kernel
theorem dX2_countOrders_34 : decode cX2_countOrders 34 = .ok (.ifCond .le 38, 3) := by decide +kernel
theorem dX2_countOrders_37 : decode cX2_countOrders 37 = .ok (.aload_n 0, 1) := by decide +kernel
theorem dX2_countOrders_38 : decode cX2_countOrders 38 = .ok (.iload 4, 2) := by decide +kernel
theorem dX2_countOrders_40 : decode cX2_countOrders 40 = .ok (.iload 5, 2) := by decide +kernel
theorem dX2_countOrders_42 : decode cX2_countOrders 42 = .ok (.iconst 1, 1) := by decide +kernel
theorem dX2_countOrders_43 : decode cX2_countOrders 43 = .ok (.isub, 1) := by decide +kernel
theorem dX2_countOrders_44 : decode cX2_countOrders 44 = .ok (.iastore, 1) := by decide +kernel
theorem dX2_countOrders_45 : decode cX2_countOrders 45 = .ok (.iload_n 3, 1) := by decide +kernel
theorem dX2_countOrders_46 : decode cX2_countOrders 46 = .ok (.iload 5, 2) := by decide +kernel
theorem dX2_countOrders_48 : decode cX2_countOrders 48 = .ok (.aload_n 0, 1) := by decide +kernel
theorem dX2_countOrders_49 : decode cX2_countOrders 49 = .ok (.iload_n 1, 1) := by decide +kernel
theorem dX2_countOrders_50 : decode cX2_countOrders 50 = .ok (.iconst 1, 1) := by decide +kernel
theorem dX2_countOrders_51 : decode cX2_countOrders 51 = .ok (.isub, 1) := by decide +kernel
theorem dX2_countOrders_52 : decode cX2_countOrders 52 = .ok (.iload_n 2, 1) := by decide +kernel
theorem dX2_countOrders_53 : decode cX2_countOrders 53 = .ok (.iload 4, 2) := by decide +kernel
theorem dX2_countOrders_55 : decode cX2_countOrders 55 = .ok (.aload_n 0, 1) := by decide +kernel
theorem dX2_countOrders_56 : decode cX2_countOrders 56 = .ok (.invokestatic 202, 3) := by decide +kernel
theorem dX2_countOrders_59 : decode cX2_countOrders 59 = .ok (.isub, 1) := by decide +kernel
theorem dX2_countOrders_60 : decode cX2_countOrders 60 = .ok (.invokestatic 198, 3) := by decide +kernel
theorem dX2_countOrders_63 : decode cX2_countOrders 63 = .ok (.imul, 1) := by decide +kernel
theorem dX2_countOrders_64 : decode cX2_countOrders 64 = .ok (.iadd, 1) := by decide +kernel
theorem dX2_countOrders_65 : decode cX2_countOrders 65 = .ok (.istore_n 3, 1) := by decide +kernel
theorem dX2_countOrders_66 : decode cX2_countOrders 66 = .ok (.aload_n 0, 1) := by decide +kernel
theorem dX2_countOrders_67 : decode cX2_countOrders 67 = .ok (.iload 4, 2) := by decide +kernel
theorem dX2_countOrders_69 : decode cX2_countOrders 69 = .ok (.iload 5, 2) := by decide +kernel
theorem dX2_countOrders_71 : decode cX2_countOrders 71 = .ok (.iastore, 1) := by decide +kernel
theorem dX2_countOrders_72 : decode cX2_countOrders 72 = .ok (.iinc 4 1, 3) := by decide +kernel
theorem dX2_countOrders_75 : decode cX2_countOrders 75 = .ok (.goto (-56), 3) := by decide +kernel
theorem dX2_countOrders_78 : decode cX2_countOrders 78 = .ok (.iload_n 3, 1) := by decide +kernel
theorem dX2_countOrders_79 : decode cX2_countOrders 79 = .ok (.ireturn, 1) := by decide +kernel
theorem dX2_driftBehind_0 : decode cX2_driftBehind 0 = .ok (.iconst 0, 1) := by decide +kernel
theorem dX2_driftBehind_1 : decode cX2_driftBehind 1 = .ok (.istore_n 2, 1) := by decide +kernel
theorem dX2_driftBehind_2 : decode cX2_driftBehind 2 = .ok (.iconst 0, 1) := by decide +kernel
theorem dX2_driftBehind_3 : decode cX2_driftBehind 3 = .ok (.istore_n 3, 1) := by decide +kernel
theorem dX2_driftBehind_4 : decode cX2_driftBehind 4 = .ok (.iload_n 3, 1) := by decide +kernel
theorem dX2_driftBehind_5 : decode cX2_driftBehind 5 = .ok (.aload_n 1, 1) := by decide +kernel
theorem dX2_driftBehind_6 : decode cX2_driftBehind 6 = .ok (.arraylength, 1) := by decide +kernel
theorem dX2_driftBehind_7 : decode cX2_driftBehind 7 = .ok (.if_icmp .ge 21, 3) := by decide +kernel
theorem dX2_driftBehind_10 : decode cX2_driftBehind 10 = .ok (.iload_n 2, 1) := by decide +kernel
theorem dX2_driftBehind_11 : decode cX2_driftBehind 11 = .ok (.aload_n 1, 1) := by decide +kernel
theorem dX2_driftBehind_12 : decode cX2_driftBehind 12 = .ok (.iload_n 3, 1) := by decide +kernel
theorem dX2_driftBehind_13 : decode cX2_driftBehind 13 = .ok (.iaload, 1) := by decide +kernel
theorem dX2_driftBehind_14 : decode cX2_driftBehind 14 = .ok (.iload_n 3, 1) := by decide +kernel
theorem dX2_driftBehind_15 : decode cX2_driftBehind 15 = .ok (.iload_n 0, 1) := by decide +kernel
theorem dX2_driftBehind_16 : decode cX2_driftBehind 16 = .ok (.invokestatic 190, 3) := by decide +kernel
theorem dX2_driftBehind_19 : decode cX2_driftBehind 19 = .ok (.imul, 1) := by decide +kernel
theorem dX2_driftBehind_20 : decode cX2_driftBehind 20 = .ok (.iadd, 1) := by decide +kernel
theorem dX2_driftBehind_21 : decode cX2_driftBehind 21 = .ok (.istore_n 2, 1) := by decide +kernel
theorem dX2_driftBehind_22 : decode cX2_driftBehind 22 = .ok (.iinc 3 1, 3) := by decide +kernel
theorem dX2_driftBehind_25 : decode cX2_driftBehind 25 = .ok (.goto (-21), 3) := by decide +kernel
theorem dX2_driftBehind_28 : decode cX2_driftBehind 28 = .ok (.iload_n 2, 1) := by decide +kernel
theorem dX2_driftBehind_29 : decode cX2_driftBehind 29 = .ok (.ireturn, 1) := by decide +kernel
theorem dX3_init_0 : decode cX3_init 0 = .ok (.aload_n 0, 1) := by decide +kernel
theorem dX3_init_1 : decode cX3_init 1 = .ok (.invokespecial 1, 3) := by decide +kernel
theorem dX3_init_4 : decode cX3_init 4 = .ok (.aload_n 0, 1) := by decide +kernel
theorem dX3_init_5 : decode cX3_init 5 = .ok (.bipush 8, 2) := by decide +kernel
theorem dX3_init_7 : decode cX3_init 7 = .ok (.newarray .int, 2) := by decide +kernel
theorem dX3_init_9 : decode cX3_init 9 = .ok (.putfield 7, 3) := by decide +kernel
theorem dX3_init_12 : decode cX3_init 12 = .ok (.aload_n 0, 1) := by decide +kernel
theorem dX3_init_13 : decode cX3_init 13 = .ok (.bipush 8, 2) := by decide +kernel
theorem dX3_init_15 : decode cX3_init 15 = .ok (.newarray .int, 2) := by decide +kernel
theorem dX3_init_17 : decode cX3_init 17 = .ok (.putfield 13, 3) := by decide +kernel
theorem dX3_init_20 : decode cX3_init 20 = .ok (.aload_n 0, 1) := by decide +kernel
theorem dX3_init_21 : decode cX3_init 21 = .ok (.bipush 8, 2) := by decide +kernel
theorem dX3_init_23 : decode cX3_init 23 = .ok (.newarray .int, 2) := by decide +kernel
theorem dX3_init_25 : decode cX3_init 25 = .ok (.putfield 16, 3) := by decide +kernel
theorem dX3_init_28 : decode cX3_init 28 = .ok (.aload_n 0, 1) := by decide +kernel
theorem dX3_init_29 : decode cX3_init 29 = .ok (.bipush 32, 2) := by decide +kernel
theorem dX3_init_31 : decode cX3_init 31 = .ok (.newarray .int, 2) := by decide +kernel
theorem dX3_init_33 : decode cX3_init 33 = .ok (.putfield 19, 3) := by decide +kernel
theorem dX3_init_36 : decode cX3_init 36 = .ok (.aload_n 0, 1) := by decide +kernel
theorem dX3_init_37 : decode cX3_init 37 = .ok (.bipush 32, 2) := by decide +kernel
theorem dX3_init_39 : decode cX3_init 39 = .ok (.newarray .int, 2) := by decide +kernel
theorem dX3_init_41 : decode cX3_init 41 = .ok (.putfield 22, 3) := by decide +kernel
theorem dX3_init_44 : decode cX3_init 44 = .ok (.aload_n 0, 1) := by decide +kernel
theorem dX3_init_45 : decode cX3_init 45 = .ok (.bipush 48, 2) := by decide +kernel
theorem dX3_init_47 : decode cX3_init 47 = .ok (.newarray .int, 2) := by decide +kernel
theorem dX3_init_49 : decode cX3_init 49 = .ok (.putfield 25, 3) := by decide +kernel
theorem dX3_init_52 : decode cX3_init 52 = .ok (.aload_n 0, 1) := by decide +kernel
theorem dX3_init_53 : decode cX3_init 53 = .ok (.bipush 36, 2) := by decide +kernel
theorem dX3_init_55 : decode cX3_init 55 = .ok (.newarray .int, 2) := by decide +kernel
theorem dX3_init_57 : decode cX3_init 57 = .ok (.putfield 28, 3) := by decide +kernel
theorem dX3_init_60 : decode cX3_init 60 = .ok (.aload_n 0, 1) := by decide +kernel
theorem dX3_init_61 : decode cX3_init 61 = .ok (.bipush 12, 2) := by decide +kernel
theorem dX3_init_63 : decode cX3_init 63 = .ok (.newarray .int, 2) := by decide +kernel
theorem dX3_init_65 : decode cX3_init 65 = .ok (.putfield 31, 3) := by decide +kernel
theorem dX3_init_68 : decode cX3_init 68 = .ok (.aload_n 0, 1) := by decide +kernel
theorem dX3_init_69 : decode cX3_init 69 = .ok (.bipush 6, 2) := by decide +kernel
theorem dX3_init_71 : decode cX3_init 71 = .ok (.newarray .int, 2) := by decide +kernel
theorem dX3_init_73 : decode cX3_init 73 = .ok (.putfield 34, 3) := by decide +kernel
theorem dX3_init_76 : decode cX3_init 76 = .ok (.aload_n 0, 1) := by decide +kernel
theorem dX3_init_77 : decode cX3_init 77 = .ok (.bipush 6, 2) := by decide +kernel
theorem dX3_init_79 : decode cX3_init 79 = .ok (.newarray .int, 2) := by decide +kernel
theorem dX3_init_81 : decode cX3_init 81 = .ok (.putfield 37, 3) := by decide +kernel
theorem dX3_init_84 : decode cX3_init 84 = .ok (.iconst 0, 1) := by decide +kernel
theorem dX3_init_85 : decode cX3_init 85 = .ok (.istore_n 1, 1) := by decide +kernel
theorem dX3_init_86 : decode cX3_init 86 = .ok (.iload_n 1, 1) := by decide +kernel
theorem dX3_init_87 : decode cX3_init 87 = .ok (.bipush 8, 2) := by decide +kernel
theorem dX3_init_89 : decode cX3_init 89 = .ok (.if_icmp .ge 74, 3) := by decide +kernel
theorem dX3_init_92 : decode cX3_init 92 = .ok (.aload_n 0, 1) := by decide +kernel
theorem dX3_init_93 : decode cX3_init 93 = .ok (.getfield 13, 3) := by decide +kernel
theorem dX3_init_96 : decode cX3_init 96 = .ok (.iload_n 1, 1) := by decide +kernel
theorem dX3_init_97 : decode cX3_init 97 = .ok (.iload_n 1, 1) := by decide +kernel
theorem dX3_init_98 : decode cX3_init 98 = .ok (.iconst 4, 1) := by decide +kernel
theorem dX3_init_99 : decode cX3_init 99 = .ok (.irem, 1) := by decide +kernel
theorem dX3_init_100 : decode cX3_init 100 = .ok (.iastore, 1) := by decide +kernel
theorem dX3_init_101 : decode cX3_init 101 = .ok (.aload_n 0, 1) := by decide +kernel
theorem dX3_init_102 : decode cX3_init 102 = .ok (.getfield 16, 3) := by decide +kernel
theorem dX3_init_105 : decode cX3_init 105 = .ok (.iload_n 1, 1) := by decide +kernel
theorem dX3_init_106 : decode cX3_init 106 = .ok (.iconst 1, 1) := by decide +kernel
theorem dX3_init_107 : decode cX3_init 107 = .ok (.iastore, 1) := by decide +kernel
theorem dX3_init_108 : decode cX3_init 108 = .ok (.iconst 0, 1) := by decide +kernel
theorem dX3_init_109 : decode cX3_init 109 = .ok (.istore_n 2, 1) := by decide +kernel
theorem dX3_init_110 : decode cX3_init 110 = .ok (.iload_n 2, 1) := by decide +kernel
theorem dX3_init_111 : decode cX3_init 111 = .ok (.iconst 4, 1) := by decide +kernel
theorem dX3_init_112 : decode cX3_init 112 = .ok (.if_icmp .ge 45, 3) := by decide +kernel
theorem dX3_init_115 : decode cX3_init 115 = .ok (.aload_n 0, 1) := by decide +kernel
theorem dX3_init_116 : decode cX3_init 116 = .ok (.getfield 19, 3) := by decide +kernel
theorem dX3_init_119 : decode cX3_init 119 = .ok (.iconst 4, 1) := by decide +kernel
theorem dX3_init_120 : decode cX3_init 120 = .ok (.iload_n 1, 1) := by decide +kernel
theorem dX3_init_121 : decode cX3_init 121 = .ok (.imul, 1) := by decide +kernel
theorem dX3_init_122 : decode cX3_init 122 = .ok (.iload_n 2, 1) := by decide +kernel
theorem dX3_init_123 : decode cX3_init 123 = .ok (.iadd, 1) := by decide +kernel
theorem dX3_init_124 : decode cX3_init 124 = .ok (.iload_n 2, 1) := by decide +kernel
theorem dX3_init_125 : decode cX3_init 125 = .ok (.ifCond .ne 7, 3) := by decide +kernel
theorem dX3_init_128 : decode cX3_init 128 = .ok (.iconst 0, 1) := by decide +kernel
theorem dX3_init_129 : decode cX3_init 129 = .ok (.goto 8, 3) := by decide +kernel
theorem dX3_init_132 : decode cX3_init 132 = .ok (.iconst 3, 1) := by decide +kernel
theorem dX3_init_133 : decode cX3_init 133 = .ok (.iload_n 2, 1) := by decide +kernel
theorem dX3_init_134 : decode cX3_init 134 = .ok (.imul, 1) := by decide +kernel
theorem dX3_init_135 : decode cX3_init 135 = .ok (.iconst 2, 1) := by decide +kernel
theorem dX3_init_136 : decode cX3_init 136 = .ok (.isub, 1) := by decide +kernel
theorem dX3_init_137 : decode cX3_init 137 = .ok (.iastore, 1) := by decide +kernel
theorem dX3_init_138 : decode cX3_init 138 = .ok (.aload_n 0, 1) := by decide +kernel
theorem dX3_init_139 : decode cX3_init 139 = .ok (.getfield 22, 3) := by decide +kernel
theorem dX3_init_142 : decode cX3_init 142 = .ok (.iconst 4, 1) := by decide +kernel
theorem dX3_init_143 : decode cX3_init 143 = .ok (.iload_n 1, 1) := by decide +kernel
theorem dX3_init_144 : decode cX3_init 144 = .ok (.imul, 1) := by decide +kernel
theorem dX3_init_145 : decode cX3_init 145 = .ok (.iload_n 2, 1) := by decide +kernel
theorem dX3_init_146 : decode cX3_init 146 = .ok (.iadd, 1) := by decide +kernel
theorem dX3_init_147 : decode cX3_init 147 = .ok (.iconst 3, 1) := by decide +kernel
theorem dX3_init_148 : decode cX3_init 148 = .ok (.iload_n 2, 1) := by decide +kernel
theorem dX3_init_149 : decode cX3_init 149 = .ok (.imul, 1) := by decide +kernel
theorem dX3_init_150 : decode cX3_init 150 = .ok (.iastore, 1) := by decide +kernel
theorem dX3_init_151 : decode cX3_init 151 = .ok (.iinc 2 1, 3) := by decide +kernel
theorem dX3_init_154 : decode cX3_init 154 = .ok (.goto (-44), 3) := by decide +kernel
theorem dX3_init_157 : decode cX3_init 157 = .ok (.iinc 1 1, 3) := by decide +kernel
theorem dX3_init_160 : decode cX3_init 160 = .ok (.goto (-74), 3) := by decide +kernel
theorem dX3_init_163 : decode cX3_init 163 = .ok (.iconst 0, 1) := by decide +kernel
theorem dX3_init_164 : decode cX3_init 164 = .ok (.istore_n 1, 1) := by decide +kernel
theorem dX3_init_165 : decode cX3_init 165 = .ok (.iload_n 1, 1) := by decide +kernel
theorem dX3_init_166 : decode cX3_init 166 = .ok (.bipush 36, 2) := by decide +kernel
theorem dX3_init_168 : decode cX3_init 168 = .ok (.if_icmp .ge 18, 3) := by decide +kernel
theorem dX3_init_171 : decode cX3_init 171 = .ok (.aload_n 0, 1) := by decide +kernel
theorem dX3_init_172 : decode cX3_init 172 = .ok (.getfield 28, 3) := by decide +kernel
theorem dX3_init_175 : decode cX3_init 175 = .ok (.iload_n 1, 1) := by decide +kernel
theorem dX3_init_176 : decode cX3_init 176 = .ok (.sipush (-900), 3) := by decide +kernel
theorem dX3_init_179 : decode cX3_init 179 = .ok (.iastore, 1) := by decide +kernel
theorem dX3_init_180 : decode cX3_init 180 = .ok (.iinc 1 1, 3) := by decide +kernel
theorem dX3_init_183 : decode cX3_init 183 = .ok (.goto (-18), 3) := by decide +kernel
theorem dX3_init_186 : decode cX3_init 186 = .ok (.iconst 0, 1) := by decide +kernel
theorem dX3_init_187 : decode cX3_init 187 = .ok (.istore_n 1, 1) := by decide +kernel
theorem dX3_init_188 : decode cX3_init 188 = .ok (.iload_n 1, 1) := by decide +kernel
theorem dX3_init_189 : decode cX3_init 189 = .ok (.bipush 12, 2) := by decide +kernel
theorem dX3_init_191 : decode cX3_init 191 = .ok (.if_icmp .ge 18, 3) := by decide +kernel
theorem dX3_init_194 : decode cX3_init 194 = .ok (.aload_n 0, 1) := by decide +kernel
theorem dX3_init_195 : decode cX3_init 195 = .ok (.getfield 31, 3) := by decide +kernel
theorem dX3_init_198 : decode cX3_init 198 = .ok (.iload_n 1, 1) := by decide +kernel
theorem dX3_init_199 : decode cX3_init 199 = .ok (.sipush (-900), 3) := by decide +kernel
theorem dX3_init_202 : decode cX3_init 202 = .ok (.iastore, 1) := by decide +kernel
theorem dX3_init_203 : decode cX3_init 203 = .ok (.iinc 1 1, 3) := by decide +kernel
theorem dX3_init_206 : decode cX3_init 206 = .ok (.goto (-18), 3) := by decide +kernel
theorem dX3_init_209 : decode cX3_init 209 = .ok (.return_, 1) := by decide +kernel
theorem dX3_in_0 : decode cX3_in 0 = .ok (.iload_n 0, 1) := by decide +kernel
theorem dX3_in_1 : decode cX3_in 1 = .ok (.iload_n 1, 1) := by decide +kernel
theorem dX3_in_2 : decode cX3_in 2 = .ok (.if_icmp .lt 12, 3) := by decide +kernel
theorem dX3_in_5 : decode cX3_in 5 = .ok (.iload_n 0, 1) := by decide +kernel
theorem dX3_in_6 : decode cX3_in 6 = .ok (.iload_n 2, 1) := by decide +kernel
theorem dX3_in_7 : decode cX3_in 7 = .ok (.if_icmp .gt 7, 3) := by decide +kernel
theorem dX3_in_10 : decode cX3_in 10 = .ok (.iconst 1, 1) := by decide +kernel
theorem dX3_in_11 : decode cX3_in 11 = .ok (.goto 4, 3) := by decide +kernel
theorem dX3_in_14 : decode cX3_in 14 = .ok (.iconst 0, 1) := by decide +kernel
theorem dX3_in_15 : decode cX3_in 15 = .ok (.ireturn, 1) := by decide +kernel
theorem dX3_size_0 : decode cX3_size 0 = .ok (.iload_n 0, 1) := by decide +kernel
theorem dX3_size_1 : decode cX3_size 1 = .ok (.ifCond .ge 8, 3) := by decide +kernel
theorem dX3_size_4 : decode cX3_size 4 = .ok (.iload_n 0, 1) := by decide +kernel
theorem dX3_size_5 : decode cX3_size 5 = .ok (.ineg, 1) := by decide +kernel
theorem dX3_size_6 : decode cX3_size 6 = .ok (.goto 4, 3) := by decide +kernel
theorem dX3_size_9 : decode cX3_size 9 = .ok (.iload_n 0, 1) := by decide +kernel
theorem dX3_size_10 : decode cX3_size 10 = .ok (.ireturn, 1) := by decide +kernel
theorem dX3_isLine_0 : decode cX3_isLine 0 = .ok (.iload_n 0, 1) := by decide +kernel
theorem dX3_isLine_1 : decode cX3_isLine 1 = .ok (.iconst 0, 1) := by decide +kernel
theorem dX3_isLine_2 : decode cX3_isLine 2 = .ok (.iconst 1, 1) := by decide +kernel
theorem dX3_isLine_3 : decode cX3_isLine 3 = .ok (.invokestatic 40, 3) := by decide +kernel
theorem dX3_isLine_6 : decode cX3_isLine 6 = .ok (.ifCond .eq 16, 3) := by decide +kernel
theorem dX3_isLine_9 : decode cX3_isLine 9 = .ok (.iload_n 1, 1) := by decide +kernel
theorem dX3_isLine_10 : decode cX3_isLine 10 = .ok (.iconst 0, 1) := by decide +kernel
theorem dX3_isLine_11 : decode cX3_isLine 11 = .ok (.iconst 3, 1) := by decide +kernel
theorem dX3_isLine_12 : decode cX3_isLine 12 = .ok (.invokestatic 40, 3) := by decide +kernel
theorem dX3_isLine_15 : decode cX3_isLine 15 = .ok (.ifCond .eq 7, 3) := by decide +kernel
theorem dX3_isLine_18 : decode cX3_isLine 18 = .ok (.iconst 1, 1) := by decide +kernel
theorem dX3_isLine_19 : decode cX3_isLine 19 = .ok (.goto 4, 3) := by decide +kernel
theorem dX3_isLine_22 : decode cX3_isLine 22 = .ok (.iconst 0, 1) := by decide +kernel
theorem dX3_isLine_23 : decode cX3_isLine 23 = .ok (.ireturn, 1) := by decide +kernel
theorem dX3_line_0 : decode cX3_line 0 = .ok (.iload_n 1, 1) := by decide +kernel
theorem dX3_line_1 : decode cX3_line 1 = .ok (.iload_n 2, 1) := by decide +kernel
theorem dX3_line_2 : decode cX3_line 2 = .ok (.invokestatic 44, 3) := by decide +kernel
theorem dX3_line_5 : decode cX3_line 5 = .ok (.ifCond .eq 33, 3) := by decide +kernel
theorem dX3_line_8 : decode cX3_line 8 = .ok (.iload_n 3, 1) := by decide +kernel
theorem dX3_line_9 : decode cX3_line 9 = .ok (.iconst 0, 1) := by decide +kernel
theorem dX3_line_10 : decode cX3_line 10 = .ok (.iconst 2, 1) := by decide +kernel
theorem dX3_line_11 : decode cX3_line 11 = .ok (.invokestatic 40, 3) := by decide +kernel
theorem dX3_line_14 : decode cX3_line 14 = .ok (.ifCond .eq 24, 3) := by decide +kernel
theorem dX3_line_17 : decode cX3_line 17 = .ok (.iload 4, 2) := by decide +kernel
theorem dX3_line_19 : decode cX3_line 19 = .ok (.iconst 0, 1) := by decide +kernel
theorem dX3_line_20 : decode cX3_line 20 = .ok (.iconst 3, 1) := by decide +kernel
theorem dX3_line_21 : decode cX3_line 21 = .ok (.invokestatic 40, 3) := by decide +kernel
theorem dX3_line_24 : decode cX3_line 24 = .ok (.ifCond .eq 14, 3) := by decide +kernel
theorem dX3_line_27 : decode cX3_line 27 = .ok (.iload 5, 2) := by decide +kernel
theorem dX3_line_29 : decode cX3_line 29 = .ok (.iconst 0, 1) := by decide +kernel
theorem dX3_line_30 : decode cX3_line 30 = .ok (.bipush 9, 2) := by decide +kernel
theorem dX3_line_32 : decode cX3_line 32 = .ok (.invokestatic 40, 3) := by decide +kernel
theorem dX3_line_35 : decode cX3_line 35 = .ok (.ifCond .ne 6, 3) := by decide +kernel
theorem dX3_line_38 : decode cX3_line 38 = .ok (.bipush (-100), 2) := by decide +kernel
theorem dX3_line_40 : decode cX3_line 40 = .ok (.ireturn, 1) := by decide +kernel
theorem dX3_line_41 : decode cX3_line 41 = .ok (.aload_n 0, 1) := by decide +kernel
theorem dX3_line_42 : decode cX3_line 42 = .ok (.getfield 7, 3) := by decide +kernel
theorem dX3_line_45 : decode cX3_line 45 = .ok (.iconst 4, 1) := by decide +kernel
theorem dX3_line_46 : decode cX3_line 46 = .ok (.iload_n 1, 1) := by decide +kernel
theorem dX3_line_47 : decode cX3_line 47 = .ok (.imul, 1) := by decide +kernel
theorem dX3_line_48 : decode cX3_line 48 = .ok (.iload_n 2, 1) := by decide +kernel
theorem dX3_line_49 : decode cX3_line 49 = .ok (.iadd, 1) := by decide +kernel
theorem dX3_line_50 : decode cX3_line 50 = .ok (.iload_n 3, 1) := by decide +kernel
theorem dX3_line_51 : decode cX3_line 51 = .ok (.iastore, 1) := by decide +kernel
theorem dX3_line_52 : decode cX3_line 52 = .ok (.aload_n 0, 1) := by decide +kernel
theorem dX3_line_53 : decode cX3_line 53 = .ok (.getfield 13, 3) := by decide +kernel
theorem dX3_line_56 : decode cX3_line 56 = .ok (.iconst 4, 1) := by decide +kernel
theorem dX3_line_57 : decode cX3_line 57 = .ok (.iload_n 1, 1) := by decide +kernel
theorem dX3_line_58 : decode cX3_line 58 = .ok (.imul, 1) := by decide +kernel
theorem dX3_line_59 : decode cX3_line 59 = .ok (.iload_n 2, 1) := by decide +kernel
theorem dX3_line_60 : decode cX3_line 60 = .ok (.iadd, 1) := by decide +kernel
theorem dX3_line_61 : decode cX3_line 61 = .ok (.iload 4, 2) := by decide +kernel
theorem dX3_line_63 : decode cX3_line 63 = .ok (.iastore, 1) := by decide +kernel
theorem dX3_line_64 : decode cX3_line 64 = .ok (.aload_n 0, 1) := by decide +kernel
theorem dX3_line_65 : decode cX3_line 65 = .ok (.getfield 16, 3) := by decide +kernel
theorem dX3_line_68 : decode cX3_line 68 = .ok (.iconst 4, 1) := by decide +kernel
theorem dX3_line_69 : decode cX3_line 69 = .ok (.iload_n 1, 1) := by decide +kernel
theorem dX3_line_70 : decode cX3_line 70 = .ok (.imul, 1) := by decide +kernel
theorem dX3_line_71 : decode cX3_line 71 = .ok (.iload_n 2, 1) := by decide +kernel
theorem dX3_line_72 : decode cX3_line 72 = .ok (.iadd, 1) := by decide +kernel
theorem dX3_line_73 : decode cX3_line 73 = .ok (.iload 5, 2) := by decide +kernel
theorem dX3_line_75 : decode cX3_line 75 = .ok (.iastore, 1) := by decide +kernel
theorem dX3_line_76 : decode cX3_line 76 = .ok (.iconst 1, 1) := by decide +kernel
theorem dX3_line_77 : decode cX3_line 77 = .ok (.ireturn, 1) := by decide +kernel
theorem dX3_span_0 : decode cX3_span 0 = .ok (.iload_n 1, 1) := by decide +kernel
theorem dX3_span_1 : decode cX3_span 1 = .ok (.iload_n 2, 1) := by decide +kernel
theorem dX3_span_2 : decode cX3_span 2 = .ok (.invokestatic 44, 3) := by decide +kernel
theorem dX3_span_5 : decode cX3_span 5 = .ok (.ifCond .eq 34, 3) := by decide +kernel
theorem dX3_span_8 : decode cX3_span 8 = .ok (.iload_n 3, 1) := by decide +kernel
theorem dX3_span_9 : decode cX3_span 9 = .ok (.iconst 0, 1) := by decide +kernel
theorem dX3_span_10 : decode cX3_span 10 = .ok (.iconst 3, 1) := by decide +kernel
theorem dX3_span_11 : decode cX3_span 11 = .ok (.invokestatic 40, 3) := by decide +kernel
theorem dX3_span_14 : decode cX3_span 14 = .ok (.ifCond .eq 25, 3) := by decide +kernel
theorem dX3_span_17 : decode cX3_span 17 = .ok (.iload 4, 2) := by decide +kernel
theorem dX3_span_19 : decode cX3_span 19 = .ok (.iconst 0, 1) := by decide +kernel
theorem dX3_span_20 : decode cX3_span 20 = .ok (.bipush 9, 2) := by decide +kernel
theorem dX3_span_22 : decode cX3_span 22 = .ok (.invokestatic 40, 3) := by decide +kernel
theorem dX3_span_25 : decode cX3_span 25 = .ok (.ifCond .eq 14, 3) := by decide +kernel
theorem dX3_span_28 : decode cX3_span 28 = .ok (.iload 5, 2) := by decide +kernel
theorem dX3_span_30 : decode cX3_span 30 = .ok (.iconst 0, 1) := by decide +kernel
theorem dX3_span_31 : decode cX3_span 31 = .ok (.bipush 9, 2) := by decide +kernel
theorem dX3_span_33 : decode cX3_span 33 = .ok (.invokestatic 40, 3) := by decide +kernel
theorem dX3_span_36 : decode cX3_span 36 = .ok (.ifCond .ne 6, 3) := by decide +kernel
theorem dX3_span_39 : decode cX3_span 39 = .ok (.bipush (-100), 2) := by decide +kernel
theorem dX3_span_41 : decode cX3_span 41 = .ok (.ireturn, 1) := by decide +kernel
theorem dX3_span_42 : decode cX3_span 42 = .ok (.aload_n 0, 1) := by decide +kernel
theorem dX3_span_43 : decode cX3_span 43 = .ok (.getfield 19, 3) := by decide +kernel
theorem dX3_span_46 : decode cX3_span 46 = .ok (.bipush 16, 2) := by decide +kernel
theorem dX3_span_48 : decode cX3_span 48 = .ok (.iload_n 1, 1) := by decide +kernel
theorem dX3_span_49 : decode cX3_span 49 = .ok (.imul, 1) := by decide +kernel
theorem dX3_span_50 : decode cX3_span 50 = .ok (.iconst 4, 1) := by decide +kernel
theorem dX3_span_51 : decode cX3_span 51 = .ok (.iload_n 2, 1) := by decide +kernel
theorem dX3_span_52 : decode cX3_span 52 = .ok (.imul, 1) := by decide +kernel
theorem dX3_span_53 : decode cX3_span 53 = .ok (.iadd, 1) := by decide +kernel
theorem dX3_span_54 : decode cX3_span 54 = .ok (.iload_n 3, 1) := by decide +kernel
theorem dX3_span_55 : decode cX3_span 55 = .ok (.iadd, 1) := by decide +kernel
theorem dX3_span_56 : decode cX3_span 56 = .ok (.iload 4, 2) := by decide +kernel
theorem dX3_span_58 : decode cX3_span 58 = .ok (.iastore, 1) := by decide +kernel
theorem dX3_span_59 : decode cX3_span 59 = .ok (.aload_n 0, 1) := by decide +kernel
theorem dX3_span_60 : decode cX3_span 60 = .ok (.getfield 22, 3) := by decide +kernel
theorem dX3_span_63 : decode cX3_span 63 = .ok (.bipush 16, 2) := by decide +kernel
theorem dX3_span_65 : decode cX3_span 65 = .ok (.iload_n 1, 1) := by decide +kernel
theorem dX3_span_66 : decode cX3_span 66 = .ok (.imul, 1) := by decide +kernel
theorem dX3_span_67 : decode cX3_span 67 = .ok (.iconst 4, 1) := by decide +kernel
theorem dX3_span_68 : decode cX3_span 68 = .ok (.iload_n 2, 1) := by decide +kernel
theorem dX3_span_69 : decode cX3_span 69 = .ok (.imul, 1) := by decide +kernel
theorem dX3_span_70 : decode cX3_span 70 = .ok (.iadd, 1) := by decide +kernel
theorem dX3_span_71 : decode cX3_span 71 = .ok (.iload_n 3, 1) := by decide +kernel
theorem dX3_span_72 : decode cX3_span 72 = .ok (.iadd, 1) := by decide +kernel
theorem dX3_span_73 : decode cX3_span 73 = .ok (.iload 5, 2) := by decide +kernel
theorem dX3_span_75 : decode cX3_span 75 = .ok (.iastore, 1) := by decide +kernel
theorem dX3_span_76 : decode cX3_span 76 = .ok (.iconst 1, 1) := by decide +kernel
theorem dX3_span_77 : decode cX3_span 77 = .ok (.ireturn, 1) := by decide +kernel
theorem dX3_about_0 : decode cX3_about 0 = .ok (.iload_n 1, 1) := by decide +kernel
theorem dX3_about_1 : decode cX3_about 1 = .ok (.iload_n 2, 1) := by decide +kernel
theorem dX3_about_2 : decode cX3_about 2 = .ok (.invokestatic 44, 3) := by decide +kernel
theorem dX3_about_5 : decode cX3_about 5 = .ok (.ifCond .eq 13, 3) := by decide +kernel
theorem dX3_about_8 : decode cX3_about 8 = .ok (.iload_n 3, 1) := by decide +kernel
theorem dX3_about_9 : decode cX3_about 9 = .ok (.iconst 0, 1) := by decide +kernel
theorem dX3_about_10 : decode cX3_about 10 = .ok (.bipush 10, 2) := by decide +kernel
theorem dX3_about_12 : decode cX3_about 12 = .ok (.invokestatic 40, 3) := by decide +kernel
theorem dX3_about_15 : decode cX3_about 15 = .ok (.ifCond .ne 6, 3) := by decide +kernel
theorem dX3_about_18 : decode cX3_about 18 = .ok (.bipush (-100), 2) := by decide +kernel
theorem dX3_about_20 : decode cX3_about 20 = .ok (.ireturn, 1) := by decide +kernel
theorem dX3_about_21 : decode cX3_about 21 = .ok (.iconst 4, 1) := by decide +kernel
theorem dX3_about_22 : decode cX3_about 22 = .ok (.iload_n 1, 1) := by decide +kernel
theorem dX3_about_23 : decode cX3_about 23 = .ok (.imul, 1) := by decide +kernel
theorem dX3_about_24 : decode cX3_about 24 = .ok (.iload_n 2, 1) := by decide +kernel
theorem dX3_about_25 : decode cX3_about 25 = .ok (.iadd, 1) := by decide +kernel
theorem dX3_about_26 : decode cX3_about 26 = .ok (.istore 4, 2) := by decide +kernel
theorem dX3_about_28 : decode cX3_about 28 = .ok (.iload_n 3, 1) := by decide +kernel
theorem dX3_about_29 : decode cX3_about 29 = .ok (.iconst 3, 1) := by decide +kernel
theorem dX3_about_30 : decode cX3_about 30 = .ok (.if_icmp .ge 40, 3) := by decide +kernel
theorem dX3_about_33 : decode cX3_about 33 = .ok (.iload_n 3, 1) := by decide +kernel
theorem dX3_about_34 : decode cX3_about 34 = .ok (.ifCond .ne 13, 3) := by decide +kernel
theorem dX3_about_37 : decode cX3_about 37 = .ok (.aload_n 0, 1) := by decide +kernel
theorem dX3_about_38 : decode cX3_about 38 = .ok (.getfield 7, 3) := by decide +kernel
theorem dX3_about_41 : decode cX3_about 41 = .ok (.iload 4, 2) := by decide +kernel
theorem dX3_about_43 : decode cX3_about 43 = .ok (.iaload, 1) := by decide +kernel
theorem dX3_about_44 : decode cX3_about 44 = .ok (.goto 25, 3) := by decide +kernel
theorem dX3_about_47 : decode cX3_about 47 = .ok (.iload_n 3, 1) := by decide +kernel
theorem dX3_about_48 : decode cX3_about 48 = .ok (.iconst 1, 1) := by decide +kernel
theorem dX3_about_49 : decode cX3_about 49 = .ok (.if_icmp .ne 13, 3) := by decide +kernel
theorem dX3_about_52 : decode cX3_about 52 = .ok (.aload_n 0, 1) := by decide +kernel
theorem dX3_about_53 : decode cX3_about 53 = .ok (.getfield 13, 3) := by decide +kernel
theorem dX3_about_56 : decode cX3_about 56 = .ok (.iload 4, 2) := by decide +kernel
theorem dX3_about_58 : decode cX3_about 58 = .ok (.iaload, 1) := by decide +kernel
theorem dX3_about_59 : decode cX3_about 59 = .ok (.goto 10, 3) := by decide +kernel
theorem dX3_about_62 : decode cX3_about 62 = .ok (.aload_n 0, 1) := by decide +kernel
theorem dX3_about_63 : decode cX3_about 63 = .ok (.getfield 16, 3) := by decide +kernel
theorem dX3_about_66 : decode cX3_about 66 = .ok (.iload 4, 2) := by decide +kernel
theorem dX3_about_68 : decode cX3_about 68 = .ok (.iaload, 1) := by decide +kernel
theorem dX3_about_69 : decode cX3_about 69 = .ok (.ireturn, 1) := by decide +kernel
theorem dX3_about_70 : decode cX3_about 70 = .ok (.iload_n 3, 1) := by decide +kernel
theorem dX3_about_71 : decode cX3_about 71 = .ok (.iconst 3, 1) := by decide +kernel
theorem dX3_about_72 : decode cX3_about 72 = .ok (.isub, 1) := by decide +kernel
theorem dX3_about_73 : decode cX3_about 73 = .ok (.iconst 2, 1) := by decide +kernel
theorem dX3_about_74 : decode cX3_about 74 = .ok (.idiv, 1) := by decide +kernel
theorem dX3_about_75 : decode cX3_about 75 = .ok (.istore 5, 2) := by decide +kernel
theorem dX3_about_77 : decode cX3_about 77 = .ok (.iload_n 3, 1) := by decide +kernel
theorem dX3_about_78 : decode cX3_about 78 = .ok (.iconst 2, 1) := by decide +kernel
theorem dX3_about_79 : decode cX3_about 79 = .ok (.irem, 1) := by decide +kernel
theorem dX3_about_80 : decode cX3_about 80 = .ok (.iconst 1, 1) := by decide +kernel
theorem dX3_about_81 : decode cX3_about 81 = .ok (.if_icmp .ne 18, 3) := by decide +kernel
theorem dX3_about_84 : decode cX3_about 84 = .ok (.aload_n 0, 1) := by decide +kernel
theorem dX3_about_85 : decode cX3_about 85 = .ok (.getfield 19, 3) := by decide +kernel
theorem dX3_about_88 : decode cX3_about 88 = .ok (.iconst 4, 1) := by decide +kernel
theorem dX3_about_89 : decode cX3_about 89 = .ok (.iload 4, 2) := by decide +kernel
theorem dX3_about_91 : decode cX3_about 91 = .ok (.imul, 1) := by decide +kernel
theorem dX3_about_92 : decode cX3_about 92 = .ok (.iload 5, 2) := by decide +kernel
theorem dX3_about_94 : decode cX3_about 94 = .ok (.iadd, 1) := by decide +kernel
theorem dX3_about_95 : decode cX3_about 95 = .ok (.iaload, 1) := by decide +kernel
theorem dX3_about_96 : decode cX3_about 96 = .ok (.goto 15, 3) := by decide +kernel
theorem dX3_about_99 : decode cX3_about 99 = .ok (.aload_n 0, 1) := by decide +kernel
theorem dX3_about_100 : decode cX3_about 100 = .ok (.getfield 22, 3) := by decide +kernel
theorem dX3_about_103 : decode cX3_about 103 = .ok (.iconst 4, 1) := by decide +kernel
theorem dX3_about_104 : decode cX3_about 104 = .ok (.iload 4, 2) := by decide +kernel
theorem dX3_about_106 : decode cX3_about 106 = .ok (.imul, 1) := by decide +kernel
theorem dX3_about_107 : decode cX3_about 107 = .ok (.iload 5, 2) := by decide +kernel
theorem dX3_about_109 : decode cX3_about 109 = .ok (.iadd, 1) := by decide +kernel
theorem dX3_about_110 : decode cX3_about 110 = .ok (.iaload, 1) := by decide +kernel
theorem dX3_about_111 : decode cX3_about 111 = .ok (.ireturn, 1) := by decide +kernel
theorem dX3_has_0 : decode cX3_has 0 = .ok (.iload_n 3, 1) := by decide +kernel
theorem dX3_has_1 : decode cX3_has 1 = .ok (.aload_n 0, 1) := by decide +kernel
theorem dX3_has_2 : decode cX3_has 2 = .ok (.getfield 19, 3) := by decide +kernel
theorem dX3_has_5 : decode cX3_has 5 = .ok (.iconst 4, 1) := by decide +kernel
theorem dX3_has_6 : decode cX3_has 6 = .ok (.iload_n 1, 1) := by decide +kernel
theorem dX3_has_7 : decode cX3_has 7 = .ok (.imul, 1) := by decide +kernel
theorem dX3_has_8 : decode cX3_has 8 = .ok (.iload_n 2, 1) := by decide +kernel
theorem dX3_has_9 : decode cX3_has 9 = .ok (.iadd, 1) := by decide +kernel
theorem dX3_has_10 : decode cX3_has 10 = .ok (.iaload, 1) := by decide +kernel
theorem dX3_has_11 : decode cX3_has 11 = .ok (.aload_n 0, 1) := by decide +kernel
theorem dX3_has_12 : decode cX3_has 12 = .ok (.getfield 22, 3) := by decide +kernel
theorem dX3_has_15 : decode cX3_has 15 = .ok (.iconst 4, 1) := by decide +kernel
theorem dX3_has_16 : decode cX3_has 16 = .ok (.iload_n 1, 1) := by decide +kernel
theorem dX3_has_17 : decode cX3_has 17 = .ok (.imul, 1) := by decide +kernel
theorem dX3_has_18 : decode cX3_has 18 = .ok (.iload_n 2, 1) := by decide +kernel
theorem dX3_has_19 : decode cX3_has 19 = .ok (.iadd, 1) := by decide +kernel
theorem dX3_has_20 : decode cX3_has 20 = .ok (.iaload, 1) := by decide +kernel
theorem dX3_has_21 : decode cX3_has 21 = .ok (.invokestatic 40, 3) := by decide +kernel
theorem dX3_has_24 : decode cX3_has 24 = .ok (.ireturn, 1) := by decide +kernel
theorem dX3_strict_0 : decode cX3_strict 0 = .ok (.iconst 3, 1) := by decide +kernel
theorem dX3_strict_1 : decode cX3_strict 1 = .ok (.istore_n 3, 1) := by decide +kernel
theorem dX3_strict_2 : decode cX3_strict 2 = .ok (.iload_n 3, 1) := by decide +kernel
theorem dX3_strict_3 : decode cX3_strict 3 = .ok (.ifCond .lt 21, 3) := by decide +kernel
theorem dX3_strict_6 : decode cX3_strict 6 = .ok (.aload_n 0, 1) := by decide +kernel
theorem dX3_strict_7 : decode cX3_strict 7 = .ok (.iload_n 1, 1) := by decide +kernel
theorem dX3_strict_8 : decode cX3_strict 8 = .ok (.iload_n 3, 1) := by decide +kernel
theorem dX3_strict_9 : decode cX3_strict 9 = .ok (.iload_n 2, 1) := by decide +kernel
theorem dX3_strict_10 : decode cX3_strict 10 = .ok (.invokevirtual 48, 3) := by decide +kernel
theorem dX3_strict_13 : decode cX3_strict 13 = .ok (.ifCond .eq 5, 3) := by decide +kernel
theorem dX3_strict_16 : decode cX3_strict 16 = .ok (.iload_n 3, 1) := by decide +kernel
theorem dX3_strict_17 : decode cX3_strict 17 = .ok (.ireturn, 1) := by decide +kernel
theorem dX3_strict_18 : decode cX3_strict 18 = .ok (.iinc 3 (-1), 3) := by decide +kernel
theorem dX3_strict_21 : decode cX3_strict 21 = .ok (.goto (-19), 3) := by decide +kernel
theorem dX3_strict_24 : decode cX3_strict 24 = .ok (.sipush (-900), 3) := by decide +kernel
theorem dX3_strict_27 : decode cX3_strict 27 = .ok (.ireturn, 1) := by decide +kernel
theorem dX3_filled_0 : decode cX3_filled 0 = .ok (.aload_n 0, 1) := by decide +kernel
theorem dX3_filled_1 : decode cX3_filled 1 = .ok (.iload_n 1, 1) := by decide +kernel
theorem dX3_filled_2 : decode cX3_filled 2 = .ok (.iload_n 2, 1) := by decide +kernel
theorem dX3_filled_3 : decode cX3_filled 3 = .ok (.invokevirtual 51, 3) := by decide +kernel
theorem dX3_filled_6 : decode cX3_filled 6 = .ok (.istore_n 3, 1) := by decide +kernel
theorem dX3_filled_7 : decode cX3_filled 7 = .ok (.iconst 3, 1) := by decide +kernel
theorem dX3_filled_8 : decode cX3_filled 8 = .ok (.istore 4, 2) := by decide +kernel
theorem dX3_filled_10 : decode cX3_filled 10 = .ok (.iload 4, 2) := by decide +kernel
theorem dX3_filled_12 : decode cX3_filled 12 = .ok (.ifCond .lt 59, 3) := by decide +kernel
theorem dX3_filled_15 : decode cX3_filled 15 = .ok (.iload_n 3, 1) := by decide +kernel
theorem dX3_filled_16 : decode cX3_filled 16 = .ok (.sipush (-900), 3) := by decide +kernel
theorem dX3_filled_19 : decode cX3_filled 19 = .ok (.if_icmp .ne 52, 3) := by decide +kernel
theorem dX3_filled_22 : decode cX3_filled 22 = .ok (.aload_n 0, 1) := by decide +kernel
theorem dX3_filled_23 : decode cX3_filled 23 = .ok (.getfield 19, 3) := by decide +kernel
theorem dX3_filled_26 : decode cX3_filled 26 = .ok (.iconst 4, 1) := by decide +kernel
theorem dX3_filled_27 : decode cX3_filled 27 = .ok (.iload_n 1, 1) := by decide +kernel
theorem dX3_filled_28 : decode cX3_filled 28 = .ok (.imul, 1) := by decide +kernel
theorem dX3_filled_29 : decode cX3_filled 29 = .ok (.iload 4, 2) := by decide +kernel
theorem dX3_filled_31 : decode cX3_filled 31 = .ok (.iadd, 1) := by decide +kernel
theorem dX3_filled_32 : decode cX3_filled 32 = .ok (.iaload, 1) := by decide +kernel
theorem dX3_filled_33 : decode cX3_filled 33 = .ok (.aload_n 0, 1) := by decide +kernel
theorem dX3_filled_34 : decode cX3_filled 34 = .ok (.getfield 22, 3) := by decide +kernel
theorem dX3_filled_37 : decode cX3_filled 37 = .ok (.iconst 4, 1) := by decide +kernel
theorem dX3_filled_38 : decode cX3_filled 38 = .ok (.iload_n 1, 1) := by decide +kernel
theorem dX3_filled_39 : decode cX3_filled 39 = .ok (.imul, 1) := by decide +kernel
theorem dX3_filled_40 : decode cX3_filled 40 = .ok (.iload 4, 2) := by decide +kernel
theorem dX3_filled_42 : decode cX3_filled 42 = .ok (.iadd, 1) := by decide +kernel
theorem dX3_filled_43 : decode cX3_filled 43 = .ok (.iaload, 1) := by decide +kernel
theorem dX3_filled_44 : decode cX3_filled 44 = .ok (.if_icmp .gt 21, 3) := by decide +kernel
theorem dX3_filled_47 : decode cX3_filled 47 = .ok (.aload_n 0, 1) := by decide +kernel
theorem dX3_filled_48 : decode cX3_filled 48 = .ok (.getfield 22, 3) := by decide +kernel
theorem dX3_filled_51 : decode cX3_filled 51 = .ok (.iconst 4, 1) := by decide +kernel
theorem dX3_filled_52 : decode cX3_filled 52 = .ok (.iload_n 1, 1) := by decide +kernel
theorem dX3_filled_53 : decode cX3_filled 53 = .ok (.imul, 1) := by decide +kernel
theorem dX3_filled_54 : decode cX3_filled 54 = .ok (.iload 4, 2) := by decide +kernel
theorem dX3_filled_56 : decode cX3_filled 56 = .ok (.iadd, 1) := by decide +kernel
theorem dX3_filled_57 : decode cX3_filled 57 = .ok (.iaload, 1) := by decide +kernel
theorem dX3_filled_58 : decode cX3_filled 58 = .ok (.iload_n 2, 1) := by decide +kernel
theorem dX3_filled_59 : decode cX3_filled 59 = .ok (.if_icmp .ge 6, 3) := by decide +kernel
theorem dX3_filled_62 : decode cX3_filled 62 = .ok (.iload 4, 2) := by decide +kernel
theorem dX3_filled_64 : decode cX3_filled 64 = .ok (.ireturn, 1) := by decide +kernel
theorem dX3_filled_65 : decode cX3_filled 65 = .ok (.iinc 4 (-1), 3) := by decide +kernel
theorem dX3_filled_68 : decode cX3_filled 68 = .ok (.goto (-58), 3) := by decide +kernel
theorem dX3_filled_71 : decode cX3_filled 71 = .ok (.iload_n 3, 1) := by decide +kernel
theorem dX3_filled_72 : decode cX3_filled 72 = .ok (.sipush (-900), 3) := by decide +kernel
theorem dX3_filled_75 : decode cX3_filled 75 = .ok (.if_icmp .ne 7, 3) := by decide +kernel
theorem dX3_filled_78 : decode cX3_filled 78 = .ok (.iconst 0, 1) := by decide +kernel
theorem dX3_filled_79 : decode cX3_filled 79 = .ok (.goto 4, 3) := by decide +kernel
theorem dX3_filled_82 : decode cX3_filled 82 = .ok (.iload_n 3, 1) := by decide +kernel
theorem dX3_filled_83 : decode cX3_filled 83 = .ok (.ireturn, 1) := by decide +kernel
theorem dX3_levelOf_0 : decode cX3_levelOf 0 = .ok (.aload_n 0, 1) := by decide +kernel
theorem dX3_levelOf_1 : decode cX3_levelOf 1 = .ok (.getfield 7, 3) := by decide +kernel
theorem dX3_levelOf_4 : decode cX3_levelOf 4 = .ok (.iload_n 1, 1) := by decide +kernel
theorem dX3_levelOf_5 : decode cX3_levelOf 5 = .ok (.iaload, 1) := by decide +kernel
theorem dX3_levelOf_6 : decode cX3_levelOf 6 = .ok (.ifCond .ne 10, 3) := by decide +kernel
theorem dX3_levelOf_9 : decode cX3_levelOf 9 = .ok (.aload_n 0, 1) := by decide +kernel
theorem dX3_levelOf_10 : decode cX3_levelOf 10 = .ok (.iload_n 1, 1) := by decide +kernel
theorem dX3_levelOf_11 : decode cX3_levelOf 11 = .ok (.iload_n 2, 1) := by decide +kernel
theorem dX3_levelOf_12 : decode cX3_levelOf 12 = .ok (.invokevirtual 51, 3) := by decide +kernel
theorem dX3_levelOf_15 : decode cX3_levelOf 15 = .ok (.ireturn, 1) := by decide +kernel
theorem dX3_levelOf_16 : decode cX3_levelOf 16 = .ok (.aload_n 0, 1) := by decide +kernel
theorem dX3_levelOf_17 : decode cX3_levelOf 17 = .ok (.iload_n 1, 1) := by decide +kernel
theorem dX3_levelOf_18 : decode cX3_levelOf 18 = .ok (.iload_n 2, 1) := by decide +kernel
theorem dX3_levelOf_19 : decode cX3_levelOf 19 = .ok (.invokevirtual 55, 3) := by decide +kernel
theorem dX3_levelOf_22 : decode cX3_levelOf 22 = .ok (.istore_n 3, 1) := by decide +kernel
theorem dX3_levelOf_23 : decode cX3_levelOf 23 = .ok (.aload_n 0, 1) := by decide +kernel
theorem dX3_levelOf_24 : decode cX3_levelOf 24 = .ok (.getfield 7, 3) := by decide +kernel
theorem dX3_levelOf_27 : decode cX3_levelOf 27 = .ok (.iload_n 1, 1) := by decide +kernel
theorem dX3_levelOf_28 : decode cX3_levelOf 28 = .ok (.iaload, 1) := by decide +kernel
theorem dX3_levelOf_29 : decode cX3_levelOf 29 = .ok (.iconst 2, 1) := by decide +kernel
theorem dX3_levelOf_30 : decode cX3_levelOf 30 = .ok (.if_icmp .ne 31, 3) := by decide +kernel
theorem dX3_levelOf_33 : decode cX3_levelOf 33 = .ok (.aload_n 0, 1) := by decide +kernel
theorem dX3_levelOf_34 : decode cX3_levelOf 34 = .ok (.iload_n 1, 1) := by decide +kernel
theorem dX3_levelOf_35 : decode cX3_levelOf 35 = .ok (.iload_n 3, 1) := by decide +kernel
theorem dX3_levelOf_36 : decode cX3_levelOf 36 = .ok (.iload_n 2, 1) := by decide +kernel
theorem dX3_levelOf_37 : decode cX3_levelOf 37 = .ok (.invokevirtual 48, 3) := by decide +kernel
theorem dX3_levelOf_40 : decode cX3_levelOf 40 = .ok (.ifCond .eq 21, 3) := by decide +kernel
theorem dX3_levelOf_43 : decode cX3_levelOf 43 = .ok (.aload_n 0, 1) := by decide +kernel
theorem dX3_levelOf_44 : decode cX3_levelOf 44 = .ok (.getfield 22, 3) := by decide +kernel
theorem dX3_levelOf_47 : decode cX3_levelOf 47 = .ok (.iconst 4, 1) := by decide +kernel
theorem dX3_levelOf_48 : decode cX3_levelOf 48 = .ok (.iload_n 1, 1) := by decide +kernel
theorem dX3_levelOf_49 : decode cX3_levelOf 49 = .ok (.imul, 1) := by decide +kernel
theorem dX3_levelOf_50 : decode cX3_levelOf 50 = .ok (.iload_n 3, 1) := by decide +kernel
theorem dX3_levelOf_51 : decode cX3_levelOf 51 = .ok (.iadd, 1) := by decide +kernel
theorem dX3_levelOf_52 : decode cX3_levelOf 52 = .ok (.iaload, 1) := by decide +kernel
theorem dX3_levelOf_53 : decode cX3_levelOf 53 = .ok (.iload_n 2, 1) := by decide +kernel
theorem dX3_levelOf_54 : decode cX3_levelOf 54 = .ok (.if_icmp .ne 7, 3) := by decide +kernel
theorem dX3_levelOf_57 : decode cX3_levelOf 57 = .ok (.iconst 1, 1) := by decide +kernel
theorem dX3_levelOf_58 : decode cX3_levelOf 58 = .ok (.goto 4, 3) := by decide +kernel
theorem dX3_levelOf_61 : decode cX3_levelOf 61 = .ok (.iconst 0, 1) := by decide +kernel
theorem dX3_levelOf_62 : decode cX3_levelOf 62 = .ok (.istore 4, 2) := by decide +kernel
theorem dX3_levelOf_64 : decode cX3_levelOf 64 = .ok (.iload 4, 2) := by decide +kernel
theorem dX3_levelOf_66 : decode cX3_levelOf 66 = .ok (.ifCond .eq 14, 3) := by decide +kernel
theorem dX3_levelOf_69 : decode cX3_levelOf 69 = .ok (.iload_n 3, 1) := by decide +kernel
theorem dX3_levelOf_70 : decode cX3_levelOf 70 = .ok (.iconst 3, 1) := by decide +kernel
theorem dX3_levelOf_71 : decode cX3_levelOf 71 = .ok (.if_icmp .ge 9, 3) := by decide +kernel
theorem dX3_levelOf_74 : decode cX3_levelOf 74 = .ok (.iload_n 3, 1) := by decide +kernel
theorem dX3_levelOf_75 : decode cX3_levelOf 75 = .ok (.iconst 1, 1) := by decide +kernel
theorem dX3_levelOf_76 : decode cX3_levelOf 76 = .ok (.iadd, 1) := by decide +kernel
theorem dX3_levelOf_77 : decode cX3_levelOf 77 = .ok (.goto 4, 3) := by decide +kernel
theorem dX3_levelOf_80 : decode cX3_levelOf 80 = .ok (.iload_n 3, 1) := by decide +kernel
theorem dX3_levelOf_81 : decode cX3_levelOf 81 = .ok (.ireturn, 1) := by decide +kernel
theorem dX3_level_0 : decode cX3_level 0 = .ok (.iload_n 1, 1) := by decide +kernel
theorem dX3_level_1 : decode cX3_level 1 = .ok (.iload_n 2, 1) := by decide +kernel
theorem dX3_level_2 : decode cX3_level 2 = .ok (.invokestatic 44, 3) := by decide +kernel
theorem dX3_level_5 : decode cX3_level 5 = .ok (.ifCond .eq 13, 3) := by decide +kernel
theorem dX3_level_8 : decode cX3_level 8 = .ok (.iload_n 3, 1) := by decide +kernel
theorem dX3_level_9 : decode cX3_level 9 = .ok (.iconst 0, 1) := by decide +kernel
theorem dX3_level_10 : decode cX3_level 10 = .ok (.bipush 9, 2) := by decide +kernel
theorem dX3_level_12 : decode cX3_level 12 = .ok (.invokestatic 40, 3) := by decide +kernel
theorem dX3_level_15 : decode cX3_level 15 = .ok (.ifCond .ne 6, 3) := by decide +kernel
theorem dX3_level_18 : decode cX3_level 18 = .ok (.bipush (-100), 2) := by decide +kernel
theorem dX3_level_20 : decode cX3_level 20 = .ok (.ireturn, 1) := by decide +kernel
theorem dX3_level_21 : decode cX3_level 21 = .ok (.iconst 4, 1) := by decide +kernel
theorem dX3_level_22 : decode cX3_level 22 = .ok (.iload_n 1, 1) := by decide +kernel
theorem dX3_level_23 : decode cX3_level 23 = .ok (.imul, 1) := by decide +kernel
theorem dX3_level_24 : decode cX3_level 24 = .ok (.iload_n 2, 1) := by decide +kernel
theorem dX3_level_25 : decode cX3_level 25 = .ok (.iadd, 1) := by decide +kernel
theorem dX3_level_26 : decode cX3_level 26 = .ok (.istore 4, 2) := by decide +kernel
theorem dX3_level_28 : decode cX3_level 28 = .ok (.aload_n 0, 1) := by decide +kernel
theorem dX3_level_29 : decode cX3_level 29 = .ok (.dup, 1) := by decide +kernel
theorem dX3_level_30 : decode cX3_level 30 = .ok (.getfield 58, 3) := by decide +kernel
theorem dX3_level_33 : decode cX3_level 33 = .ok (.aload_n 0, 1) := by decide +kernel
theorem dX3_level_34 : decode cX3_level 34 = .ok (.getfield 7, 3) := by decide +kernel
theorem dX3_level_37 : decode cX3_level 37 = .ok (.iload 4, 2) := by decide +kernel
theorem dX3_level_39 : decode cX3_level 39 = .ok (.iaload, 1) := by decide +kernel
theorem dX3_level_40 : decode cX3_level 40 = .ok (.ifCond .ne 7, 3) := by decide +kernel
theorem dX3_level_43 : decode cX3_level 43 = .ok (.lconst 1, 1) := by decide +kernel
theorem dX3_level_44 : decode cX3_level 44 = .ok (.goto 23, 3) := by decide +kernel
theorem dX3_level_47 : decode cX3_level 47 = .ok (.aload_n 0, 1) := by decide +kernel
theorem dX3_level_48 : decode cX3_level 48 = .ok (.getfield 7, 3) := by decide +kernel
theorem dX3_level_51 : decode cX3_level 51 = .ok (.iload 4, 2) := by decide +kernel
theorem dX3_level_53 : decode cX3_level 53 = .ok (.iaload, 1) := by decide +kernel
theorem dX3_level_54 : decode cX3_level 54 = .ok (.iconst 1, 1) := by decide +kernel
theorem dX3_level_55 : decode cX3_level 55 = .ok (.if_icmp .ne 9, 3) := by decide +kernel
theorem dX3_level_58 : decode cX3_level 58 = .ok (.ldc2_w 62, 3) := by decide +kernel
theorem dX3_level_61 : decode cX3_level 61 = .ok (.goto 6, 3) := by decide +kernel
theorem dX3_level_64 : decode cX3_level 64 = .ok (.ldc2_w 64, 3) := by decide +kernel
theorem dX3_level_67 : decode cX3_level 67 = .ok (.ladd, 1) := by decide +kernel
theorem dX3_level_68 : decode cX3_level 68 = .ok (.putfield 58, 3) := by decide +kernel
theorem dX3_level_71 : decode cX3_level 71 = .ok (.aload_n 0, 1) := by decide +kernel
theorem dX3_level_72 : decode cX3_level 72 = .ok (.iload 4, 2) := by decide +kernel
