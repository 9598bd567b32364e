theorem nd_Gauge_sense_0 : decode nC_Gauge_sense 0 = .ok (.aload_n 0, 1) := by decide +kernel
theorem nd_Gauge_sense_1 : decode nC_Gauge_sense 1 = .ok (.getfield 9, 3) := by decide +kernel
theorem nd_Gauge_sense_4 : decode nC_Gauge_sense 4 = .ok (.iload_n 1, 1) := by decide +kernel
theorem nd_Gauge_sense_5 : decode nC_Gauge_sense 5 = .ok (.iload_n 2, 1) := by decide +kernel
theorem nd_Gauge_sense_6 : decode nC_Gauge_sense 6 = .ok (.iastore, 1) := by decide +kernel
theorem nd_Gauge_sense_7 : decode nC_Gauge_sense 7 = .ok (.aload_n 0, 1) := by decide +kernel
theorem nd_Gauge_sense_8 : decode nC_Gauge_sense 8 = .ok (.getfield 15, 3) := by decide +kernel
theorem nd_Gauge_sense_11 : decode nC_Gauge_sense 11 = .ok (.iload_n 1, 1) := by decide +kernel
theorem nd_Gauge_sense_12 : decode nC_Gauge_sense 12 = .ok (.iconst 1, 1) := by decide +kernel
theorem nd_Gauge_sense_13 : decode nC_Gauge_sense 13 = .ok (.bastore, 1) := by decide +kernel
theorem nd_Gauge_sense_14 : decode nC_Gauge_sense 14 = .ok (.return_, 1) := by decide +kernel
theorem nd_Gauge_compare_0 : decode nC_Gauge_compare 0 = .ok (.aload_n 0, 1) := by decide +kernel
theorem nd_Gauge_compare_1 : decode nC_Gauge_compare 1 = .ok (.getfield 22, 3) := by decide +kernel
theorem nd_Gauge_compare_4 : decode nC_Gauge_compare 4 = .ok (.iload_n 1, 1) := by decide +kernel
theorem nd_Gauge_compare_5 : decode nC_Gauge_compare 5 = .ok (.baload, 1) := by decide +kernel
theorem nd_Gauge_compare_6 : decode nC_Gauge_compare 6 = .ok (.ifCond .ne 13, 3) := by decide +kernel
theorem nd_Gauge_compare_9 : decode nC_Gauge_compare 9 = .ok (.aload_n 0, 1) := by decide +kernel
theorem nd_Gauge_compare_10 : decode nC_Gauge_compare 10 = .ok (.dup, 1) := by decide +kernel
theorem nd_Gauge_compare_11 : decode nC_Gauge_compare 11 = .ok (.getfield 25, 3) := by decide +kernel
theorem nd_Gauge_compare_14 : decode nC_Gauge_compare 14 = .ok (.iconst 1, 1) := by decide +kernel
theorem nd_Gauge_compare_15 : decode nC_Gauge_compare 15 = .ok (.iadd, 1) := by decide +kernel
theorem nd_Gauge_compare_16 : decode nC_Gauge_compare 16 = .ok (.putfield 25, 3) := by decide +kernel
theorem nd_Gauge_compare_19 : decode nC_Gauge_compare 19 = .ok (.aload_n 0, 1) := by decide +kernel
theorem nd_Gauge_compare_20 : decode nC_Gauge_compare 20 = .ok (.getfield 19, 3) := by decide +kernel
theorem nd_Gauge_compare_23 : decode nC_Gauge_compare 23 = .ok (.iload_n 1, 1) := by decide +kernel
theorem nd_Gauge_compare_24 : decode nC_Gauge_compare 24 = .ok (.iload_n 2, 1) := by decide +kernel
theorem nd_Gauge_compare_25 : decode nC_Gauge_compare 25 = .ok (.iastore, 1) := by decide +kernel
theorem nd_Gauge_compare_26 : decode nC_Gauge_compare 26 = .ok (.aload_n 0, 1) := by decide +kernel
theorem nd_Gauge_compare_27 : decode nC_Gauge_compare 27 = .ok (.getfield 22, 3) := by decide +kernel
theorem nd_Gauge_compare_30 : decode nC_Gauge_compare 30 = .ok (.iload_n 1, 1) := by decide +kernel
theorem nd_Gauge_compare_31 : decode nC_Gauge_compare 31 = .ok (.iconst 1, 1) := by decide +kernel
theorem nd_Gauge_compare_32 : decode nC_Gauge_compare 32 = .ok (.bastore, 1) := by decide +kernel
theorem nd_Gauge_compare_33 : decode nC_Gauge_compare 33 = .ok (.return_, 1) := by decide +kernel
theorem nd_Gauge_lastCheckUpTo_0 : decode nC_Gauge_lastCheckUpTo 0 = .ok (.iload_n 1, 1) := by decide +kernel
theorem nd_Gauge_lastCheckUpTo_1 : decode nC_Gauge_lastCheckUpTo 1 = .ok (.istore_n 2, 1) := by decide +kernel
theorem nd_Gauge_lastCheckUpTo_2 : decode nC_Gauge_lastCheckUpTo 2 = .ok (.iload_n 2, 1) := by decide +kernel
theorem nd_Gauge_lastCheckUpTo_3 : decode nC_Gauge_lastCheckUpTo 3 = .ok (.ifCond .lt 20, 3) := by decide +kernel
theorem nd_Gauge_lastCheckUpTo_6 : decode nC_Gauge_lastCheckUpTo 6 = .ok (.aload_n 0, 1) := by decide +kernel
theorem nd_Gauge_lastCheckUpTo_7 : decode nC_Gauge_lastCheckUpTo 7 = .ok (.getfield 22, 3) := by decide +kernel
theorem nd_Gauge_lastCheckUpTo_10 : decode nC_Gauge_lastCheckUpTo 10 = .ok (.iload_n 2, 1) := by decide +kernel
theorem nd_Gauge_lastCheckUpTo_11 : decode nC_Gauge_lastCheckUpTo 11 = .ok (.baload, 1) := by decide +kernel
theorem nd_Gauge_lastCheckUpTo_12 : decode nC_Gauge_lastCheckUpTo 12 = .ok (.ifCond .eq 5, 3) := by decide +kernel
theorem nd_Gauge_lastCheckUpTo_15 : decode nC_Gauge_lastCheckUpTo 15 = .ok (.iload_n 2, 1) := by decide +kernel
theorem nd_Gauge_lastCheckUpTo_16 : decode nC_Gauge_lastCheckUpTo 16 = .ok (.ireturn, 1) := by decide +kernel
theorem nd_Gauge_lastCheckUpTo_17 : decode nC_Gauge_lastCheckUpTo 17 = .ok (.iinc 2 (-1), 3) := by decide +kernel
theorem nd_Gauge_lastCheckUpTo_20 : decode nC_Gauge_lastCheckUpTo 20 = .ok (.goto (-18), 3) := by decide +kernel
theorem nd_Gauge_lastCheckUpTo_23 : decode nC_Gauge_lastCheckUpTo 23 = .ok (.iconst (-1), 1) := by decide +kernel
theorem nd_Gauge_lastCheckUpTo_24 : decode nC_Gauge_lastCheckUpTo 24 = .ok (.ireturn, 1) := by decide +kernel
theorem nd_Gauge_firstCheckFrom_0 : decode nC_Gauge_firstCheckFrom 0 = .ok (.iload_n 1, 1) := by decide +kernel
theorem nd_Gauge_firstCheckFrom_1 : decode nC_Gauge_firstCheckFrom 1 = .ok (.istore_n 3, 1) := by decide +kernel
theorem nd_Gauge_firstCheckFrom_2 : decode nC_Gauge_firstCheckFrom 2 = .ok (.iload_n 3, 1) := by decide +kernel
theorem nd_Gauge_firstCheckFrom_3 : decode nC_Gauge_firstCheckFrom 3 = .ok (.iload_n 2, 1) := by decide +kernel
theorem nd_Gauge_firstCheckFrom_4 : decode nC_Gauge_firstCheckFrom 4 = .ok (.if_icmp .ge 20, 3) := by decide +kernel
theorem nd_Gauge_firstCheckFrom_7 : decode nC_Gauge_firstCheckFrom 7 = .ok (.aload_n 0, 1) := by decide +kernel
theorem nd_Gauge_firstCheckFrom_8 : decode nC_Gauge_firstCheckFrom 8 = .ok (.getfield 22, 3) := by decide +kernel
theorem nd_Gauge_firstCheckFrom_11 : decode nC_Gauge_firstCheckFrom 11 = .ok (.iload_n 3, 1) := by decide +kernel
theorem nd_Gauge_firstCheckFrom_12 : decode nC_Gauge_firstCheckFrom 12 = .ok (.baload, 1) := by decide +kernel
theorem nd_Gauge_firstCheckFrom_13 : decode nC_Gauge_firstCheckFrom 13 = .ok (.ifCond .eq 5, 3) := by decide +kernel
theorem nd_Gauge_firstCheckFrom_16 : decode nC_Gauge_firstCheckFrom 16 = .ok (.iload_n 3, 1) := by decide +kernel
theorem nd_Gauge_firstCheckFrom_17 : decode nC_Gauge_firstCheckFrom 17 = .ok (.ireturn, 1) := by decide +kernel
theorem nd_Gauge_firstCheckFrom_18 : decode nC_Gauge_firstCheckFrom 18 = .ok (.iinc 3 1, 3) := by decide +kernel
theorem nd_Gauge_firstCheckFrom_21 : decode nC_Gauge_firstCheckFrom 21 = .ok (.goto (-19), 3) := by decide +kernel
theorem nd_Gauge_firstCheckFrom_24 : decode nC_Gauge_firstCheckFrom 24 = .ok (.iconst (-1), 1) := by decide +kernel
theorem nd_Gauge_firstCheckFrom_25 : decode nC_Gauge_firstCheckFrom 25 = .ok (.ireturn, 1) := by decide +kernel
theorem nd_Gauge_driftOfCheck_0 : decode nC_Gauge_driftOfCheck 0 = .ok (.aload_n 0, 1) := by decide +kernel
theorem nd_Gauge_driftOfCheck_1 : decode nC_Gauge_driftOfCheck 1 = .ok (.getfield 19, 3) := by decide +kernel
theorem nd_Gauge_driftOfCheck_4 : decode nC_Gauge_driftOfCheck 4 = .ok (.iload_n 1, 1) := by decide +kernel
theorem nd_Gauge_driftOfCheck_5 : decode nC_Gauge_driftOfCheck 5 = .ok (.iaload, 1) := by decide +kernel
theorem nd_Gauge_driftOfCheck_6 : decode nC_Gauge_driftOfCheck 6 = .ok (.aload_n 0, 1) := by decide +kernel
theorem nd_Gauge_driftOfCheck_7 : decode nC_Gauge_driftOfCheck 7 = .ok (.getfield 9, 3) := by decide +kernel
theorem nd_Gauge_driftOfCheck_10 : decode nC_Gauge_driftOfCheck 10 = .ok (.iload_n 1, 1) := by decide +kernel
theorem nd_Gauge_driftOfCheck_11 : decode nC_Gauge_driftOfCheck 11 = .ok (.iaload, 1) := by decide +kernel
theorem nd_Gauge_driftOfCheck_12 : decode nC_Gauge_driftOfCheck 12 = .ok (.isub, 1) := by decide +kernel
theorem nd_Gauge_driftOfCheck_13 : decode nC_Gauge_driftOfCheck 13 = .ok (.ireturn, 1) := by decide +kernel
theorem nd_Math_floorDiv_0 : decode nC_Math_floorDiv 0 = .ok (.lload_n 0, 1) := by decide +kernel
theorem nd_Math_floorDiv_1 : decode nC_Math_floorDiv 1 = .ok (.lload_n 2, 1) := by decide +kernel
theorem nd_Math_floorDiv_2 : decode nC_Math_floorDiv 2 = .ok (.ldiv, 1) := by decide +kernel
theorem nd_Math_floorDiv_3 : decode nC_Math_floorDiv 3 = .ok (.lstore 4, 2) := by decide +kernel
theorem nd_Math_floorDiv_5 : decode nC_Math_floorDiv 5 = .ok (.lload_n 0, 1) := by decide +kernel
theorem nd_Math_floorDiv_6 : decode nC_Math_floorDiv 6 = .ok (.lload_n 2, 1) := by decide +kernel
theorem nd_Math_floorDiv_7 : decode nC_Math_floorDiv 7 = .ok (.lxor, 1) := by decide +kernel
theorem nd_Math_floorDiv_8 : decode nC_Math_floorDiv 8 = .ok (.lconst 0, 1) := by decide +kernel
theorem nd_Math_floorDiv_9 : decode nC_Math_floorDiv 9 = .ok (.lcmp, 1) := by decide +kernel
theorem nd_Math_floorDiv_10 : decode nC_Math_floorDiv 10 = .ok (.ifCond .ge 17, 3) := by decide +kernel
theorem nd_Math_floorDiv_13 : decode nC_Math_floorDiv 13 = .ok (.lload 4, 2) := by decide +kernel
theorem nd_Math_floorDiv_15 : decode nC_Math_floorDiv 15 = .ok (.lload_n 2, 1) := by decide +kernel
theorem nd_Math_floorDiv_16 : decode nC_Math_floorDiv 16 = .ok (.lmul, 1) := by decide +kernel
theorem nd_Math_floorDiv_17 : decode nC_Math_floorDiv 17 = .ok (.lload_n 0, 1) := by decide +kernel
theorem nd_Math_floorDiv_18 : decode nC_Math_floorDiv 18 = .ok (.lcmp, 1) := by decide +kernel
theorem nd_Math_floorDiv_19 : decode nC_Math_floorDiv 19 = .ok (.ifCond .eq 8, 3) := by decide +kernel
theorem nd_Math_floorDiv_22 : decode nC_Math_floorDiv 22 = .ok (.lload 4, 2) := by decide +kernel
theorem nd_Math_floorDiv_24 : decode nC_Math_floorDiv 24 = .ok (.lconst 1, 1) := by decide +kernel
theorem nd_Math_floorDiv_25 : decode nC_Math_floorDiv 25 = .ok (.lsub, 1) := by decide +kernel
theorem nd_Math_floorDiv_26 : decode nC_Math_floorDiv 26 = .ok (.lreturn, 1) := by decide +kernel
theorem nd_Math_floorDiv_27 : decode nC_Math_floorDiv 27 = .ok (.lload 4, 2) := by decide +kernel
theorem nd_Math_floorDiv_29 : decode nC_Math_floorDiv 29 = .ok (.lreturn, 1) := by decide +kernel
theorem nd_Room_by_0 : decode nC_Room_by 0 = .ok (.lload_n 2, 1) := by decide +kernel
theorem nd_Room_by_1 : decode nC_Room_by 1 = .ok (.lconst 0, 1) := by decide +kernel
theorem nd_Room_by_2 : decode nC_Room_by 2 = .ok (.lcmp, 1) := by decide +kernel
theorem nd_Room_by_3 : decode nC_Room_by 3 = .ok (.ifCond .le 11, 3) := by decide +kernel
theorem nd_Room_by_6 : decode nC_Room_by 6 = .ok (.lload_n 0, 1) := by decide +kernel
theorem nd_Room_by_7 : decode nC_Room_by 7 = .ok (.lload_n 2, 1) := by decide +kernel
theorem nd_Room_by_8 : decode nC_Room_by 8 = .ok (.invokestatic 261, 3) := by decide +kernel
theorem nd_Room_by_11 : decode nC_Room_by 11 = .ok (.goto 4, 3) := by decide +kernel
theorem nd_Room_by_14 : decode nC_Room_by 14 = .ok (.lconst 0, 1) := by decide +kernel
theorem nd_Room_by_15 : decode nC_Room_by 15 = .ok (.lreturn, 1) := by decide +kernel
theorem nd_Gauge_drift_0 : decode nC_Gauge_drift 0 = .ok (.aload_n 0, 1) := by decide +kernel
theorem nd_Gauge_drift_1 : decode nC_Gauge_drift 1 = .ok (.iload_n 1, 1) := by decide +kernel
theorem nd_Gauge_drift_2 : decode nC_Gauge_drift 2 = .ok (.invokevirtual 29, 3) := by decide +kernel
theorem nd_Gauge_drift_5 : decode nC_Gauge_drift 5 = .ok (.istore_n 3, 1) := by decide +kernel
theorem nd_Gauge_drift_6 : decode nC_Gauge_drift 6 = .ok (.aload_n 0, 1) := by decide +kernel
theorem nd_Gauge_drift_7 : decode nC_Gauge_drift 7 = .ok (.iload_n 1, 1) := by decide +kernel
theorem nd_Gauge_drift_8 : decode nC_Gauge_drift 8 = .ok (.iload_n 2, 1) := by decide +kernel
theorem nd_Gauge_drift_9 : decode nC_Gauge_drift 9 = .ok (.invokevirtual 33, 3) := by decide +kernel
theorem nd_Gauge_drift_12 : decode nC_Gauge_drift 12 = .ok (.istore 4, 2) := by decide +kernel
theorem nd_Gauge_drift_14 : decode nC_Gauge_drift 14 = .ok (.iload_n 3, 1) := by decide +kernel
theorem nd_Gauge_drift_15 : decode nC_Gauge_drift 15 = .ok (.iconst (-1), 1) := by decide +kernel
theorem nd_Gauge_drift_16 : decode nC_Gauge_drift 16 = .ok (.if_icmp .ne 20, 3) := by decide +kernel
theorem nd_Gauge_drift_19 : decode nC_Gauge_drift 19 = .ok (.iload 4, 2) := by decide +kernel
theorem nd_Gauge_drift_21 : decode nC_Gauge_drift 21 = .ok (.iconst (-1), 1) := by decide +kernel
theorem nd_Gauge_drift_22 : decode nC_Gauge_drift 22 = .ok (.if_icmp .ne 7, 3) := by decide +kernel
theorem nd_Gauge_drift_25 : decode nC_Gauge_drift 25 = .ok (.iconst 0, 1) := by decide +kernel
theorem nd_Gauge_drift_26 : decode nC_Gauge_drift 26 = .ok (.goto 9, 3) := by decide +kernel
theorem nd_Gauge_drift_29 : decode nC_Gauge_drift 29 = .ok (.aload_n 0, 1) := by decide +kernel
theorem nd_Gauge_drift_30 : decode nC_Gauge_drift 30 = .ok (.iload 4, 2) := by decide +kernel
theorem nd_Gauge_drift_32 : decode nC_Gauge_drift 32 = .ok (.invokevirtual 37, 3) := by decide +kernel
theorem nd_Gauge_drift_35 : decode nC_Gauge_drift 35 = .ok (.ireturn, 1) := by decide +kernel
theorem nd_Gauge_drift_36 : decode nC_Gauge_drift 36 = .ok (.iload 4, 2) := by decide +kernel
theorem nd_Gauge_drift_38 : decode nC_Gauge_drift 38 = .ok (.iconst (-1), 1) := by decide +kernel
theorem nd_Gauge_drift_39 : decode nC_Gauge_drift 39 = .ok (.if_icmp .eq 9, 3) := by decide +kernel
theorem nd_Gauge_drift_42 : decode nC_Gauge_drift 42 = .ok (.iload 4, 2) := by decide +kernel
theorem nd_Gauge_drift_44 : decode nC_Gauge_drift 44 = .ok (.iload_n 3, 1) := by decide +kernel
theorem nd_Gauge_drift_45 : decode nC_Gauge_drift 45 = .ok (.if_icmp .ne 9, 3) := by decide +kernel
theorem nd_Gauge_drift_48 : decode nC_Gauge_drift 48 = .ok (.aload_n 0, 1) := by decide +kernel
theorem nd_Gauge_drift_49 : decode nC_Gauge_drift 49 = .ok (.iload_n 3, 1) := by decide +kernel
theorem nd_Gauge_drift_50 : decode nC_Gauge_drift 50 = .ok (.invokevirtual 37, 3) := by decide +kernel
theorem nd_Gauge_drift_53 : decode nC_Gauge_drift 53 = .ok (.ireturn, 1) := by decide +kernel
theorem nd_Gauge_drift_54 : decode nC_Gauge_drift 54 = .ok (.aload_n 0, 1) := by decide +kernel
theorem nd_Gauge_drift_55 : decode nC_Gauge_drift 55 = .ok (.iload 4, 2) := by decide +kernel
theorem nd_Gauge_drift_57 : decode nC_Gauge_drift 57 = .ok (.invokevirtual 37, 3) := by decide +kernel
theorem nd_Gauge_drift_60 : decode nC_Gauge_drift 60 = .ok (.aload_n 0, 1) := by decide +kernel
theorem nd_Gauge_drift_61 : decode nC_Gauge_drift 61 = .ok (.iload_n 3, 1) := by decide +kernel
theorem nd_Gauge_drift_62 : decode nC_Gauge_drift 62 = .ok (.invokevirtual 37, 3) := by decide +kernel
theorem nd_Gauge_drift_65 : decode nC_Gauge_drift 65 = .ok (.isub, 1) := by decide +kernel
theorem nd_Gauge_drift_66 : decode nC_Gauge_drift 66 = .ok (.istore 5, 2) := by decide +kernel
theorem nd_Gauge_drift_68 : decode nC_Gauge_drift 68 = .ok (.aload_n 0, 1) := by decide +kernel
theorem nd_Gauge_drift_69 : decode nC_Gauge_drift 69 = .ok (.iload_n 3, 1) := by decide +kernel
theorem nd_Gauge_drift_70 : decode nC_Gauge_drift 70 = .ok (.invokevirtual 37, 3) := by decide +kernel
theorem nd_Gauge_drift_73 : decode nC_Gauge_drift 73 = .ok (.iload 5, 2) := by decide +kernel
theorem nd_Gauge_drift_75 : decode nC_Gauge_drift 75 = .ok (.i2l, 1) := by decide +kernel
theorem nd_Gauge_drift_76 : decode nC_Gauge_drift 76 = .ok (.iload_n 1, 1) := by decide +kernel
theorem nd_Gauge_drift_77 : decode nC_Gauge_drift 77 = .ok (.iload_n 3, 1) := by decide +kernel
theorem nd_Gauge_drift_78 : decode nC_Gauge_drift 78 = .ok (.isub, 1) := by decide +kernel
theorem nd_Gauge_drift_79 : decode nC_Gauge_drift 79 = .ok (.i2l, 1) := by decide +kernel
theorem nd_Gauge_drift_80 : decode nC_Gauge_drift 80 = .ok (.lmul, 1) := by decide +kernel
theorem nd_Gauge_drift_81 : decode nC_Gauge_drift 81 = .ok (.iload 4, 2) := by decide +kernel
theorem nd_Gauge_drift_83 : decode nC_Gauge_drift 83 = .ok (.iload_n 3, 1) := by decide +kernel
theorem nd_Gauge_drift_84 : decode nC_Gauge_drift 84 = .ok (.isub, 1) := by decide +kernel
theorem nd_Gauge_drift_85 : decode nC_Gauge_drift 85 = .ok (.i2l, 1) := by decide +kernel
theorem nd_Gauge_drift_86 : decode nC_Gauge_drift 86 = .ok (.invokestatic 40, 3) := by decide +kernel
theorem nd_Gauge_drift_89 : decode nC_Gauge_drift 89 = .ok (.l2i, 1) := by decide +kernel
theorem nd_Gauge_drift_90 : decode nC_Gauge_drift 90 = .ok (.iadd, 1) := by decide +kernel
theorem nd_Gauge_drift_91 : decode nC_Gauge_drift 91 = .ok (.ireturn, 1) := by decide +kernel
theorem nd_Gauge_longestGap_0 : decode nC_Gauge_longestGap 0 = .ok (.iconst (-1), 1) := by decide +kernel
theorem nd_Gauge_longestGap_1 : decode nC_Gauge_longestGap 1 = .ok (.istore_n 3, 1) := by decide +kernel
theorem nd_Gauge_longestGap_2 : decode nC_Gauge_longestGap 2 = .ok (.iconst 0, 1) := by decide +kernel
theorem nd_Gauge_longestGap_3 : decode nC_Gauge_longestGap 3 = .ok (.istore 4, 2) := by decide +kernel
theorem nd_Gauge_longestGap_5 : decode nC_Gauge_longestGap 5 = .ok (.iconst 0, 1) := by decide +kernel
theorem nd_Gauge_longestGap_6 : decode nC_Gauge_longestGap 6 = .ok (.istore 5, 2) := by decide +kernel
theorem nd_Gauge_longestGap_8 : decode nC_Gauge_longestGap 8 = .ok (.iload_n 1, 1) := by decide +kernel
theorem nd_Gauge_longestGap_9 : decode nC_Gauge_longestGap 9 = .ok (.istore 6, 2) := by decide +kernel
theorem nd_Gauge_longestGap_11 : decode nC_Gauge_longestGap 11 = .ok (.iload 6, 2) := by decide +kernel
theorem nd_Gauge_longestGap_13 : decode nC_Gauge_longestGap 13 = .ok (.iload_n 2, 1) := by decide +kernel
theorem nd_Gauge_longestGap_14 : decode nC_Gauge_longestGap 14 = .ok (.if_icmp .ge 48, 3) := by decide +kernel
theorem nd_Gauge_longestGap_17 : decode nC_Gauge_longestGap 17 = .ok (.aload_n 0, 1) := by decide +kernel
theorem nd_Gauge_longestGap_18 : decode nC_Gauge_longestGap 18 = .ok (.getfield 15, 3) := by decide +kernel
theorem nd_Gauge_longestGap_21 : decode nC_Gauge_longestGap 21 = .ok (.iload 6, 2) := by decide +kernel
theorem nd_Gauge_longestGap_23 : decode nC_Gauge_longestGap 23 = .ok (.baload, 1) := by decide +kernel
theorem nd_Gauge_longestGap_24 : decode nC_Gauge_longestGap 24 = .ok (.ifCond .eq 7, 3) := by decide +kernel
theorem nd_Gauge_longestGap_27 : decode nC_Gauge_longestGap 27 = .ok (.iconst 0, 1) := by decide +kernel
theorem nd_Gauge_longestGap_28 : decode nC_Gauge_longestGap 28 = .ok (.goto 7, 3) := by decide +kernel
theorem nd_Gauge_longestGap_31 : decode nC_Gauge_longestGap 31 = .ok (.iload 5, 2) := by decide +kernel
theorem nd_Gauge_longestGap_33 : decode nC_Gauge_longestGap 33 = .ok (.iconst 1, 1) := by decide +kernel
theorem nd_Gauge_longestGap_34 : decode nC_Gauge_longestGap 34 = .ok (.iadd, 1) := by decide +kernel
theorem nd_Gauge_longestGap_35 : decode nC_Gauge_longestGap 35 = .ok (.istore 5, 2) := by decide +kernel
theorem nd_Gauge_longestGap_37 : decode nC_Gauge_longestGap 37 = .ok (.iload 5, 2) := by decide +kernel
theorem nd_Gauge_longestGap_39 : decode nC_Gauge_longestGap 39 = .ok (.iload 4, 2) := by decide +kernel
theorem nd_Gauge_longestGap_41 : decode nC_Gauge_longestGap 41 = .ok (.if_icmp .le 15, 3) := by decide +kernel
theorem nd_Gauge_longestGap_44 : decode nC_Gauge_longestGap 44 = .ok (.iload 5, 2) := by decide +kernel
theorem nd_Gauge_longestGap_46 : decode nC_Gauge_longestGap 46 = .ok (.istore 4, 2) := by decide +kernel
theorem nd_Gauge_longestGap_48 : decode nC_Gauge_longestGap 48 = .ok (.iload 6, 2) := by decide +kernel
theorem nd_Gauge_longestGap_50 : decode nC_Gauge_longestGap 50 = .ok (.iload 5, 2) := by decide +kernel
theorem nd_Gauge_longestGap_52 : decode nC_Gauge_longestGap 52 = .ok (.isub, 1) := by decide +kernel
theorem nd_Gauge_longestGap_53 : decode nC_Gauge_longestGap 53 = .ok (.iconst 1, 1) := by decide +kernel
theorem nd_Gauge_longestGap_54 : decode nC_Gauge_longestGap 54 = .ok (.iadd, 1) := by decide +kernel
theorem nd_Gauge_longestGap_55 : decode nC_Gauge_longestGap 55 = .ok (.istore_n 3, 1) := by decide +kernel
theorem nd_Gauge_longestGap_56 : decode nC_Gauge_longestGap 56 = .ok (.iinc 6 1, 3) := by decide +kernel
theorem nd_Gauge_longestGap_59 : decode nC_Gauge_longestGap 59 = .ok (.goto (-48), 3) := by decide +kernel
theorem nd_Gauge_longestGap_62 : decode nC_Gauge_longestGap 62 = .ok (.iload_n 3, 1) := by decide +kernel
theorem nd_Gauge_longestGap_63 : decode nC_Gauge_longestGap 63 = .ok (.ireturn, 1) := by decide +kernel
theorem nd_Interior_moisture_0 : decode nC_Interior_moisture 0 = .ok (.aload_n 0, 1) := by decide +kernel
theorem nd_Interior_moisture_1 : decode nC_Interior_moisture 1 = .ok (.getfield 33, 3) := by decide +kernel
theorem nd_Interior_moisture_4 : decode nC_Interior_moisture 4 = .ok (.aload_n 0, 1) := by decide +kernel
theorem nd_Interior_moisture_5 : decode nC_Interior_moisture 5 = .ok (.getfield 18, 3) := by decide +kernel
theorem nd_Interior_moisture_8 : decode nC_Interior_moisture 8 = .ok (.i2l, 1) := by decide +kernel
theorem nd_Interior_moisture_9 : decode nC_Interior_moisture 9 = .ok (.invokestatic 36, 3) := by decide +kernel
theorem nd_Interior_moisture_12 : decode nC_Interior_moisture 12 = .ok (.lreturn, 1) := by decide +kernel
theorem nd_Steps_amountUpTo_0 : decode nC_Steps_amountUpTo 0 = .ok (.iconst 0, 1) := by decide +kernel
theorem nd_Steps_amountUpTo_1 : decode nC_Steps_amountUpTo 1 = .ok (.istore_n 3, 1) := by decide +kernel
theorem nd_Steps_amountUpTo_2 : decode nC_Steps_amountUpTo 2 = .ok (.iload_n 3, 1) := by decide +kernel
theorem nd_Steps_amountUpTo_3 : decode nC_Steps_amountUpTo 3 = .ok (.aload_n 0, 1) := by decide +kernel
theorem nd_Steps_amountUpTo_4 : decode nC_Steps_amountUpTo 4 = .ok (.getfield 16, 3) := by decide +kernel
theorem nd_Steps_amountUpTo_7 : decode nC_Steps_amountUpTo 7 = .ok (.if_icmp .ge 28, 3) := by decide +kernel
theorem nd_Steps_amountUpTo_10 : decode nC_Steps_amountUpTo 10 = .ok (.aload_n 0, 1) := by decide +kernel
theorem nd_Steps_amountUpTo_11 : decode nC_Steps_amountUpTo 11 = .ok (.getfield 7, 3) := by decide +kernel
theorem nd_Steps_amountUpTo_14 : decode nC_Steps_amountUpTo 14 = .ok (.iload_n 3, 1) := by decide +kernel
theorem nd_Steps_amountUpTo_15 : decode nC_Steps_amountUpTo 15 = .ok (.iaload, 1) := by decide +kernel
theorem nd_Steps_amountUpTo_16 : decode nC_Steps_amountUpTo 16 = .ok (.i2l, 1) := by decide +kernel
theorem nd_Steps_amountUpTo_17 : decode nC_Steps_amountUpTo 17 = .ok (.lload_n 1, 1) := by decide +kernel
theorem nd_Steps_amountUpTo_18 : decode nC_Steps_amountUpTo 18 = .ok (.lcmp, 1) := by decide +kernel
theorem nd_Steps_amountUpTo_19 : decode nC_Steps_amountUpTo 19 = .ok (.ifCond .lt 10, 3) := by decide +kernel
theorem nd_Steps_amountUpTo_22 : decode nC_Steps_amountUpTo 22 = .ok (.aload_n 0, 1) := by decide +kernel
theorem nd_Steps_amountUpTo_23 : decode nC_Steps_amountUpTo 23 = .ok (.getfield 13, 3) := by decide +kernel
theorem nd_Steps_amountUpTo_26 : decode nC_Steps_amountUpTo 26 = .ok (.iload_n 3, 1) := by decide +kernel
theorem nd_Steps_amountUpTo_27 : decode nC_Steps_amountUpTo 27 = .ok (.iaload, 1) := by decide +kernel
theorem nd_Steps_amountUpTo_28 : decode nC_Steps_amountUpTo 28 = .ok (.ireturn, 1) := by decide +kernel
theorem nd_Steps_amountUpTo_29 : decode nC_Steps_amountUpTo 29 = .ok (.iinc 3 1, 3) := by decide +kernel
theorem nd_Steps_amountUpTo_32 : decode nC_Steps_amountUpTo 32 = .ok (.goto (-30), 3) := by decide +kernel
theorem nd_Steps_amountUpTo_35 : decode nC_Steps_amountUpTo 35 = .ok (.aload_n 0, 1) := by decide +kernel
theorem nd_Steps_amountUpTo_36 : decode nC_Steps_amountUpTo 36 = .ok (.getfield 16, 3) := by decide +kernel
theorem nd_Steps_amountUpTo_39 : decode nC_Steps_amountUpTo 39 = .ok (.ifCond .le 17, 3) := by decide +kernel
theorem nd_Steps_amountUpTo_42 : decode nC_Steps_amountUpTo 42 = .ok (.aload_n 0, 1) := by decide +kernel
theorem nd_Steps_amountUpTo_43 : decode nC_Steps_amountUpTo 43 = .ok (.getfield 13, 3) := by decide +kernel
theorem nd_Steps_amountUpTo_46 : decode nC_Steps_amountUpTo 46 = .ok (.aload_n 0, 1) := by decide +kernel
theorem nd_Steps_amountUpTo_47 : decode nC_Steps_amountUpTo 47 = .ok (.getfield 16, 3) := by decide +kernel
theorem nd_Steps_amountUpTo_50 : decode nC_Steps_amountUpTo 50 = .ok (.iconst 1, 1) := by decide +kernel
theorem nd_Steps_amountUpTo_51 : decode nC_Steps_amountUpTo 51 = .ok (.isub, 1) := by decide +kernel
theorem nd_Steps_amountUpTo_52 : decode nC_Steps_amountUpTo 52 = .ok (.iaload, 1) := by decide +kernel
theorem nd_Steps_amountUpTo_53 : decode nC_Steps_amountUpTo 53 = .ok (.goto 4, 3) := by decide +kernel
theorem nd_Steps_amountUpTo_56 : decode nC_Steps_amountUpTo 56 = .ok (.iconst 0, 1) := by decide +kernel
theorem nd_Steps_amountUpTo_57 : decode nC_Steps_amountUpTo 57 = .ok (.ireturn, 1) := by decide +kernel
theorem nd_Interior_gainWater_0 : decode nC_Interior_gainWater 0 = .ok (.aload_n 0, 1) := by decide +kernel
theorem nd_Interior_gainWater_1 : decode nC_Interior_gainWater 1 = .ok (.dup, 1) := by decide +kernel
theorem nd_Interior_gainWater_2 : decode nC_Interior_gainWater 2 = .ok (.getfield 33, 3) := by decide +kernel
theorem nd_Interior_gainWater_5 : decode nC_Interior_gainWater 5 = .ok (.lload_n 2, 1) := by decide +kernel
theorem nd_Interior_gainWater_6 : decode nC_Interior_gainWater 6 = .ok (.ladd, 1) := by decide +kernel
theorem nd_Interior_gainWater_7 : decode nC_Interior_gainWater 7 = .ok (.putfield 33, 3) := by decide +kernel
theorem nd_Interior_gainWater_10 : decode nC_Interior_gainWater 10 = .ok (.aload_n 0, 1) := by decide +kernel
theorem nd_Interior_gainWater_11 : decode nC_Interior_gainWater 11 = .ok (.getfield 15, 3) := by decide +kernel
theorem nd_Interior_gainWater_14 : decode nC_Interior_gainWater 14 = .ok (.iload_n 1, 1) := by decide +kernel
theorem nd_Interior_gainWater_15 : decode nC_Interior_gainWater 15 = .ok (.dup2, 1) := by decide +kernel
theorem nd_Interior_gainWater_16 : decode nC_Interior_gainWater 16 = .ok (.laload, 1) := by decide +kernel
theorem nd_Interior_gainWater_17 : decode nC_Interior_gainWater 17 = .ok (.lload_n 2, 1) := by decide +kernel
theorem nd_Interior_gainWater_18 : decode nC_Interior_gainWater 18 = .ok (.ladd, 1) := by decide +kernel
theorem nd_Interior_gainWater_19 : decode nC_Interior_gainWater 19 = .ok (.lastore, 1) := by decide +kernel
theorem nd_Interior_gainWater_20 : decode nC_Interior_gainWater 20 = .ok (.return_, 1) := by decide +kernel
theorem nd_Goods_soak_0 : decode nC_Goods_soak 0 = .ok (.aload_n 0, 1) := by decide +kernel
theorem nd_Goods_soak_1 : decode nC_Goods_soak 1 = .ok (.getfield 9, 3) := by decide +kernel
theorem nd_Goods_soak_4 : decode nC_Goods_soak 4 = .ok (.i2l, 1) := by decide +kernel
theorem nd_Goods_soak_5 : decode nC_Goods_soak 5 = .ok (.aload_n 0, 1) := by decide +kernel
theorem nd_Goods_soak_6 : decode nC_Goods_soak 6 = .ok (.getfield 19, 3) := by decide +kernel
theorem nd_Goods_soak_9 : decode nC_Goods_soak 9 = .ok (.aload_n 1, 1) := by decide +kernel
theorem nd_Goods_soak_10 : decode nC_Goods_soak 10 = .ok (.invokevirtual 23, 3) := by decide +kernel
theorem nd_Goods_soak_13 : decode nC_Goods_soak 13 = .ok (.invokevirtual 29, 3) := by decide +kernel
theorem nd_Goods_soak_16 : decode nC_Goods_soak 16 = .ok (.i2l, 1) := by decide +kernel
theorem nd_Goods_soak_17 : decode nC_Goods_soak 17 = .ok (.lmul, 1) := by decide +kernel
theorem nd_Goods_soak_18 : decode nC_Goods_soak 18 = .ok (.lstore_n 2, 1) := by decide +kernel
theorem nd_Goods_soak_19 : decode nC_Goods_soak 19 = .ok (.lload_n 2, 1) := by decide +kernel
theorem nd_Goods_soak_20 : decode nC_Goods_soak 20 = .ok (.aload_n 0, 1) := by decide +kernel
theorem nd_Goods_soak_21 : decode nC_Goods_soak 21 = .ok (.getfield 15, 3) := by decide +kernel
theorem nd_Goods_soak_24 : decode nC_Goods_soak 24 = .ok (.lsub, 1) := by decide +kernel
theorem nd_Goods_soak_25 : decode nC_Goods_soak 25 = .ok (.ldc2_w 35, 3) := by decide +kernel
theorem nd_Goods_soak_28 : decode nC_Goods_soak 28 = .ok (.invokestatic 37, 3) := by decide +kernel
theorem nd_Goods_soak_31 : decode nC_Goods_soak 31 = .ok (.aload_n 1, 1) := by decide +kernel
theorem nd_Goods_soak_32 : decode nC_Goods_soak 32 = .ok (.getfield 41, 3) := by decide +kernel
theorem nd_Goods_soak_35 : decode nC_Goods_soak 35 = .ok (.invokestatic 44, 3) := by decide +kernel
theorem nd_Goods_soak_38 : decode nC_Goods_soak 38 = .ok (.lstore 4, 2) := by decide +kernel
theorem nd_Goods_soak_40 : decode nC_Goods_soak 40 = .ok (.aload_n 0, 1) := by decide +kernel
theorem nd_Goods_soak_41 : decode nC_Goods_soak 41 = .ok (.dup, 1) := by decide +kernel
theorem nd_Goods_soak_42 : decode nC_Goods_soak 42 = .ok (.getfield 15, 3) := by decide +kernel
theorem nd_Goods_soak_45 : decode nC_Goods_soak 45 = .ok (.lload 4, 2) := by decide +kernel
theorem nd_Goods_soak_47 : decode nC_Goods_soak 47 = .ok (.ladd, 1) := by decide +kernel
theorem nd_Goods_soak_48 : decode nC_Goods_soak 48 = .ok (.putfield 15, 3) := by decide +kernel
theorem nd_Goods_soak_51 : decode nC_Goods_soak 51 = .ok (.aload_n 1, 1) := by decide +kernel
theorem nd_Goods_soak_52 : decode nC_Goods_soak 52 = .ok (.iconst 2, 1) := by decide +kernel
theorem nd_Goods_soak_53 : decode nC_Goods_soak 53 = .ok (.lload 4, 2) := by decide +kernel
theorem nd_Goods_soak_55 : decode nC_Goods_soak 55 = .ok (.lneg, 1) := by decide +kernel
theorem nd_Goods_soak_56 : decode nC_Goods_soak 56 = .ok (.invokevirtual 49, 3) := by decide +kernel
theorem nd_Goods_soak_59 : decode nC_Goods_soak 59 = .ok (.return_, 1) := by decide +kernel
theorem nd_Goods_copyFrom_0 : decode nC_Goods_copyFrom 0 = .ok (.aload_n 0, 1) := by decide +kernel
theorem nd_Goods_copyFrom_1 : decode nC_Goods_copyFrom 1 = .ok (.aload_n 1, 1) := by decide +kernel
theorem nd_Goods_copyFrom_2 : decode nC_Goods_copyFrom 2 = .ok (.getfield 9, 3) := by decide +kernel
theorem nd_Goods_copyFrom_5 : decode nC_Goods_copyFrom 5 = .ok (.putfield 9, 3) := by decide +kernel
theorem nd_Goods_copyFrom_8 : decode nC_Goods_copyFrom 8 = .ok (.aload_n 0, 1) := by decide +kernel
theorem nd_Goods_copyFrom_9 : decode nC_Goods_copyFrom 9 = .ok (.aload_n 1, 1) := by decide +kernel
theorem nd_Goods_copyFrom_10 : decode nC_Goods_copyFrom 10 = .ok (.getfield 15, 3) := by decide +kernel
theorem nd_Goods_copyFrom_13 : decode nC_Goods_copyFrom 13 = .ok (.putfield 15, 3) := by decide +kernel
theorem nd_Goods_copyFrom_16 : decode nC_Goods_copyFrom 16 = .ok (.return_, 1) := by decide +kernel
theorem nd_Interior_warmth_0 : decode nC_Interior_warmth 0 = .ok (.aload_n 0, 1) := by decide +kernel
theorem nd_Interior_warmth_1 : decode nC_Interior_warmth 1 = .ok (.getfield 27, 3) := by decide +kernel
theorem nd_Interior_warmth_4 : decode nC_Interior_warmth 4 = .ok (.aload_n 0, 1) := by decide +kernel
theorem nd_Interior_warmth_5 : decode nC_Interior_warmth 5 = .ok (.getfield 18, 3) := by decide +kernel
theorem nd_Interior_warmth_8 : decode nC_Interior_warmth 8 = .ok (.i2l, 1) := by decide +kernel
theorem nd_Interior_warmth_9 : decode nC_Interior_warmth 9 = .ok (.invokestatic 36, 3) := by decide +kernel
theorem nd_Interior_warmth_12 : decode nC_Interior_warmth 12 = .ok (.lreturn, 1) := by decide +kernel
theorem nd_Interior_gainHeat_0 : decode nC_Interior_gainHeat 0 = .ok (.aload_n 0, 1) := by decide +kernel
theorem nd_Interior_gainHeat_1 : decode nC_Interior_gainHeat 1 = .ok (.dup, 1) := by decide +kernel
theorem nd_Interior_gainHeat_2 : decode nC_Interior_gainHeat 2 = .ok (.getfield 27, 3) := by decide +kernel
theorem nd_Interior_gainHeat_5 : decode nC_Interior_gainHeat 5 = .ok (.lload_n 2, 1) := by decide +kernel
theorem nd_Interior_gainHeat_6 : decode nC_Interior_gainHeat 6 = .ok (.ladd, 1) := by decide +kernel
theorem nd_Interior_gainHeat_7 : decode nC_Interior_gainHeat 7 = .ok (.putfield 27, 3) := by decide +kernel
theorem nd_Interior_gainHeat_10 : decode nC_Interior_gainHeat 10 = .ok (.aload_n 0, 1) := by decide +kernel
theorem nd_Interior_gainHeat_11 : decode nC_Interior_gainHeat 11 = .ok (.getfield 9, 3) := by decide +kernel
theorem nd_Interior_gainHeat_14 : decode nC_Interior_gainHeat 14 = .ok (.iload_n 1, 1) := by decide +kernel
theorem nd_Interior_gainHeat_15 : decode nC_Interior_gainHeat 15 = .ok (.dup2, 1) := by decide +kernel
theorem nd_Interior_gainHeat_16 : decode nC_Interior_gainHeat 16 = .ok (.laload, 1) := by decide +kernel
theorem nd_Interior_gainHeat_17 : decode nC_Interior_gainHeat 17 = .ok (.lload_n 2, 1) := by decide +kernel
theorem nd_Interior_gainHeat_18 : decode nC_Interior_gainHeat 18 = .ok (.ladd, 1) := by decide +kernel
theorem nd_Interior_gainHeat_19 : decode nC_Interior_gainHeat 19 = .ok (.lastore, 1) := by decide +kernel
theorem nd_Interior_gainHeat_20 : decode nC_Interior_gainHeat 20 = .ok (.return_, 1) := by decide +kernel
theorem nd_Interior_exchangeAir_0 : decode nC_Interior_exchangeAir 0 = .ok (.aload_n 0, 1) := by decide +kernel
theorem nd_Interior_exchangeAir_1 : decode nC_Interior_exchangeAir 1 = .ok (.iconst 0, 1) := by decide +kernel
theorem nd_Interior_exchangeAir_2 : decode nC_Interior_exchangeAir 2 = .ok (.aload_n 0, 1) := by decide +kernel
theorem nd_Interior_exchangeAir_3 : decode nC_Interior_exchangeAir 3 = .ok (.getfield 22, 3) := by decide +kernel
theorem nd_Interior_exchangeAir_6 : decode nC_Interior_exchangeAir 6 = .ok (.i2l, 1) := by decide +kernel
theorem nd_Interior_exchangeAir_7 : decode nC_Interior_exchangeAir 7 = .ok (.iload_n 1, 1) := by decide +kernel
theorem nd_Interior_exchangeAir_8 : decode nC_Interior_exchangeAir 8 = .ok (.i2l, 1) := by decide +kernel
theorem nd_Interior_exchangeAir_9 : decode nC_Interior_exchangeAir 9 = .ok (.aload_n 0, 1) := by decide +kernel
theorem nd_Interior_exchangeAir_10 : decode nC_Interior_exchangeAir 10 = .ok (.invokevirtual 40, 3) := by decide +kernel
theorem nd_Interior_exchangeAir_13 : decode nC_Interior_exchangeAir 13 = .ok (.lsub, 1) := by decide +kernel
theorem nd_Interior_exchangeAir_14 : decode nC_Interior_exchangeAir 14 = .ok (.lmul, 1) := by decide +kernel
theorem nd_Interior_exchangeAir_15 : decode nC_Interior_exchangeAir 15 = .ok (.aload_n 0, 1) := by decide +kernel
theorem nd_Interior_exchangeAir_16 : decode nC_Interior_exchangeAir 16 = .ok (.getfield 18, 3) := by decide +kernel
theorem nd_Interior_exchangeAir_19 : decode nC_Interior_exchangeAir 19 = .ok (.i2l, 1) := by decide +kernel
theorem nd_Interior_exchangeAir_20 : decode nC_Interior_exchangeAir 20 = .ok (.lmul, 1) := by decide +kernel
theorem nd_Interior_exchangeAir_21 : decode nC_Interior_exchangeAir 21 = .ok (.ldc2_w 44, 3) := by decide +kernel
theorem nd_Interior_exchangeAir_24 : decode nC_Interior_exchangeAir 24 = .ok (.invokestatic 36, 3) := by decide +kernel
theorem nd_Interior_exchangeAir_27 : decode nC_Interior_exchangeAir 27 = .ok (.invokevirtual 46, 3) := by decide +kernel
theorem nd_Interior_exchangeAir_30 : decode nC_Interior_exchangeAir 30 = .ok (.aload_n 0, 1) := by decide +kernel
theorem nd_Interior_exchangeAir_31 : decode nC_Interior_exchangeAir 31 = .ok (.iconst 0, 1) := by decide +kernel
theorem nd_Interior_exchangeAir_32 : decode nC_Interior_exchangeAir 32 = .ok (.aload_n 0, 1) := by decide +kernel
theorem nd_Interior_exchangeAir_33 : decode nC_Interior_exchangeAir 33 = .ok (.getfield 22, 3) := by decide +kernel
theorem nd_Interior_exchangeAir_36 : decode nC_Interior_exchangeAir 36 = .ok (.i2l, 1) := by decide +kernel
theorem nd_Interior_exchangeAir_37 : decode nC_Interior_exchangeAir 37 = .ok (.iload_n 2, 1) := by decide +kernel
theorem nd_Interior_exchangeAir_38 : decode nC_Interior_exchangeAir 38 = .ok (.i2l, 1) := by decide +kernel
theorem nd_Interior_exchangeAir_39 : decode nC_Interior_exchangeAir 39 = .ok (.aload_n 0, 1) := by decide +kernel
theorem nd_Interior_exchangeAir_40 : decode nC_Interior_exchangeAir 40 = .ok (.invokevirtual 50, 3) := by decide +kernel
theorem nd_Interior_exchangeAir_43 : decode nC_Interior_exchangeAir 43 = .ok (.lsub, 1) := by decide +kernel
theorem nd_Interior_exchangeAir_44 : decode nC_Interior_exchangeAir 44 = .ok (.lmul, 1) := by decide +kernel
theorem nd_Interior_exchangeAir_45 : decode nC_Interior_exchangeAir 45 = .ok (.aload_n 0, 1) := by decide +kernel
theorem nd_Interior_exchangeAir_46 : decode nC_Interior_exchangeAir 46 = .ok (.getfield 18, 3) := by decide +kernel
theorem nd_Interior_exchangeAir_49 : decode nC_Interior_exchangeAir 49 = .ok (.i2l, 1) := by decide +kernel
theorem nd_Interior_exchangeAir_50 : decode nC_Interior_exchangeAir 50 = .ok (.lmul, 1) := by decide +kernel
theorem nd_Interior_exchangeAir_51 : decode nC_Interior_exchangeAir 51 = .ok (.ldc2_w 44, 3) := by decide +kernel
theorem nd_Interior_exchangeAir_54 : decode nC_Interior_exchangeAir 54 = .ok (.invokestatic 36, 3) := by decide +kernel
theorem nd_Interior_exchangeAir_57 : decode nC_Interior_exchangeAir 57 = .ok (.invokevirtual 53, 3) := by decide +kernel
theorem nd_Interior_exchangeAir_60 : decode nC_Interior_exchangeAir 60 = .ok (.return_, 1) := by decide +kernel
theorem nd_Walls_warmth_0 : decode nC_Walls_warmth 0 = .ok (.aload_n 0, 1) := by decide +kernel
theorem nd_Walls_warmth_1 : decode nC_Walls_warmth 1 = .ok (.getfield 18, 3) := by decide +kernel
theorem nd_Walls_warmth_4 : decode nC_Walls_warmth 4 = .ok (.iload_n 1, 1) := by decide +kernel
theorem nd_Walls_warmth_5 : decode nC_Walls_warmth 5 = .ok (.laload, 1) := by decide +kernel
theorem nd_Walls_warmth_6 : decode nC_Walls_warmth 6 = .ok (.aload_n 0, 1) := by decide +kernel
theorem nd_Walls_warmth_7 : decode nC_Walls_warmth 7 = .ok (.getfield 15, 3) := by decide +kernel
theorem nd_Walls_warmth_10 : decode nC_Walls_warmth 10 = .ok (.iload_n 1, 1) := by decide +kernel
theorem nd_Walls_warmth_11 : decode nC_Walls_warmth 11 = .ok (.iaload, 1) := by decide +kernel
theorem nd_Walls_warmth_12 : decode nC_Walls_warmth 12 = .ok (.i2l, 1) := by decide +kernel
theorem nd_Walls_warmth_13 : decode nC_Walls_warmth 13 = .ok (.invokestatic 28, 3) := by decide +kernel
theorem nd_Walls_warmth_16 : decode nC_Walls_warmth 16 = .ok (.lreturn, 1) := by decide +kernel
theorem nd_Walls_conduct_0 : decode nC_Walls_conduct 0 = .ok (.iconst 0, 1) := by decide +kernel
theorem nd_Walls_conduct_1 : decode nC_Walls_conduct 1 = .ok (.istore_n 3, 1) := by decide +kernel
theorem nd_Walls_conduct_2 : decode nC_Walls_conduct 2 = .ok (.iload_n 3, 1) := by decide +kernel
theorem nd_Walls_conduct_3 : decode nC_Walls_conduct 3 = .ok (.aload_n 0, 1) := by decide +kernel
theorem nd_Walls_conduct_4 : decode nC_Walls_conduct 4 = .ok (.getfield 22, 3) := by decide +kernel
theorem nd_Walls_conduct_7 : decode nC_Walls_conduct 7 = .ok (.if_icmp .ge 92, 3) := by decide +kernel
theorem nd_Walls_conduct_10 : decode nC_Walls_conduct 10 = .ok (.iload_n 3, 1) := by decide +kernel
theorem nd_Walls_conduct_11 : decode nC_Walls_conduct 11 = .ok (.ifCond .ne 10, 3) := by decide +kernel
theorem nd_Walls_conduct_14 : decode nC_Walls_conduct 14 = .ok (.aload_n 1, 1) := by decide +kernel
theorem nd_Walls_conduct_15 : decode nC_Walls_conduct 15 = .ok (.invokevirtual 32, 3) := by decide +kernel
theorem nd_Walls_conduct_18 : decode nC_Walls_conduct 18 = .ok (.goto 10, 3) := by decide +kernel
theorem nd_Walls_conduct_21 : decode nC_Walls_conduct 21 = .ok (.aload_n 0, 1) := by decide +kernel
theorem nd_Walls_conduct_22 : decode nC_Walls_conduct 22 = .ok (.iload_n 3, 1) := by decide +kernel
theorem nd_Walls_conduct_23 : decode nC_Walls_conduct 23 = .ok (.iconst 1, 1) := by decide +kernel
theorem nd_Walls_conduct_24 : decode nC_Walls_conduct 24 = .ok (.isub, 1) := by decide +kernel
theorem nd_Walls_conduct_25 : decode nC_Walls_conduct 25 = .ok (.invokevirtual 38, 3) := by decide +kernel
theorem nd_Walls_conduct_28 : decode nC_Walls_conduct 28 = .ok (.lstore 4, 2) := by decide +kernel
theorem nd_Walls_conduct_30 : decode nC_Walls_conduct 30 = .ok (.aload_n 0, 1) := by decide +kernel
theorem nd_Walls_conduct_31 : decode nC_Walls_conduct 31 = .ok (.getfield 9, 3) := by decide +kernel
theorem nd_Walls_conduct_34 : decode nC_Walls_conduct 34 = .ok (.iload_n 3, 1) := by decide +kernel
theorem nd_Walls_conduct_35 : decode nC_Walls_conduct 35 = .ok (.iaload, 1) := by decide +kernel
theorem nd_Walls_conduct_36 : decode nC_Walls_conduct 36 = .ok (.i2l, 1) := by decide +kernel
theorem nd_Walls_conduct_37 : decode nC_Walls_conduct 37 = .ok (.lload 4, 2) := by decide +kernel
theorem nd_Walls_conduct_39 : decode nC_Walls_conduct 39 = .ok (.aload_n 0, 1) := by decide +kernel
theorem nd_Walls_conduct_40 : decode nC_Walls_conduct 40 = .ok (.iload_n 3, 1) := by decide +kernel
theorem nd_Walls_conduct_41 : decode nC_Walls_conduct 41 = .ok (.invokevirtual 38, 3) := by decide +kernel
theorem nd_Walls_conduct_44 : decode nC_Walls_conduct 44 = .ok (.lsub, 1) := by decide +kernel
theorem nd_Walls_conduct_45 : decode nC_Walls_conduct 45 = .ok (.lmul, 1) := by decide +kernel
theorem nd_Walls_conduct_46 : decode nC_Walls_conduct 46 = .ok (.ldc2_w 41, 3) := by decide +kernel
theorem nd_Walls_conduct_49 : decode nC_Walls_conduct 49 = .ok (.invokestatic 28, 3) := by decide +kernel
theorem nd_Walls_conduct_52 : decode nC_Walls_conduct 52 = .ok (.lstore 6, 2) := by decide +kernel
theorem nd_Walls_conduct_54 : decode nC_Walls_conduct 54 = .ok (.iload_n 3, 1) := by decide +kernel
theorem nd_Walls_conduct_55 : decode nC_Walls_conduct 55 = .ok (.ifCond .ne 14, 3) := by decide +kernel
theorem nd_Walls_conduct_58 : decode nC_Walls_conduct 58 = .ok (.aload_n 1, 1) := by decide +kernel
theorem nd_Walls_conduct_59 : decode nC_Walls_conduct 59 = .ok (.iconst 1, 1) := by decide +kernel
theorem nd_Walls_conduct_60 : decode nC_Walls_conduct 60 = .ok (.lload 6, 2) := by decide +kernel
theorem nd_Walls_conduct_62 : decode nC_Walls_conduct 62 = .ok (.lneg, 1) := by decide +kernel
theorem nd_Walls_conduct_63 : decode nC_Walls_conduct 63 = .ok (.invokevirtual 43, 3) := by decide +kernel
theorem nd_Walls_conduct_66 : decode nC_Walls_conduct 66 = .ok (.goto 16, 3) := by decide +kernel
theorem nd_Walls_conduct_69 : decode nC_Walls_conduct 69 = .ok (.aload_n 0, 1) := by decide +kernel
theorem nd_Walls_conduct_70 : decode nC_Walls_conduct 70 = .ok (.getfield 18, 3) := by decide +kernel
theorem nd_Walls_conduct_73 : decode nC_Walls_conduct 73 = .ok (.iload_n 3, 1) := by decide +kernel
theorem nd_Walls_conduct_74 : decode nC_Walls_conduct 74 = .ok (.iconst 1, 1) := by decide +kernel
theorem nd_Walls_conduct_75 : decode nC_Walls_conduct 75 = .ok (.isub, 1) := by decide +kernel
theorem nd_Walls_conduct_76 : decode nC_Walls_conduct 76 = .ok (.dup2, 1) := by decide +kernel
theorem nd_Walls_conduct_77 : decode nC_Walls_conduct 77 = .ok (.laload, 1) := by decide +kernel
theorem nd_Walls_conduct_78 : decode nC_Walls_conduct 78 = .ok (.lload 6, 2) := by decide +kernel
theorem nd_Walls_conduct_80 : decode nC_Walls_conduct 80 = .ok (.lsub, 1) := by decide +kernel
theorem nd_Walls_conduct_81 : decode nC_Walls_conduct 81 = .ok (.lastore, 1) := by decide +kernel
theorem nd_Walls_conduct_82 : decode nC_Walls_conduct 82 = .ok (.aload_n 0, 1) := by decide +kernel
theorem nd_Walls_conduct_83 : decode nC_Walls_conduct 83 = .ok (.getfield 18, 3) := by decide +kernel
theorem nd_Walls_conduct_86 : decode nC_Walls_conduct 86 = .ok (.iload_n 3, 1) := by decide +kernel
theorem nd_Walls_conduct_87 : decode nC_Walls_conduct 87 = .ok (.dup2, 1) := by decide +kernel
theorem nd_Walls_conduct_88 : decode nC_Walls_conduct 88 = .ok (.laload, 1) := by decide +kernel
theorem nd_Walls_conduct_89 : decode nC_Walls_conduct 89 = .ok (.lload 6, 2) := by decide +kernel
theorem nd_Walls_conduct_91 : decode nC_Walls_conduct 91 = .ok (.ladd, 1) := by decide +kernel
theorem nd_Walls_conduct_92 : decode nC_Walls_conduct 92 = .ok (.lastore, 1) := by decide +kernel
theorem nd_Walls_conduct_93 : decode nC_Walls_conduct 93 = .ok (.iinc 3 1, 3) := by decide +kernel
theorem nd_Walls_conduct_96 : decode nC_Walls_conduct 96 = .ok (.goto (-94), 3) := by decide +kernel
theorem nd_Walls_conduct_99 : decode nC_Walls_conduct 99 = .ok (.aload_n 0, 1) := by decide +kernel
theorem nd_Walls_conduct_100 : decode nC_Walls_conduct 100 = .ok (.getfield 22, 3) := by decide +kernel
theorem nd_Walls_conduct_103 : decode nC_Walls_conduct 103 = .ok (.ifCond .le 41, 3) := by decide +kernel
theorem nd_Walls_conduct_106 : decode nC_Walls_conduct 106 = .ok (.aload_n 0, 1) := by decide +kernel
theorem nd_Walls_conduct_107 : decode nC_Walls_conduct 107 = .ok (.getfield 22, 3) := by decide +kernel
theorem nd_Walls_conduct_110 : decode nC_Walls_conduct 110 = .ok (.iconst 1, 1) := by decide +kernel
theorem nd_Walls_conduct_111 : decode nC_Walls_conduct 111 = .ok (.isub, 1) := by decide +kernel
theorem nd_Walls_conduct_112 : decode nC_Walls_conduct 112 = .ok (.istore_n 3, 1) := by decide +kernel
theorem nd_Walls_conduct_113 : decode nC_Walls_conduct 113 = .ok (.aload_n 0, 1) := by decide +kernel
theorem nd_Walls_conduct_114 : decode nC_Walls_conduct 114 = .ok (.getfield 18, 3) := by decide +kernel
theorem nd_Walls_conduct_117 : decode nC_Walls_conduct 117 = .ok (.iload_n 3, 1) := by decide +kernel
theorem nd_Walls_conduct_118 : decode nC_Walls_conduct 118 = .ok (.dup2, 1) := by decide +kernel
theorem nd_Walls_conduct_119 : decode nC_Walls_conduct 119 = .ok (.laload, 1) := by decide +kernel
theorem nd_Walls_conduct_120 : decode nC_Walls_conduct 120 = .ok (.aload_n 0, 1) := by decide +kernel
theorem nd_Walls_conduct_121 : decode nC_Walls_conduct 121 = .ok (.getfield 9, 3) := by decide +kernel
theorem nd_Walls_conduct_124 : decode nC_Walls_conduct 124 = .ok (.iload_n 3, 1) := by decide +kernel
theorem nd_Walls_conduct_125 : decode nC_Walls_conduct 125 = .ok (.iaload, 1) := by decide +kernel
theorem nd_Walls_conduct_126 : decode nC_Walls_conduct 126 = .ok (.i2l, 1) := by decide +kernel
theorem nd_Walls_conduct_127 : decode nC_Walls_conduct 127 = .ok (.iload_n 2, 1) := by decide +kernel
theorem nd_Walls_conduct_128 : decode nC_Walls_conduct 128 = .ok (.i2l, 1) := by decide +kernel
theorem nd_Walls_conduct_129 : decode nC_Walls_conduct 129 = .ok (.aload_n 0, 1) := by decide +kernel
theorem nd_Walls_conduct_130 : decode nC_Walls_conduct 130 = .ok (.iload_n 3, 1) := by decide +kernel
theorem nd_Walls_conduct_131 : decode nC_Walls_conduct 131 = .ok (.invokevirtual 38, 3) := by decide +kernel
theorem nd_Walls_conduct_134 : decode nC_Walls_conduct 134 = .ok (.lsub, 1) := by decide +kernel
theorem nd_Walls_conduct_135 : decode nC_Walls_conduct 135 = .ok (.lmul, 1) := by decide +kernel
theorem nd_Walls_conduct_136 : decode nC_Walls_conduct 136 = .ok (.ldc2_w 41, 3) := by decide +kernel
theorem nd_Walls_conduct_139 : decode nC_Walls_conduct 139 = .ok (.invokestatic 28, 3) := by decide +kernel
theorem nd_Walls_conduct_142 : decode nC_Walls_conduct 142 = .ok (.ladd, 1) := by decide +kernel
theorem nd_Walls_conduct_143 : decode nC_Walls_conduct 143 = .ok (.lastore, 1) := by decide +kernel
theorem nd_Walls_conduct_144 : decode nC_Walls_conduct 144 = .ok (.return_, 1) := by decide +kernel
theorem nd_Interior_receive_0 : decode nC_Interior_receive 0 = .ok (.aload_n 0, 1) := by decide +kernel
theorem nd_Interior_receive_1 : decode nC_Interior_receive 1 = .ok (.iconst 3, 1) := by decide +kernel
theorem nd_Interior_receive_2 : decode nC_Interior_receive 2 = .ok (.ldc2_w 56, 3) := by decide +kernel
theorem nd_Interior_receive_5 : decode nC_Interior_receive 5 = .ok (.iload_n 1, 1) := by decide +kernel
theorem nd_Interior_receive_6 : decode nC_Interior_receive 6 = .ok (.i2l, 1) := by decide +kernel
theorem nd_Interior_receive_7 : decode nC_Interior_receive 7 = .ok (.lmul, 1) := by decide +kernel
theorem nd_Interior_receive_8 : decode nC_Interior_receive 8 = .ok (.invokevirtual 46, 3) := by decide +kernel
theorem nd_Interior_receive_11 : decode nC_Interior_receive 11 = .ok (.aload_n 0, 1) := by decide +kernel
theorem nd_Interior_receive_12 : decode nC_Interior_receive 12 = .ok (.iconst 3, 1) := by decide +kernel
theorem nd_Interior_receive_13 : decode nC_Interior_receive 13 = .ok (.ldc2_w 58, 3) := by decide +kernel
theorem nd_Interior_receive_16 : decode nC_Interior_receive 16 = .ok (.iload_n 1, 1) := by decide +kernel
theorem nd_Interior_receive_17 : decode nC_Interior_receive 17 = .ok (.i2l, 1) := by decide +kernel
theorem nd_Interior_receive_18 : decode nC_Interior_receive 18 = .ok (.lmul, 1) := by decide +kernel
theorem nd_Interior_receive_19 : decode nC_Interior_receive 19 = .ok (.invokevirtual 53, 3) := by decide +kernel
theorem nd_Interior_receive_22 : decode nC_Interior_receive 22 = .ok (.return_, 1) := by decide +kernel
theorem nd_Machines_steer_0 : decode nC_Machines_steer 0 = .ok (.aload_n 0, 1) := by decide +kernel
theorem nd_Machines_steer_1 : decode nC_Machines_steer 1 = .ok (.getfield 21, 3) := by decide +kernel
theorem nd_Machines_steer_4 : decode nC_Machines_steer 4 = .ok (.iload_n 1, 1) := by decide +kernel
theorem nd_Machines_steer_5 : decode nC_Machines_steer 5 = .ok (.baload, 1) := by decide +kernel
theorem nd_Machines_steer_6 : decode nC_Machines_steer 6 = .ok (.ifCond .ne 4, 3) := by decide +kernel
theorem nd_Machines_steer_9 : decode nC_Machines_steer 9 = .ok (.return_, 1) := by decide +kernel
theorem nd_Machines_steer_10 : decode nC_Machines_steer 10 = .ok (.iload_n 1, 1) := by decide +kernel
theorem nd_Machines_steer_11 : decode nC_Machines_steer 11 = .ok (.ifCond .eq 8, 3) := by decide +kernel
theorem nd_Machines_steer_14 : decode nC_Machines_steer 14 = .ok (.iload_n 1, 1) := by decide +kernel
theorem nd_Machines_steer_15 : decode nC_Machines_steer 15 = .ok (.iconst 2, 1) := by decide +kernel
theorem nd_Machines_steer_16 : decode nC_Machines_steer 16 = .ok (.if_icmp .ne 7, 3) := by decide +kernel
theorem nd_Machines_steer_19 : decode nC_Machines_steer 19 = .ok (.iconst 1, 1) := by decide +kernel
theorem nd_Machines_steer_20 : decode nC_Machines_steer 20 = .ok (.goto 4, 3) := by decide +kernel
theorem nd_Machines_steer_23 : decode nC_Machines_steer 23 = .ok (.iconst 0, 1) := by decide +kernel
theorem nd_Machines_steer_24 : decode nC_Machines_steer 24 = .ok (.istore 4, 2) := by decide +kernel
theorem nd_Machines_steer_26 : decode nC_Machines_steer 26 = .ok (.lload_n 2, 1) := by decide +kernel
theorem nd_Machines_steer_27 : decode nC_Machines_steer 27 = .ok (.aload_n 0, 1) := by decide +kernel
theorem nd_Machines_steer_28 : decode nC_Machines_steer 28 = .ok (.getfield 9, 3) := by decide +kernel
theorem nd_Machines_steer_31 : decode nC_Machines_steer 31 = .ok (.iload_n 1, 1) := by decide +kernel
theorem nd_Machines_steer_32 : decode nC_Machines_steer 32 = .ok (.iaload, 1) := by decide +kernel
theorem nd_Machines_steer_33 : decode nC_Machines_steer 33 = .ok (.i2l, 1) := by decide +kernel
theorem nd_Machines_steer_34 : decode nC_Machines_steer 34 = .ok (.lcmp, 1) := by decide +kernel
theorem nd_Machines_steer_35 : decode nC_Machines_steer 35 = .ok (.ifCond .ge 14, 3) := by decide +kernel
theorem nd_Machines_steer_38 : decode nC_Machines_steer 38 = .ok (.aload_n 0, 1) := by decide +kernel
theorem nd_Machines_steer_39 : decode nC_Machines_steer 39 = .ok (.getfield 25, 3) := by decide +kernel
theorem nd_Machines_steer_42 : decode nC_Machines_steer 42 = .ok (.iload_n 1, 1) := by decide +kernel
theorem nd_Machines_steer_43 : decode nC_Machines_steer 43 = .ok (.iload 4, 2) := by decide +kernel
theorem nd_Machines_steer_45 : decode nC_Machines_steer 45 = .ok (.bastore, 1) := by decide +kernel
theorem nd_Machines_steer_46 : decode nC_Machines_steer 46 = .ok (.goto 31, 3) := by decide +kernel
theorem nd_Machines_steer_49 : decode nC_Machines_steer 49 = .ok (.lload_n 2, 1) := by decide +kernel
theorem nd_Machines_steer_50 : decode nC_Machines_steer 50 = .ok (.aload_n 0, 1) := by decide +kernel
theorem nd_Machines_steer_51 : decode nC_Machines_steer 51 = .ok (.getfield 15, 3) := by decide +kernel
theorem nd_Machines_steer_54 : decode nC_Machines_steer 54 = .ok (.iload_n 1, 1) := by decide +kernel
theorem nd_Machines_steer_55 : decode nC_Machines_steer 55 = .ok (.iaload, 1) := by decide +kernel
theorem nd_Machines_steer_56 : decode nC_Machines_steer 56 = .ok (.i2l, 1) := by decide +kernel
theorem nd_Machines_steer_57 : decode nC_Machines_steer 57 = .ok (.lcmp, 1) := by decide +kernel
theorem nd_Machines_steer_58 : decode nC_Machines_steer 58 = .ok (.ifCond .le 19, 3) := by decide +kernel
theorem nd_Machines_steer_61 : decode nC_Machines_steer 61 = .ok (.aload_n 0, 1) := by decide +kernel
theorem nd_Machines_steer_62 : decode nC_Machines_steer 62 = .ok (.getfield 25, 3) := by decide +kernel
theorem nd_Machines_steer_65 : decode nC_Machines_steer 65 = .ok (.iload_n 1, 1) := by decide +kernel
theorem nd_Machines_steer_66 : decode nC_Machines_steer 66 = .ok (.iload 4, 2) := by decide +kernel
theorem nd_Machines_steer_68 : decode nC_Machines_steer 68 = .ok (.ifCond .ne 7, 3) := by decide +kernel
theorem nd_Machines_steer_71 : decode nC_Machines_steer 71 = .ok (.iconst 1, 1) := by decide +kernel
theorem nd_Machines_steer_72 : decode nC_Machines_steer 72 = .ok (.goto 4, 3) := by decide +kernel
theorem nd_Machines_steer_75 : decode nC_Machines_steer 75 = .ok (.iconst 0, 1) := by decide +kernel
theorem nd_Machines_steer_76 : decode nC_Machines_steer 76 = .ok (.bastore, 1) := by decide +kernel
theorem nd_Machines_steer_77 : decode nC_Machines_steer 77 = .ok (.return_, 1) := by decide +kernel
theorem nd_Machines_output_0 : decode nC_Machines_output 0 = .ok (.aload_n 0, 1) := by decide +kernel
theorem nd_Machines_output_1 : decode nC_Machines_output 1 = .ok (.getfield 25, 3) := by decide +kernel
theorem nd_Machines_output_4 : decode nC_Machines_output 4 = .ok (.iload_n 1, 1) := by decide +kernel
theorem nd_Machines_output_5 : decode nC_Machines_output 5 = .ok (.baload, 1) := by decide +kernel
theorem nd_Machines_output_6 : decode nC_Machines_output 6 = .ok (.ifCond .eq 12, 3) := by decide +kernel
theorem nd_Machines_output_9 : decode nC_Machines_output 9 = .ok (.aload_n 0, 1) := by decide +kernel
theorem nd_Machines_output_10 : decode nC_Machines_output 10 = .ok (.getfield 18, 3) := by decide +kernel
theorem nd_Machines_output_13 : decode nC_Machines_output 13 = .ok (.iload_n 1, 1) := by decide +kernel
theorem nd_Machines_output_14 : decode nC_Machines_output 14 = .ok (.iaload, 1) := by decide +kernel
theorem nd_Machines_output_15 : decode nC_Machines_output 15 = .ok (.goto 4, 3) := by decide +kernel
theorem nd_Machines_output_18 : decode nC_Machines_output 18 = .ok (.iconst 0, 1) := by decide +kernel
theorem nd_Machines_output_19 : decode nC_Machines_output 19 = .ok (.ireturn, 1) := by decide +kernel
theorem nd_Machines_work_0 : decode nC_Machines_work 0 = .ok (.aload_n 0, 1) := by decide +kernel
theorem nd_Machines_work_1 : decode nC_Machines_work 1 = .ok (.iconst 0, 1) := by decide +kernel
theorem nd_Machines_work_2 : decode nC_Machines_work 2 = .ok (.aload_n 1, 1) := by decide +kernel
theorem nd_Machines_work_3 : decode nC_Machines_work 3 = .ok (.invokevirtual 28, 3) := by decide +kernel
theorem nd_Machines_work_6 : decode nC_Machines_work 6 = .ok (.invokevirtual 34, 3) := by decide +kernel
theorem nd_Machines_work_9 : decode nC_Machines_work 9 = .ok (.aload_n 1, 1) := by decide +kernel
theorem nd_Machines_work_10 : decode nC_Machines_work 10 = .ok (.iconst 4, 1) := by decide +kernel
theorem nd_Machines_work_11 : decode nC_Machines_work 11 = .ok (.aload_n 0, 1) := by decide +kernel
theorem nd_Machines_work_12 : decode nC_Machines_work 12 = .ok (.iconst 0, 1) := by decide +kernel
theorem nd_Machines_work_13 : decode nC_Machines_work 13 = .ok (.invokevirtual 38, 3) := by decide +kernel
theorem nd_Machines_work_16 : decode nC_Machines_work 16 = .ok (.i2l, 1) := by decide +kernel
theorem nd_Machines_work_17 : decode nC_Machines_work 17 = .ok (.invokevirtual 42, 3) := by decide +kernel
theorem nd_Machines_work_20 : decode nC_Machines_work 20 = .ok (.aload_n 0, 1) := by decide +kernel
theorem nd_Machines_work_21 : decode nC_Machines_work 21 = .ok (.iconst 1, 1) := by decide +kernel
theorem nd_Machines_work_22 : decode nC_Machines_work 22 = .ok (.aload_n 1, 1) := by decide +kernel
theorem nd_Machines_work_23 : decode nC_Machines_work 23 = .ok (.invokevirtual 28, 3) := by decide +kernel
theorem nd_Machines_work_26 : decode nC_Machines_work 26 = .ok (.invokevirtual 34, 3) := by decide +kernel
theorem nd_Machines_work_29 : decode nC_Machines_work 29 = .ok (.aload_n 1, 1) := by decide +kernel
theorem nd_Machines_work_30 : decode nC_Machines_work 30 = .ok (.iconst 4, 1) := by decide +kernel
theorem nd_Machines_work_31 : decode nC_Machines_work 31 = .ok (.aload_n 0, 1) := by decide +kernel
theorem nd_Machines_work_32 : decode nC_Machines_work 32 = .ok (.iconst 1, 1) := by decide +kernel
theorem nd_Machines_work_33 : decode nC_Machines_work 33 = .ok (.invokevirtual 38, 3) := by decide +kernel
theorem nd_Machines_work_36 : decode nC_Machines_work 36 = .ok (.ineg, 1) := by decide +kernel
theorem nd_Machines_work_37 : decode nC_Machines_work 37 = .ok (.i2l, 1) := by decide +kernel
theorem nd_Machines_work_38 : decode nC_Machines_work 38 = .ok (.invokevirtual 42, 3) := by decide +kernel
theorem nd_Machines_work_41 : decode nC_Machines_work 41 = .ok (.aload_n 0, 1) := by decide +kernel
theorem nd_Machines_work_42 : decode nC_Machines_work 42 = .ok (.iconst 2, 1) := by decide +kernel
theorem nd_Machines_work_43 : decode nC_Machines_work 43 = .ok (.aload_n 1, 1) := by decide +kernel
theorem nd_Machines_work_44 : decode nC_Machines_work 44 = .ok (.invokevirtual 45, 3) := by decide +kernel
theorem nd_Machines_work_47 : decode nC_Machines_work 47 = .ok (.invokevirtual 34, 3) := by decide +kernel
theorem nd_Machines_work_50 : decode nC_Machines_work 50 = .ok (.aload_n 1, 1) := by decide +kernel
theorem nd_Machines_work_51 : decode nC_Machines_work 51 = .ok (.iconst 4, 1) := by decide +kernel
theorem nd_Machines_work_52 : decode nC_Machines_work 52 = .ok (.aload_n 0, 1) := by decide +kernel
theorem nd_Machines_work_53 : decode nC_Machines_work 53 = .ok (.iconst 2, 1) := by decide +kernel
theorem nd_Machines_work_54 : decode nC_Machines_work 54 = .ok (.invokevirtual 38, 3) := by decide +kernel
theorem nd_Machines_work_57 : decode nC_Machines_work 57 = .ok (.i2l, 1) := by decide +kernel
theorem nd_Machines_work_58 : decode nC_Machines_work 58 = .ok (.invokevirtual 48, 3) := by decide +kernel
theorem nd_Machines_work_61 : decode nC_Machines_work 61 = .ok (.aload_n 0, 1) := by decide +kernel
theorem nd_Machines_work_62 : decode nC_Machines_work 62 = .ok (.iconst 3, 1) := by decide +kernel
theorem nd_Machines_work_63 : decode nC_Machines_work 63 = .ok (.aload_n 1, 1) := by decide +kernel
theorem nd_Machines_work_64 : decode nC_Machines_work 64 = .ok (.invokevirtual 45, 3) := by decide +kernel
theorem nd_Machines_work_67 : decode nC_Machines_work 67 = .ok (.invokevirtual 34, 3) := by decide +kernel
theorem nd_Machines_work_70 : decode nC_Machines_work 70 = .ok (.aload_n 1, 1) := by decide +kernel
theorem nd_Machines_work_71 : decode nC_Machines_work 71 = .ok (.iconst 4, 1) := by decide +kernel
theorem nd_Machines_work_72 : decode nC_Machines_work 72 = .ok (.aload_n 0, 1) := by decide +kernel
theorem nd_Machines_work_73 : decode nC_Machines_work 73 = .ok (.iconst 3, 1) := by decide +kernel
theorem nd_Machines_work_74 : decode nC_Machines_work 74 = .ok (.invokevirtual 38, 3) := by decide +kernel
theorem nd_Machines_work_77 : decode nC_Machines_work 77 = .ok (.i2l, 1) := by decide +kernel
theorem nd_Machines_work_78 : decode nC_Machines_work 78 = .ok (.aload_n 1, 1) := by decide +kernel
theorem nd_Machines_work_79 : decode nC_Machines_work 79 = .ok (.getfield 51, 3) := by decide +kernel
theorem nd_Machines_work_82 : decode nC_Machines_work 82 = .ok (.invokestatic 55, 3) := by decide +kernel
theorem nd_Machines_work_85 : decode nC_Machines_work 85 = .ok (.lneg, 1) := by decide +kernel
theorem nd_Machines_work_86 : decode nC_Machines_work 86 = .ok (.invokevirtual 48, 3) := by decide +kernel
theorem nd_Machines_work_89 : decode nC_Machines_work 89 = .ok (.return_, 1) := by decide +kernel
theorem nd_House_pass_0 : decode nC_House_pass 0 = .ok (.aload_n 0, 1) := by decide +kernel
theorem nd_House_pass_1 : decode nC_House_pass 1 = .ok (.getfield 10, 3) := by decide +kernel
theorem nd_House_pass_4 : decode nC_House_pass 4 = .ok (.iload_n 1, 1) := by decide +kernel
theorem nd_House_pass_5 : decode nC_House_pass 5 = .ok (.iload_n 2, 1) := by decide +kernel
theorem nd_House_pass_6 : decode nC_House_pass 6 = .ok (.invokevirtual 39, 3) := by decide +kernel
theorem nd_House_pass_9 : decode nC_House_pass 9 = .ok (.aload_n 0, 1) := by decide +kernel
theorem nd_House_pass_10 : decode nC_House_pass 10 = .ok (.getfield 19, 3) := by decide +kernel
theorem nd_House_pass_13 : decode nC_House_pass 13 = .ok (.aload_n 0, 1) := by decide +kernel
theorem nd_House_pass_14 : decode nC_House_pass 14 = .ok (.getfield 10, 3) := by decide +kernel
theorem nd_House_pass_17 : decode nC_House_pass 17 = .ok (.iload_n 1, 1) := by decide +kernel
theorem nd_House_pass_18 : decode nC_House_pass 18 = .ok (.invokevirtual 43, 3) := by decide +kernel
theorem nd_House_pass_21 : decode nC_House_pass 21 = .ok (.aload_n 0, 1) := by decide +kernel
theorem nd_House_pass_22 : decode nC_House_pass 22 = .ok (.getfield 35, 3) := by decide +kernel
theorem nd_House_pass_25 : decode nC_House_pass 25 = .ok (.aload_n 0, 1) := by decide +kernel
theorem nd_House_pass_26 : decode nC_House_pass 26 = .ok (.getfield 10, 3) := by decide +kernel
theorem nd_House_pass_29 : decode nC_House_pass 29 = .ok (.invokevirtual 47, 3) := by decide +kernel
theorem nd_House_pass_32 : decode nC_House_pass 32 = .ok (.aload_n 0, 1) := by decide +kernel
theorem nd_House_pass_33 : decode nC_House_pass 33 = .ok (.getfield 10, 3) := by decide +kernel
theorem nd_House_pass_36 : decode nC_House_pass 36 = .ok (.iload_n 3, 1) := by decide +kernel
theorem nd_House_pass_37 : decode nC_House_pass 37 = .ok (.invokevirtual 51, 3) := by decide +kernel
theorem nd_House_pass_40 : decode nC_House_pass 40 = .ok (.aload_n 0, 1) := by decide +kernel
theorem nd_House_pass_41 : decode nC_House_pass 41 = .ok (.getfield 26, 3) := by decide +kernel
theorem nd_House_pass_44 : decode nC_House_pass 44 = .ok (.aload_n 0, 1) := by decide +kernel
theorem nd_House_pass_45 : decode nC_House_pass 45 = .ok (.getfield 10, 3) := by decide +kernel
theorem nd_House_pass_48 : decode nC_House_pass 48 = .ok (.invokevirtual 55, 3) := by decide +kernel
theorem nd_House_pass_51 : decode nC_House_pass 51 = .ok (.return_, 1) := by decide +kernel
theorem nd_Interior_copyFrom_0 : decode nC_Interior_copyFrom 0 = .ok (.aload_n 0, 1) := by decide +kernel
theorem nd_Interior_copyFrom_1 : decode nC_Interior_copyFrom 1 = .ok (.aload_n 1, 1) := by decide +kernel
theorem nd_Interior_copyFrom_2 : decode nC_Interior_copyFrom 2 = .ok (.getfield 18, 3) := by decide +kernel
theorem nd_Interior_copyFrom_5 : decode nC_Interior_copyFrom 5 = .ok (.putfield 18, 3) := by decide +kernel
theorem nd_Interior_copyFrom_8 : decode nC_Interior_copyFrom 8 = .ok (.aload_n 0, 1) := by decide +kernel
theorem nd_Interior_copyFrom_9 : decode nC_Interior_copyFrom 9 = .ok (.aload_n 1, 1) := by decide +kernel
theorem nd_Interior_copyFrom_10 : decode nC_Interior_copyFrom 10 = .ok (.getfield 22, 3) := by decide +kernel
theorem nd_Interior_copyFrom_13 : decode nC_Interior_copyFrom 13 = .ok (.putfield 22, 3) := by decide +kernel
theorem nd_Interior_copyFrom_16 : decode nC_Interior_copyFrom 16 = .ok (.aload_n 0, 1) := by decide +kernel
theorem nd_Interior_copyFrom_17 : decode nC_Interior_copyFrom 17 = .ok (.aload_n 1, 1) := by decide +kernel
theorem nd_Interior_copyFrom_18 : decode nC_Interior_copyFrom 18 = .ok (.getfield 27, 3) := by decide +kernel
theorem nd_Interior_copyFrom_21 : decode nC_Interior_copyFrom 21 = .ok (.putfield 27, 3) := by decide +kernel
theorem nd_Interior_copyFrom_24 : decode nC_Interior_copyFrom 24 = .ok (.aload_n 0, 1) := by decide +kernel
theorem nd_Interior_copyFrom_25 : decode nC_Interior_copyFrom 25 = .ok (.aload_n 1, 1) := by decide +kernel
theorem nd_Interior_copyFrom_26 : decode nC_Interior_copyFrom 26 = .ok (.getfield 33, 3) := by decide +kernel
theorem nd_Interior_copyFrom_29 : decode nC_Interior_copyFrom 29 = .ok (.putfield 33, 3) := by decide +kernel
theorem nd_Interior_copyFrom_32 : decode nC_Interior_copyFrom 32 = .ok (.return_, 1) := by decide +kernel
theorem nd_Walls_copyFrom_0 : decode nC_Walls_copyFrom 0 = .ok (.aload_n 0, 1) := by decide +kernel
theorem nd_Walls_copyFrom_1 : decode nC_Walls_copyFrom 1 = .ok (.aload_n 1, 1) := by decide +kernel
theorem nd_Walls_copyFrom_2 : decode nC_Walls_copyFrom 2 = .ok (.getfield 22, 3) := by decide +kernel
theorem nd_Walls_copyFrom_5 : decode nC_Walls_copyFrom 5 = .ok (.putfield 22, 3) := by decide +kernel
theorem nd_Walls_copyFrom_8 : decode nC_Walls_copyFrom 8 = .ok (.iconst 0, 1) := by decide +kernel
theorem nd_Walls_copyFrom_9 : decode nC_Walls_copyFrom 9 = .ok (.istore_n 2, 1) := by decide +kernel
theorem nd_Walls_copyFrom_10 : decode nC_Walls_copyFrom 10 = .ok (.iload_n 2, 1) := by decide +kernel
theorem nd_Walls_copyFrom_11 : decode nC_Walls_copyFrom 11 = .ok (.aload_n 0, 1) := by decide +kernel
theorem nd_Walls_copyFrom_12 : decode nC_Walls_copyFrom 12 = .ok (.getfield 22, 3) := by decide +kernel
theorem nd_Walls_copyFrom_15 : decode nC_Walls_copyFrom 15 = .ok (.if_icmp .ge 45, 3) := by decide +kernel
theorem nd_Walls_copyFrom_18 : decode nC_Walls_copyFrom 18 = .ok (.aload_n 0, 1) := by decide +kernel
theorem nd_Walls_copyFrom_19 : decode nC_Walls_copyFrom 19 = .ok (.getfield 9, 3) := by decide +kernel
theorem nd_Walls_copyFrom_22 : decode nC_Walls_copyFrom 22 = .ok (.iload_n 2, 1) := by decide +kernel
theorem nd_Walls_copyFrom_23 : decode nC_Walls_copyFrom 23 = .ok (.aload_n 1, 1) := by decide +kernel
theorem nd_Walls_copyFrom_24 : decode nC_Walls_copyFrom 24 = .ok (.getfield 9, 3) := by decide +kernel
theorem nd_Walls_copyFrom_27 : decode nC_Walls_copyFrom 27 = .ok (.iload_n 2, 1) := by decide +kernel
theorem nd_Walls_copyFrom_28 : decode nC_Walls_copyFrom 28 = .ok (.iaload, 1) := by decide +kernel
theorem nd_Walls_copyFrom_29 : decode nC_Walls_copyFrom 29 = .ok (.iastore, 1) := by decide +kernel
theorem nd_Walls_copyFrom_30 : decode nC_Walls_copyFrom 30 = .ok (.aload_n 0, 1) := by decide +kernel
theorem nd_Walls_copyFrom_31 : decode nC_Walls_copyFrom 31 = .ok (.getfield 15, 3) := by decide +kernel
theorem nd_Walls_copyFrom_34 : decode nC_Walls_copyFrom 34 = .ok (.iload_n 2, 1) := by decide +kernel
theorem nd_Walls_copyFrom_35 : decode nC_Walls_copyFrom 35 = .ok (.aload_n 1, 1) := by decide +kernel
theorem nd_Walls_copyFrom_36 : decode nC_Walls_copyFrom 36 = .ok (.getfield 15, 3) := by decide +kernel
theorem nd_Walls_copyFrom_39 : decode nC_Walls_copyFrom 39 = .ok (.iload_n 2, 1) := by decide +kernel
theorem nd_Walls_copyFrom_40 : decode nC_Walls_copyFrom 40 = .ok (.iaload, 1) := by decide +kernel
theorem nd_Walls_copyFrom_41 : decode nC_Walls_copyFrom 41 = .ok (.iastore, 1) := by decide +kernel
theorem nd_Walls_copyFrom_42 : decode nC_Walls_copyFrom 42 = .ok (.aload_n 0, 1) := by decide +kernel
theorem nd_Walls_copyFrom_43 : decode nC_Walls_copyFrom 43 = .ok (.getfield 18, 3) := by decide +kernel
theorem nd_Walls_copyFrom_46 : decode nC_Walls_copyFrom 46 = .ok (.iload_n 2, 1) := by decide +kernel
theorem nd_Walls_copyFrom_47 : decode nC_Walls_copyFrom 47 = .ok (.aload_n 1, 1) := by decide +kernel
theorem nd_Walls_copyFrom_48 : decode nC_Walls_copyFrom 48 = .ok (.getfield 18, 3) := by decide +kernel
theorem nd_Walls_copyFrom_51 : decode nC_Walls_copyFrom 51 = .ok (.iload_n 2, 1) := by decide +kernel
theorem nd_Walls_copyFrom_52 : decode nC_Walls_copyFrom 52 = .ok (.laload, 1) := by decide +kernel
theorem nd_Walls_copyFrom_53 : decode nC_Walls_copyFrom 53 = .ok (.lastore, 1) := by decide +kernel
theorem nd_Walls_copyFrom_54 : decode nC_Walls_copyFrom 54 = .ok (.iinc 2 1, 3) := by decide +kernel
theorem nd_Walls_copyFrom_57 : decode nC_Walls_copyFrom 57 = .ok (.goto (-47), 3) := by decide +kernel
theorem nd_Walls_copyFrom_60 : decode nC_Walls_copyFrom 60 = .ok (.return_, 1) := by decide +kernel
theorem nd_Machines_copyFrom_0 : decode nC_Machines_copyFrom 0 = .ok (.iconst 0, 1) := by decide +kernel
theorem nd_Machines_copyFrom_1 : decode nC_Machines_copyFrom 1 = .ok (.istore_n 2, 1) := by decide +kernel
theorem nd_Machines_copyFrom_2 : decode nC_Machines_copyFrom 2 = .ok (.iload_n 2, 1) := by decide +kernel
theorem nd_Machines_copyFrom_3 : decode nC_Machines_copyFrom 3 = .ok (.iconst 4, 1) := by decide +kernel
theorem nd_Machines_copyFrom_4 : decode nC_Machines_copyFrom 4 = .ok (.if_icmp .ge 69, 3) := by decide +kernel
theorem nd_Machines_copyFrom_7 : decode nC_Machines_copyFrom 7 = .ok (.aload_n 0, 1) := by decide +kernel
theorem nd_Machines_copyFrom_8 : decode nC_Machines_copyFrom 8 = .ok (.getfield 9, 3) := by decide +kernel
theorem nd_Machines_copyFrom_11 : decode nC_Machines_copyFrom 11 = .ok (.iload_n 2, 1) := by decide +kernel
theorem nd_Machines_copyFrom_12 : decode nC_Machines_copyFrom 12 = .ok (.aload_n 1, 1) := by decide +kernel
theorem nd_Machines_copyFrom_13 : decode nC_Machines_copyFrom 13 = .ok (.getfield 9, 3) := by decide +kernel
theorem nd_Machines_copyFrom_16 : decode nC_Machines_copyFrom 16 = .ok (.iload_n 2, 1) := by decide +kernel
theorem nd_Machines_copyFrom_17 : decode nC_Machines_copyFrom 17 = .ok (.iaload, 1) := by decide +kernel
theorem nd_Machines_copyFrom_18 : decode nC_Machines_copyFrom 18 = .ok (.iastore, 1) := by decide +kernel
theorem nd_Machines_copyFrom_19 : decode nC_Machines_copyFrom 19 = .ok (.aload_n 0, 1) := by decide +kernel
theorem nd_Machines_copyFrom_20 : decode nC_Machines_copyFrom 20 = .ok (.getfield 15, 3) := by decide +kernel
theorem nd_Machines_copyFrom_23 : decode nC_Machines_copyFrom 23 = .ok (.iload_n 2, 1) := by decide +kernel
theorem nd_Machines_copyFrom_24 : decode nC_Machines_copyFrom 24 = .ok (.aload_n 1, 1) := by decide +kernel
theorem nd_Machines_copyFrom_25 : decode nC_Machines_copyFrom 25 = .ok (.getfield 15, 3) := by decide +kernel
theorem nd_Machines_copyFrom_28 : decode nC_Machines_copyFrom 28 = .ok (.iload_n 2, 1) := by decide +kernel
theorem nd_Machines_copyFrom_29 : decode nC_Machines_copyFrom 29 = .ok (.iaload, 1) := by decide +kernel
theorem nd_Machines_copyFrom_30 : decode nC_Machines_copyFrom 30 = .ok (.iastore, 1) := by decide +kernel
theorem nd_Machines_copyFrom_31 : decode nC_Machines_copyFrom 31 = .ok (.aload_n 0, 1) := by decide +kernel
theorem nd_Machines_copyFrom_32 : decode nC_Machines_copyFrom 32 = .ok (.getfield 18, 3) := by decide +kernel
theorem nd_Machines_copyFrom_35 : decode nC_Machines_copyFrom 35 = .ok (.iload_n 2, 1) := by decide +kernel
theorem nd_Machines_copyFrom_36 : decode nC_Machines_copyFrom 36 = .ok (.aload_n 1, 1) := by decide +kernel
theorem nd_Machines_copyFrom_37 : decode nC_Machines_copyFrom 37 = .ok (.getfield 18, 3) := by decide +kernel
theorem nd_Machines_copyFrom_40 : decode nC_Machines_copyFrom 40 = .ok (.iload_n 2, 1) := by decide +kernel
theorem nd_Machines_copyFrom_41 : decode nC_Machines_copyFrom 41 = .ok (.iaload, 1) := by decide +kernel
theorem nd_Machines_copyFrom_42 : decode nC_Machines_copyFrom 42 = .ok (.iastore, 1) := by decide +kernel
theorem nd_Machines_copyFrom_43 : decode nC_Machines_copyFrom 43 = .ok (.aload_n 0, 1) := by decide +kernel
theorem nd_Machines_copyFrom_44 : decode nC_Machines_copyFrom 44 = .ok (.getfield 21, 3) := by decide +kernel
theorem nd_Machines_copyFrom_47 : decode nC_Machines_copyFrom 47 = .ok (.iload_n 2, 1) := by decide +kernel
theorem nd_Machines_copyFrom_48 : decode nC_Machines_copyFrom 48 = .ok (.aload_n 1, 1) := by decide +kernel
theorem nd_Machines_copyFrom_49 : decode nC_Machines_copyFrom 49 = .ok (.getfield 21, 3) := by decide +kernel
theorem nd_Machines_copyFrom_52 : decode nC_Machines_copyFrom 52 = .ok (.iload_n 2, 1) := by decide +kernel
