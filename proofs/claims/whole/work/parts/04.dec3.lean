theorem nd_Room_rule_18 : decode nC_Room_rule 18 = .ok (.ldc 110, 2) := by decide +kernel
theorem nd_Room_rule_20 : decode nC_Room_rule 20 = .ok (.ldc 101, 2) := by decide +kernel
theorem nd_Room_rule_22 : decode nC_Room_rule 22 = .ok (.invokestatic 52, 3) := by decide +kernel
theorem nd_Room_rule_25 : decode nC_Room_rule 25 = .ok (.iload_n 3, 1) := by decide +kernel
theorem nd_Room_rule_26 : decode nC_Room_rule 26 = .ok (.iconst 1, 1) := by decide +kernel
theorem nd_Room_rule_27 : decode nC_Room_rule 27 = .ok (.bipush 99, 2) := by decide +kernel
theorem nd_Room_rule_29 : decode nC_Room_rule 29 = .ok (.invokestatic 52, 3) := by decide +kernel
theorem nd_Room_rule_32 : decode nC_Room_rule 32 = .ok (.aload_n 0, 1) := by decide +kernel
theorem nd_Room_rule_33 : decode nC_Room_rule 33 = .ok (.getfield 37, 3) := by decide +kernel
theorem nd_Room_rule_36 : decode nC_Room_rule 36 = .ok (.iload_n 1, 1) := by decide +kernel
theorem nd_Room_rule_37 : decode nC_Room_rule 37 = .ok (.iload_n 2, 1) := by decide +kernel
theorem nd_Room_rule_38 : decode nC_Room_rule 38 = .ok (.iload_n 3, 1) := by decide +kernel
theorem nd_Room_rule_39 : decode nC_Room_rule 39 = .ok (.invokevirtual 170, 3) := by decide +kernel
theorem nd_Room_rule_42 : decode nC_Room_rule 42 = .ok (.ireturn, 1) := by decide +kernel
theorem nd_Room_alarm_0 : decode nC_Room_alarm 0 = .ok (.iload_n 1, 1) := by decide +kernel
theorem nd_Room_alarm_1 : decode nC_Room_alarm 1 = .ok (.aload_n 0, 1) := by decide +kernel
theorem nd_Room_alarm_2 : decode nC_Room_alarm 2 = .ok (.getfield 37, 3) := by decide +kernel
theorem nd_Room_alarm_5 : decode nC_Room_alarm 5 = .ok (.getfield 169, 3) := by decide +kernel
theorem nd_Room_alarm_8 : decode nC_Room_alarm 8 = .ok (.invokestatic 107, 3) := by decide +kernel
theorem nd_Room_alarm_11 : decode nC_Room_alarm 11 = .ok (.iload_n 2, 1) := by decide +kernel
theorem nd_Room_alarm_12 : decode nC_Room_alarm 12 = .ok (.iconst (-1), 1) := by decide +kernel
theorem nd_Room_alarm_13 : decode nC_Room_alarm 13 = .ok (.if_icmp .ge 13, 3) := by decide +kernel
theorem nd_Room_alarm_16 : decode nC_Room_alarm 16 = .ok (.new 173, 3) := by decide +kernel
theorem nd_Room_alarm_19 : decode nC_Room_alarm 19 = .ok (.dup, 1) := by decide +kernel
theorem nd_Room_alarm_20 : decode nC_Room_alarm 20 = .ok (.ldc 175, 2) := by decide +kernel
theorem nd_Room_alarm_22 : decode nC_Room_alarm 22 = .ok (.invokespecial 177, 3) := by decide +kernel
theorem nd_Room_alarm_25 : decode nC_Room_alarm 25 = .ok (.athrow, 1) := by decide +kernel
theorem nd_Room_alarm_26 : decode nC_Room_alarm 26 = .ok (.aload_n 0, 1) := by decide +kernel
theorem nd_Room_alarm_27 : decode nC_Room_alarm 27 = .ok (.getfield 37, 3) := by decide +kernel
theorem nd_Room_alarm_30 : decode nC_Room_alarm 30 = .ok (.getfield 180, 3) := by decide +kernel
theorem nd_Room_alarm_33 : decode nC_Room_alarm 33 = .ok (.iload_n 1, 1) := by decide +kernel
theorem nd_Room_alarm_34 : decode nC_Room_alarm 34 = .ok (.iaload, 1) := by decide +kernel
theorem nd_Room_alarm_35 : decode nC_Room_alarm 35 = .ok (.istore_n 3, 1) := by decide +kernel
theorem nd_Room_alarm_36 : decode nC_Room_alarm 36 = .ok (.iload_n 2, 1) := by decide +kernel
theorem nd_Room_alarm_37 : decode nC_Room_alarm 37 = .ok (.iconst (-1), 1) := by decide +kernel
theorem nd_Room_alarm_38 : decode nC_Room_alarm 38 = .ok (.if_icmp .ne 5, 3) := by decide +kernel
theorem nd_Room_alarm_41 : decode nC_Room_alarm 41 = .ok (.iload_n 3, 1) := by decide +kernel
theorem nd_Room_alarm_42 : decode nC_Room_alarm 42 = .ok (.ireturn, 1) := by decide +kernel
theorem nd_Room_alarm_43 : decode nC_Room_alarm 43 = .ok (.iload_n 2, 1) := by decide +kernel
theorem nd_Room_alarm_44 : decode nC_Room_alarm 44 = .ok (.iload_n 3, 1) := by decide +kernel
theorem nd_Room_alarm_45 : decode nC_Room_alarm 45 = .ok (.if_icmp .ge 17, 3) := by decide +kernel
theorem nd_Room_alarm_48 : decode nC_Room_alarm 48 = .ok (.aload_n 0, 1) := by decide +kernel
theorem nd_Room_alarm_49 : decode nC_Room_alarm 49 = .ok (.getfield 37, 3) := by decide +kernel
theorem nd_Room_alarm_52 : decode nC_Room_alarm 52 = .ok (.getfield 183, 3) := by decide +kernel
theorem nd_Room_alarm_55 : decode nC_Room_alarm 55 = .ok (.iload_n 1, 1) := by decide +kernel
theorem nd_Room_alarm_56 : decode nC_Room_alarm 56 = .ok (.aaload, 1) := by decide +kernel
theorem nd_Room_alarm_57 : decode nC_Room_alarm 57 = .ok (.iload_n 2, 1) := by decide +kernel
theorem nd_Room_alarm_58 : decode nC_Room_alarm 58 = .ok (.iaload, 1) := by decide +kernel
theorem nd_Room_alarm_59 : decode nC_Room_alarm 59 = .ok (.goto 4, 3) := by decide +kernel
theorem nd_Room_alarm_62 : decode nC_Room_alarm 62 = .ok (.iconst (-1), 1) := by decide +kernel
theorem nd_Room_alarm_63 : decode nC_Room_alarm 63 = .ok (.ireturn, 1) := by decide +kernel
theorem nd_Room_sensor_0 : decode nC_Room_sensor 0 = .ok (.iload_n 1, 1) := by decide +kernel
theorem nd_Room_sensor_1 : decode nC_Room_sensor 1 = .ok (.aload_n 0, 1) := by decide +kernel
theorem nd_Room_sensor_2 : decode nC_Room_sensor 2 = .ok (.getfield 48, 3) := by decide +kernel
theorem nd_Room_sensor_5 : decode nC_Room_sensor 5 = .ok (.invokestatic 107, 3) := by decide +kernel
theorem nd_Room_sensor_8 : decode nC_Room_sensor 8 = .ok (.iload_n 2, 1) := by decide +kernel
theorem nd_Room_sensor_9 : decode nC_Room_sensor 9 = .ok (.ldc 187, 2) := by decide +kernel
theorem nd_Room_sensor_11 : decode nC_Room_sensor 11 = .ok (.ldc 111, 2) := by decide +kernel
theorem nd_Room_sensor_13 : decode nC_Room_sensor 13 = .ok (.invokestatic 52, 3) := by decide +kernel
theorem nd_Room_sensor_16 : decode nC_Room_sensor 16 = .ok (.aload_n 0, 1) := by decide +kernel
theorem nd_Room_sensor_17 : decode nC_Room_sensor 17 = .ok (.getfield 44, 3) := by decide +kernel
theorem nd_Room_sensor_20 : decode nC_Room_sensor 20 = .ok (.iload_n 1, 1) := by decide +kernel
theorem nd_Room_sensor_21 : decode nC_Room_sensor 21 = .ok (.iload_n 2, 1) := by decide +kernel
theorem nd_Room_sensor_22 : decode nC_Room_sensor 22 = .ok (.invokevirtual 188, 3) := by decide +kernel
theorem nd_Room_sensor_25 : decode nC_Room_sensor 25 = .ok (.return_, 1) := by decide +kernel
theorem nd_Room_check_0 : decode nC_Room_check 0 = .ok (.iload_n 1, 1) := by decide +kernel
theorem nd_Room_check_1 : decode nC_Room_check 1 = .ok (.aload_n 0, 1) := by decide +kernel
theorem nd_Room_check_2 : decode nC_Room_check 2 = .ok (.getfield 48, 3) := by decide +kernel
theorem nd_Room_check_5 : decode nC_Room_check 5 = .ok (.invokestatic 107, 3) := by decide +kernel
theorem nd_Room_check_8 : decode nC_Room_check 8 = .ok (.aload_n 0, 1) := by decide +kernel
theorem nd_Room_check_9 : decode nC_Room_check 9 = .ok (.getfield 44, 3) := by decide +kernel
theorem nd_Room_check_12 : decode nC_Room_check 12 = .ok (.getfield 191, 3) := by decide +kernel
theorem nd_Room_check_15 : decode nC_Room_check 15 = .ok (.iload_n 1, 1) := by decide +kernel
theorem nd_Room_check_16 : decode nC_Room_check 16 = .ok (.baload, 1) := by decide +kernel
theorem nd_Room_check_17 : decode nC_Room_check 17 = .ok (.ifCond .ne 13, 3) := by decide +kernel
theorem nd_Room_check_20 : decode nC_Room_check 20 = .ok (.new 194, 3) := by decide +kernel
theorem nd_Room_check_23 : decode nC_Room_check 23 = .ok (.dup, 1) := by decide +kernel
theorem nd_Room_check_24 : decode nC_Room_check 24 = .ok (.ldc 196, 2) := by decide +kernel
theorem nd_Room_check_26 : decode nC_Room_check 26 = .ok (.invokespecial 198, 3) := by decide +kernel
theorem nd_Room_check_29 : decode nC_Room_check 29 = .ok (.athrow, 1) := by decide +kernel
theorem nd_Room_check_30 : decode nC_Room_check 30 = .ok (.iload_n 2, 1) := by decide +kernel
theorem nd_Room_check_31 : decode nC_Room_check 31 = .ok (.ldc 187, 2) := by decide +kernel
theorem nd_Room_check_33 : decode nC_Room_check 33 = .ok (.ldc 111, 2) := by decide +kernel
theorem nd_Room_check_35 : decode nC_Room_check 35 = .ok (.invokestatic 52, 3) := by decide +kernel
theorem nd_Room_check_38 : decode nC_Room_check 38 = .ok (.aload_n 0, 1) := by decide +kernel
theorem nd_Room_check_39 : decode nC_Room_check 39 = .ok (.getfield 44, 3) := by decide +kernel
theorem nd_Room_check_42 : decode nC_Room_check 42 = .ok (.iload_n 1, 1) := by decide +kernel
theorem nd_Room_check_43 : decode nC_Room_check 43 = .ok (.iload_n 2, 1) := by decide +kernel
theorem nd_Room_check_44 : decode nC_Room_check 44 = .ok (.invokevirtual 199, 3) := by decide +kernel
theorem nd_Room_check_47 : decode nC_Room_check 47 = .ok (.return_, 1) := by decide +kernel
theorem nd_Room_corrected_0 : decode nC_Room_corrected 0 = .ok (.iload_n 1, 1) := by decide +kernel
theorem nd_Room_corrected_1 : decode nC_Room_corrected 1 = .ok (.aload_n 0, 1) := by decide +kernel
theorem nd_Room_corrected_2 : decode nC_Room_corrected 2 = .ok (.getfield 48, 3) := by decide +kernel
theorem nd_Room_corrected_5 : decode nC_Room_corrected 5 = .ok (.invokestatic 107, 3) := by decide +kernel
theorem nd_Room_corrected_8 : decode nC_Room_corrected 8 = .ok (.aload_n 0, 1) := by decide +kernel
theorem nd_Room_corrected_9 : decode nC_Room_corrected 9 = .ok (.getfield 44, 3) := by decide +kernel
theorem nd_Room_corrected_12 : decode nC_Room_corrected 12 = .ok (.getfield 191, 3) := by decide +kernel
theorem nd_Room_corrected_15 : decode nC_Room_corrected 15 = .ok (.iload_n 1, 1) := by decide +kernel
theorem nd_Room_corrected_16 : decode nC_Room_corrected 16 = .ok (.baload, 1) := by decide +kernel
theorem nd_Room_corrected_17 : decode nC_Room_corrected 17 = .ok (.ifCond .eq 28, 3) := by decide +kernel
theorem nd_Room_corrected_20 : decode nC_Room_corrected 20 = .ok (.aload_n 0, 1) := by decide +kernel
theorem nd_Room_corrected_21 : decode nC_Room_corrected 21 = .ok (.getfield 44, 3) := by decide +kernel
theorem nd_Room_corrected_24 : decode nC_Room_corrected 24 = .ok (.getfield 202, 3) := by decide +kernel
theorem nd_Room_corrected_27 : decode nC_Room_corrected 27 = .ok (.iload_n 1, 1) := by decide +kernel
theorem nd_Room_corrected_28 : decode nC_Room_corrected 28 = .ok (.iaload, 1) := by decide +kernel
theorem nd_Room_corrected_29 : decode nC_Room_corrected 29 = .ok (.aload_n 0, 1) := by decide +kernel
theorem nd_Room_corrected_30 : decode nC_Room_corrected 30 = .ok (.getfield 44, 3) := by decide +kernel
theorem nd_Room_corrected_33 : decode nC_Room_corrected 33 = .ok (.iload_n 1, 1) := by decide +kernel
theorem nd_Room_corrected_34 : decode nC_Room_corrected 34 = .ok (.aload_n 0, 1) := by decide +kernel
theorem nd_Room_corrected_35 : decode nC_Room_corrected 35 = .ok (.getfield 48, 3) := by decide +kernel
theorem nd_Room_corrected_38 : decode nC_Room_corrected 38 = .ok (.invokevirtual 205, 3) := by decide +kernel
theorem nd_Room_corrected_41 : decode nC_Room_corrected 41 = .ok (.iadd, 1) := by decide +kernel
theorem nd_Room_corrected_42 : decode nC_Room_corrected 42 = .ok (.goto 5, 3) := by decide +kernel
theorem nd_Room_corrected_45 : decode nC_Room_corrected 45 = .ok (.ldc 208, 2) := by decide +kernel
theorem nd_Room_corrected_47 : decode nC_Room_corrected 47 = .ok (.ireturn, 1) := by decide +kernel
theorem nd_Room_silent_0 : decode nC_Room_silent 0 = .ok (.iload_n 1, 1) := by decide +kernel
theorem nd_Room_silent_1 : decode nC_Room_silent 1 = .ok (.aload_n 0, 1) := by decide +kernel
theorem nd_Room_silent_2 : decode nC_Room_silent 2 = .ok (.getfield 48, 3) := by decide +kernel
theorem nd_Room_silent_5 : decode nC_Room_silent 5 = .ok (.invokestatic 107, 3) := by decide +kernel
theorem nd_Room_silent_8 : decode nC_Room_silent 8 = .ok (.aload_n 0, 1) := by decide +kernel
theorem nd_Room_silent_9 : decode nC_Room_silent 9 = .ok (.getfield 44, 3) := by decide +kernel
theorem nd_Room_silent_12 : decode nC_Room_silent 12 = .ok (.iload_n 1, 1) := by decide +kernel
theorem nd_Room_silent_13 : decode nC_Room_silent 13 = .ok (.aload_n 0, 1) := by decide +kernel
theorem nd_Room_silent_14 : decode nC_Room_silent 14 = .ok (.getfield 48, 3) := by decide +kernel
theorem nd_Room_silent_17 : decode nC_Room_silent 17 = .ok (.invokevirtual 209, 3) := by decide +kernel
theorem nd_Room_silent_20 : decode nC_Room_silent 20 = .ok (.ireturn, 1) := by decide +kernel
theorem nd_Room_distanceFromPlanned_0 : decode nC_Room_distanceFromPlanned 0 = .ok (.lconst 0, 1) := by decide +kernel
theorem nd_Room_distanceFromPlanned_1 : decode nC_Room_distanceFromPlanned 1 = .ok (.ldc2_w 242, 3) := by decide +kernel
theorem nd_Room_distanceFromPlanned_4 : decode nC_Room_distanceFromPlanned 4 = .ok (.lload_n 0, 1) := by decide +kernel
theorem nd_Room_distanceFromPlanned_5 : decode nC_Room_distanceFromPlanned 5 = .ok (.lsub, 1) := by decide +kernel
theorem nd_Room_distanceFromPlanned_6 : decode nC_Room_distanceFromPlanned 6 = .ok (.lload_n 0, 1) := by decide +kernel
theorem nd_Room_distanceFromPlanned_7 : decode nC_Room_distanceFromPlanned 7 = .ok (.ldc2_w 244, 3) := by decide +kernel
theorem nd_Room_distanceFromPlanned_10 : decode nC_Room_distanceFromPlanned 10 = .ok (.lsub, 1) := by decide +kernel
theorem nd_Room_distanceFromPlanned_11 : decode nC_Room_distanceFromPlanned 11 = .ok (.invokestatic 163, 3) := by decide +kernel
theorem nd_Room_distanceFromPlanned_14 : decode nC_Room_distanceFromPlanned 14 = .ok (.invokestatic 163, 3) := by decide +kernel
theorem nd_Room_distanceFromPlanned_17 : decode nC_Room_distanceFromPlanned 17 = .ok (.lreturn, 1) := by decide +kernel
theorem nd_Room_costOfLevel_0 : decode nC_Room_costOfLevel 0 = .ok (.aload_n 0, 1) := by decide +kernel
theorem nd_Room_costOfLevel_1 : decode nC_Room_costOfLevel 1 = .ok (.getfield 23, 3) := by decide +kernel
theorem nd_Room_costOfLevel_4 : decode nC_Room_costOfLevel 4 = .ok (.aload_n 0, 1) := by decide +kernel
theorem nd_Room_costOfLevel_5 : decode nC_Room_costOfLevel 5 = .ok (.getfield 19, 3) := by decide +kernel
theorem nd_Room_costOfLevel_8 : decode nC_Room_costOfLevel 8 = .ok (.invokevirtual 225, 3) := by decide +kernel
theorem nd_Room_costOfLevel_11 : decode nC_Room_costOfLevel 11 = .ok (.aload_n 0, 1) := by decide +kernel
theorem nd_Room_costOfLevel_12 : decode nC_Room_costOfLevel 12 = .ok (.getfield 23, 3) := by decide +kernel
theorem nd_Room_costOfLevel_15 : decode nC_Room_costOfLevel 15 = .ok (.getfield 112, 3) := by decide +kernel
theorem nd_Room_costOfLevel_18 : decode nC_Room_costOfLevel 18 = .ok (.iconst 0, 1) := by decide +kernel
theorem nd_Room_costOfLevel_19 : decode nC_Room_costOfLevel 19 = .ok (.iload_n 1, 1) := by decide +kernel
theorem nd_Room_costOfLevel_20 : decode nC_Room_costOfLevel 20 = .ok (.iload_n 1, 1) := by decide +kernel
theorem nd_Room_costOfLevel_21 : decode nC_Room_costOfLevel 21 = .ok (.sipush 500, 3) := by decide +kernel
theorem nd_Room_costOfLevel_24 : decode nC_Room_costOfLevel 24 = .ok (.iadd, 1) := by decide +kernel
theorem nd_Room_costOfLevel_25 : decode nC_Room_costOfLevel 25 = .ok (.aload_n 0, 1) := by decide +kernel
theorem nd_Room_costOfLevel_26 : decode nC_Room_costOfLevel 26 = .ok (.getfield 19, 3) := by decide +kernel
theorem nd_Room_costOfLevel_29 : decode nC_Room_costOfLevel 29 = .ok (.getfield 112, 3) := by decide +kernel
theorem nd_Room_costOfLevel_32 : decode nC_Room_costOfLevel 32 = .ok (.iconst 0, 1) := by decide +kernel
theorem nd_Room_costOfLevel_33 : decode nC_Room_costOfLevel 33 = .ok (.sipush 5000, 3) := by decide +kernel
theorem nd_Room_costOfLevel_36 : decode nC_Room_costOfLevel 36 = .ok (.invokevirtual 229, 3) := by decide +kernel
theorem nd_Room_costOfLevel_39 : decode nC_Room_costOfLevel 39 = .ok (.invokevirtual 116, 3) := by decide +kernel
theorem nd_Room_costOfLevel_42 : decode nC_Room_costOfLevel 42 = .ok (.lconst 0, 1) := by decide +kernel
theorem nd_Room_costOfLevel_43 : decode nC_Room_costOfLevel 43 = .ok (.lstore 5, 2) := by decide +kernel
theorem nd_Room_costOfLevel_45 : decode nC_Room_costOfLevel 45 = .ok (.iconst 0, 1) := by decide +kernel
theorem nd_Room_costOfLevel_46 : decode nC_Room_costOfLevel 46 = .ok (.istore 7, 2) := by decide +kernel
theorem nd_Room_costOfLevel_48 : decode nC_Room_costOfLevel 48 = .ok (.iload 7, 2) := by decide +kernel
theorem nd_Room_costOfLevel_50 : decode nC_Room_costOfLevel 50 = .ok (.iload_n 2, 1) := by decide +kernel
theorem nd_Room_costOfLevel_51 : decode nC_Room_costOfLevel 51 = .ok (.if_icmp .ge 55, 3) := by decide +kernel
theorem nd_Room_costOfLevel_54 : decode nC_Room_costOfLevel 54 = .ok (.aload_n 0, 1) := by decide +kernel
theorem nd_Room_costOfLevel_55 : decode nC_Room_costOfLevel 55 = .ok (.getfield 23, 3) := by decide +kernel
theorem nd_Room_costOfLevel_58 : decode nC_Room_costOfLevel 58 = .ok (.iload_n 3, 1) := by decide +kernel
theorem nd_Room_costOfLevel_59 : decode nC_Room_costOfLevel 59 = .ok (.iload 4, 2) := by decide +kernel
theorem nd_Room_costOfLevel_61 : decode nC_Room_costOfLevel 61 = .ok (.iconst 0, 1) := by decide +kernel
theorem nd_Room_costOfLevel_62 : decode nC_Room_costOfLevel 62 = .ok (.invokevirtual 122, 3) := by decide +kernel
theorem nd_Room_costOfLevel_65 : decode nC_Room_costOfLevel 65 = .ok (.lload 5, 2) := by decide +kernel
theorem nd_Room_costOfLevel_67 : decode nC_Room_costOfLevel 67 = .ok (.aload_n 0, 1) := by decide +kernel
theorem nd_Room_costOfLevel_68 : decode nC_Room_costOfLevel 68 = .ok (.getfield 23, 3) := by decide +kernel
theorem nd_Room_costOfLevel_71 : decode nC_Room_costOfLevel 71 = .ok (.getfield 112, 3) := by decide +kernel
theorem nd_Room_costOfLevel_74 : decode nC_Room_costOfLevel 74 = .ok (.iconst 0, 1) := by decide +kernel
theorem nd_Room_costOfLevel_75 : decode nC_Room_costOfLevel 75 = .ok (.invokevirtual 232, 3) := by decide +kernel
theorem nd_Room_costOfLevel_78 : decode nC_Room_costOfLevel 78 = .ok (.i2l, 1) := by decide +kernel
theorem nd_Room_costOfLevel_79 : decode nC_Room_costOfLevel 79 = .ok (.ldc2_w 236, 3) := by decide +kernel
theorem nd_Room_costOfLevel_82 : decode nC_Room_costOfLevel 82 = .ok (.aload_n 0, 1) := by decide +kernel
theorem nd_Room_costOfLevel_83 : decode nC_Room_costOfLevel 83 = .ok (.getfield 23, 3) := by decide +kernel
theorem nd_Room_costOfLevel_86 : decode nC_Room_costOfLevel 86 = .ok (.getfield 56, 3) := by decide +kernel
theorem nd_Room_costOfLevel_89 : decode nC_Room_costOfLevel 89 = .ok (.invokevirtual 132, 3) := by decide +kernel
theorem nd_Room_costOfLevel_92 : decode nC_Room_costOfLevel 92 = .ok (.invokestatic 238, 3) := by decide +kernel
theorem nd_Room_costOfLevel_95 : decode nC_Room_costOfLevel 95 = .ok (.lmul, 1) := by decide +kernel
theorem nd_Room_costOfLevel_96 : decode nC_Room_costOfLevel 96 = .ok (.ladd, 1) := by decide +kernel
theorem nd_Room_costOfLevel_97 : decode nC_Room_costOfLevel 97 = .ok (.ladd, 1) := by decide +kernel
theorem nd_Room_costOfLevel_98 : decode nC_Room_costOfLevel 98 = .ok (.lstore 5, 2) := by decide +kernel
theorem nd_Room_costOfLevel_100 : decode nC_Room_costOfLevel 100 = .ok (.iinc 7 1, 3) := by decide +kernel
theorem nd_Room_costOfLevel_103 : decode nC_Room_costOfLevel 103 = .ok (.goto (-55), 3) := by decide +kernel
theorem nd_Room_costOfLevel_106 : decode nC_Room_costOfLevel 106 = .ok (.lload 5, 2) := by decide +kernel
theorem nd_Room_costOfLevel_108 : decode nC_Room_costOfLevel 108 = .ok (.lreturn, 1) := by decide +kernel
theorem nd_Room_plan_0 : decode nC_Room_plan 0 = .ok (.iload_n 1, 1) := by decide +kernel
theorem nd_Room_plan_1 : decode nC_Room_plan 1 = .ok (.iconst 1, 1) := by decide +kernel
theorem nd_Room_plan_2 : decode nC_Room_plan 2 = .ok (.bipush 24, 2) := by decide +kernel
theorem nd_Room_plan_4 : decode nC_Room_plan 4 = .ok (.invokestatic 52, 3) := by decide +kernel
theorem nd_Room_plan_7 : decode nC_Room_plan 7 = .ok (.iload_n 2, 1) := by decide +kernel
theorem nd_Room_plan_8 : decode nC_Room_plan 8 = .ok (.ldc 110, 2) := by decide +kernel
theorem nd_Room_plan_10 : decode nC_Room_plan 10 = .ok (.ldc 101, 2) := by decide +kernel
theorem nd_Room_plan_12 : decode nC_Room_plan 12 = .ok (.invokestatic 52, 3) := by decide +kernel
theorem nd_Room_plan_15 : decode nC_Room_plan 15 = .ok (.iload_n 3, 1) := by decide +kernel
theorem nd_Room_plan_16 : decode nC_Room_plan 16 = .ok (.iconst 0, 1) := by decide +kernel
theorem nd_Room_plan_17 : decode nC_Room_plan 17 = .ok (.ldc 101, 2) := by decide +kernel
theorem nd_Room_plan_19 : decode nC_Room_plan 19 = .ok (.invokestatic 52, 3) := by decide +kernel
theorem nd_Room_plan_22 : decode nC_Room_plan 22 = .ok (.sipush 18000, 3) := by decide +kernel
theorem nd_Room_plan_25 : decode nC_Room_plan 25 = .ok (.istore 4, 2) := by decide +kernel
theorem nd_Room_plan_27 : decode nC_Room_plan 27 = .ok (.aload_n 0, 1) := by decide +kernel
theorem nd_Room_plan_28 : decode nC_Room_plan 28 = .ok (.sipush 18000, 3) := by decide +kernel
theorem nd_Room_plan_31 : decode nC_Room_plan 31 = .ok (.iload_n 1, 1) := by decide +kernel
theorem nd_Room_plan_32 : decode nC_Room_plan 32 = .ok (.iload_n 2, 1) := by decide +kernel
theorem nd_Room_plan_33 : decode nC_Room_plan 33 = .ok (.iload_n 3, 1) := by decide +kernel
theorem nd_Room_plan_34 : decode nC_Room_plan 34 = .ok (.invokevirtual 212, 3) := by decide +kernel
theorem nd_Room_plan_37 : decode nC_Room_plan 37 = .ok (.lstore 5, 2) := by decide +kernel
theorem nd_Room_plan_39 : decode nC_Room_plan 39 = .ok (.sipush 18500, 3) := by decide +kernel
theorem nd_Room_plan_42 : decode nC_Room_plan 42 = .ok (.istore 7, 2) := by decide +kernel
theorem nd_Room_plan_44 : decode nC_Room_plan 44 = .ok (.iload 7, 2) := by decide +kernel
theorem nd_Room_plan_46 : decode nC_Room_plan 46 = .ok (.sipush 22000, 3) := by decide +kernel
theorem nd_Room_plan_49 : decode nC_Room_plan 49 = .ok (.if_icmp .gt 39, 3) := by decide +kernel
theorem nd_Room_plan_52 : decode nC_Room_plan 52 = .ok (.aload_n 0, 1) := by decide +kernel
theorem nd_Room_plan_53 : decode nC_Room_plan 53 = .ok (.iload 7, 2) := by decide +kernel
theorem nd_Room_plan_55 : decode nC_Room_plan 55 = .ok (.iload_n 1, 1) := by decide +kernel
theorem nd_Room_plan_56 : decode nC_Room_plan 56 = .ok (.iload_n 2, 1) := by decide +kernel
theorem nd_Room_plan_57 : decode nC_Room_plan 57 = .ok (.iload_n 3, 1) := by decide +kernel
theorem nd_Room_plan_58 : decode nC_Room_plan 58 = .ok (.invokevirtual 212, 3) := by decide +kernel
theorem nd_Room_plan_61 : decode nC_Room_plan 61 = .ok (.lstore 8, 2) := by decide +kernel
theorem nd_Room_plan_63 : decode nC_Room_plan 63 = .ok (.lload 8, 2) := by decide +kernel
theorem nd_Room_plan_65 : decode nC_Room_plan 65 = .ok (.lload 5, 2) := by decide +kernel
theorem nd_Room_plan_67 : decode nC_Room_plan 67 = .ok (.lcmp, 1) := by decide +kernel
theorem nd_Room_plan_68 : decode nC_Room_plan 68 = .ok (.ifCond .ge 11, 3) := by decide +kernel
theorem nd_Room_plan_71 : decode nC_Room_plan 71 = .ok (.iload 7, 2) := by decide +kernel
theorem nd_Room_plan_73 : decode nC_Room_plan 73 = .ok (.istore 4, 2) := by decide +kernel
theorem nd_Room_plan_75 : decode nC_Room_plan 75 = .ok (.lload 8, 2) := by decide +kernel
theorem nd_Room_plan_77 : decode nC_Room_plan 77 = .ok (.lstore 5, 2) := by decide +kernel
theorem nd_Room_plan_79 : decode nC_Room_plan 79 = .ok (.iinc 7 500, 6) := by decide +kernel
theorem nd_Room_plan_85 : decode nC_Room_plan 85 = .ok (.goto (-41), 3) := by decide +kernel
theorem nd_Room_plan_88 : decode nC_Room_plan 88 = .ok (.iload 4, 2) := by decide +kernel
theorem nd_Room_plan_90 : decode nC_Room_plan 90 = .ok (.ireturn, 1) := by decide +kernel
theorem nd_Room_count_0 : decode nC_Room_count 0 = .ok (.iload_n 1, 1) := by decide +kernel
theorem nd_Room_count_1 : decode nC_Room_count 1 = .ok (.tableswitch 81 0 4 #[35, 40, 51, 65, 73], 35) := by decide +kernel
theorem nd_Room_count_36 : decode nC_Room_count 36 = .ok (.aload_n 0, 1) := by decide +kernel
theorem nd_Room_count_37 : decode nC_Room_count 37 = .ok (.getfield 48, 3) := by decide +kernel
theorem nd_Room_count_40 : decode nC_Room_count 40 = .ok (.ireturn, 1) := by decide +kernel
theorem nd_Room_count_41 : decode nC_Room_count 41 = .ok (.aload_n 0, 1) := by decide +kernel
theorem nd_Room_count_42 : decode nC_Room_count 42 = .ok (.getfield 19, 3) := by decide +kernel
theorem nd_Room_count_45 : decode nC_Room_count 45 = .ok (.getfield 68, 3) := by decide +kernel
theorem nd_Room_count_48 : decode nC_Room_count 48 = .ok (.getfield 72, 3) := by decide +kernel
theorem nd_Room_count_51 : decode nC_Room_count 51 = .ok (.ireturn, 1) := by decide +kernel
theorem nd_Room_count_52 : decode nC_Room_count 52 = .ok (.aload_n 0, 1) := by decide +kernel
theorem nd_Room_count_53 : decode nC_Room_count 53 = .ok (.getfield 19, 3) := by decide +kernel
theorem nd_Room_count_56 : decode nC_Room_count 56 = .ok (.getfield 85, 3) := by decide +kernel
theorem nd_Room_count_59 : decode nC_Room_count 59 = .ok (.getfield 94, 3) := by decide +kernel
theorem nd_Room_count_62 : decode nC_Room_count 62 = .ok (.getfield 98, 3) := by decide +kernel
theorem nd_Room_count_65 : decode nC_Room_count 65 = .ok (.ireturn, 1) := by decide +kernel
theorem nd_Room_count_66 : decode nC_Room_count 66 = .ok (.aload_n 0, 1) := by decide +kernel
theorem nd_Room_count_67 : decode nC_Room_count 67 = .ok (.getfield 37, 3) := by decide +kernel
theorem nd_Room_count_70 : decode nC_Room_count 70 = .ok (.getfield 169, 3) := by decide +kernel
theorem nd_Room_count_73 : decode nC_Room_count 73 = .ok (.ireturn, 1) := by decide +kernel
theorem nd_Room_count_74 : decode nC_Room_count 74 = .ok (.aload_n 0, 1) := by decide +kernel
theorem nd_Room_count_75 : decode nC_Room_count 75 = .ok (.getfield 44, 3) := by decide +kernel
theorem nd_Room_count_78 : decode nC_Room_count 78 = .ok (.getfield 216, 3) := by decide +kernel
theorem nd_Room_count_81 : decode nC_Room_count 81 = .ok (.ireturn, 1) := by decide +kernel
theorem nd_Room_count_82 : decode nC_Room_count 82 = .ok (.new 173, 3) := by decide +kernel
theorem nd_Room_count_85 : decode nC_Room_count 85 = .ok (.dup, 1) := by decide +kernel
theorem nd_Room_count_86 : decode nC_Room_count 86 = .ok (.ldc 219, 2) := by decide +kernel
theorem nd_Room_count_88 : decode nC_Room_count 88 = .ok (.invokespecial 177, 3) := by decide +kernel
theorem nd_Room_count_91 : decode nC_Room_count 91 = .ok (.athrow, 1) := by decide +kernel
theorem nd_Model_thrown_0 : decode nC_Model_thrown 0 = .ok (.aload_n 0, 1) := by decide +kernel
theorem nd_Model_thrown_1 : decode nC_Model_thrown 1 = .ok (.getfield 96, 3) := by decide +kernel
theorem nd_Model_thrown_4 : decode nC_Model_thrown 4 = .ok (.ireturn, 1) := by decide +kernel
theorem nd_Model_goes_0 : decode nC_Model_goes 0 = .ok (.aload_n 0, 1) := by decide +kernel
theorem nd_Model_goes_1 : decode nC_Model_goes 1 = .ok (.iload_n 1, 1) := by decide +kernel
theorem nd_Model_goes_2 : decode nC_Model_goes 2 = .ok (.ifCond .ne 7, 3) := by decide +kernel
theorem nd_Model_goes_5 : decode nC_Model_goes 5 = .ok (.iconst 1, 1) := by decide +kernel
theorem nd_Model_goes_6 : decode nC_Model_goes 6 = .ok (.goto 20, 3) := by decide +kernel
theorem nd_Model_goes_9 : decode nC_Model_goes 9 = .ok (.iload_n 2, 1) := by decide +kernel
theorem nd_Model_goes_10 : decode nC_Model_goes 10 = .ok (.ifCond .ne 7, 3) := by decide +kernel
theorem nd_Model_goes_13 : decode nC_Model_goes 13 = .ok (.iconst 2, 1) := by decide +kernel
theorem nd_Model_goes_14 : decode nC_Model_goes 14 = .ok (.goto 12, 3) := by decide +kernel
theorem nd_Model_goes_17 : decode nC_Model_goes 17 = .ok (.iload_n 3, 1) := by decide +kernel
theorem nd_Model_goes_18 : decode nC_Model_goes 18 = .ok (.ifCond .ne 7, 3) := by decide +kernel
theorem nd_Model_goes_21 : decode nC_Model_goes 21 = .ok (.iconst 3, 1) := by decide +kernel
theorem nd_Model_goes_22 : decode nC_Model_goes 22 = .ok (.goto 4, 3) := by decide +kernel
theorem nd_Model_goes_25 : decode nC_Model_goes 25 = .ok (.iconst 0, 1) := by decide +kernel
theorem nd_Model_goes_26 : decode nC_Model_goes 26 = .ok (.putfield 96, 3) := by decide +kernel
theorem nd_Model_goes_29 : decode nC_Model_goes 29 = .ok (.aload_n 0, 1) := by decide +kernel
theorem nd_Model_goes_30 : decode nC_Model_goes 30 = .ok (.getfield 96, 3) := by decide +kernel
theorem nd_Model_goes_33 : decode nC_Model_goes 33 = .ok (.ifCond .ne 7, 3) := by decide +kernel
theorem nd_Model_goes_36 : decode nC_Model_goes 36 = .ok (.iconst 1, 1) := by decide +kernel
theorem nd_Model_goes_37 : decode nC_Model_goes 37 = .ok (.goto 4, 3) := by decide +kernel
theorem nd_Model_goes_40 : decode nC_Model_goes 40 = .ok (.iconst 0, 1) := by decide +kernel
theorem nd_Model_goes_41 : decode nC_Model_goes 41 = .ok (.ireturn, 1) := by decide +kernel
theorem nd_Model_within_0 : decode nC_Model_within 0 = .ok (.iload_n 0, 1) := by decide +kernel
theorem nd_Model_within_1 : decode nC_Model_within 1 = .ok (.iload_n 1, 1) := by decide +kernel
theorem nd_Model_within_2 : decode nC_Model_within 2 = .ok (.if_icmp .lt 12, 3) := by decide +kernel
theorem nd_Model_within_5 : decode nC_Model_within 5 = .ok (.iload_n 0, 1) := by decide +kernel
theorem nd_Model_within_6 : decode nC_Model_within 6 = .ok (.iload_n 2, 1) := by decide +kernel
theorem nd_Model_within_7 : decode nC_Model_within 7 = .ok (.if_icmp .gt 7, 3) := by decide +kernel
theorem nd_Model_within_10 : decode nC_Model_within 10 = .ok (.iconst 1, 1) := by decide +kernel
theorem nd_Model_within_11 : decode nC_Model_within 11 = .ok (.goto 4, 3) := by decide +kernel
theorem nd_Model_within_14 : decode nC_Model_within 14 = .ok (.iconst 0, 1) := by decide +kernel
theorem nd_Model_within_15 : decode nC_Model_within 15 = .ok (.ireturn, 1) := by decide +kernel
theorem nd_Model_by_0 : decode nC_Model_by 0 = .ok (.lload_n 0, 1) := by decide +kernel
theorem nd_Model_by_1 : decode nC_Model_by 1 = .ok (.lload_n 2, 1) := by decide +kernel
theorem nd_Model_by_2 : decode nC_Model_by 2 = .ok (.ldiv, 1) := by decide +kernel
theorem nd_Model_by_3 : decode nC_Model_by 3 = .ok (.lstore 4, 2) := by decide +kernel
theorem nd_Model_by_5 : decode nC_Model_by 5 = .ok (.lload 4, 2) := by decide +kernel
theorem nd_Model_by_7 : decode nC_Model_by 7 = .ok (.lload_n 2, 1) := by decide +kernel
theorem nd_Model_by_8 : decode nC_Model_by 8 = .ok (.lmul, 1) := by decide +kernel
theorem nd_Model_by_9 : decode nC_Model_by 9 = .ok (.lload_n 0, 1) := by decide +kernel
theorem nd_Model_by_10 : decode nC_Model_by 10 = .ok (.lcmp, 1) := by decide +kernel
theorem nd_Model_by_11 : decode nC_Model_by 11 = .ok (.ifCond .le 10, 3) := by decide +kernel
theorem nd_Model_by_14 : decode nC_Model_by 14 = .ok (.lload 4, 2) := by decide +kernel
theorem nd_Model_by_16 : decode nC_Model_by 16 = .ok (.lconst 1, 1) := by decide +kernel
theorem nd_Model_by_17 : decode nC_Model_by 17 = .ok (.lsub, 1) := by decide +kernel
theorem nd_Model_by_18 : decode nC_Model_by 18 = .ok (.goto 5, 3) := by decide +kernel
theorem nd_Model_by_21 : decode nC_Model_by 21 = .ok (.lload 4, 2) := by decide +kernel
theorem nd_Model_by_23 : decode nC_Model_by 23 = .ok (.lreturn, 1) := by decide +kernel
theorem nd_Model_room_0 : decode nC_Model_room 0 = .ok (.aload_n 0, 1) := by decide +kernel
theorem nd_Model_room_1 : decode nC_Model_room 1 = .ok (.iload_n 1, 1) := by decide +kernel
theorem nd_Model_room_2 : decode nC_Model_room 2 = .ok (.iconst 1, 1) := by decide +kernel
theorem nd_Model_room_3 : decode nC_Model_room 3 = .ok (.sipush 1000, 3) := by decide +kernel
theorem nd_Model_room_6 : decode nC_Model_room 6 = .ok (.invokestatic 99, 3) := by decide +kernel
theorem nd_Model_room_9 : decode nC_Model_room 9 = .ok (.ifCond .eq 18, 3) := by decide +kernel
theorem nd_Model_room_12 : decode nC_Model_room 12 = .ok (.iload_n 2, 1) := by decide +kernel
theorem nd_Model_room_13 : decode nC_Model_room 13 = .ok (.iconst 0, 1) := by decide +kernel
theorem nd_Model_room_14 : decode nC_Model_room 14 = .ok (.sipush 1000, 3) := by decide +kernel
theorem nd_Model_room_17 : decode nC_Model_room 17 = .ok (.invokestatic 99, 3) := by decide +kernel
theorem nd_Model_room_20 : decode nC_Model_room 20 = .ok (.ifCond .eq 7, 3) := by decide +kernel
theorem nd_Model_room_23 : decode nC_Model_room 23 = .ok (.iconst 1, 1) := by decide +kernel
theorem nd_Model_room_24 : decode nC_Model_room 24 = .ok (.goto 4, 3) := by decide +kernel
theorem nd_Model_room_27 : decode nC_Model_room 27 = .ok (.iconst 0, 1) := by decide +kernel
theorem nd_Model_room_28 : decode nC_Model_room 28 = .ok (.iconst 1, 1) := by decide +kernel
theorem nd_Model_room_29 : decode nC_Model_room 29 = .ok (.iconst 1, 1) := by decide +kernel
theorem nd_Model_room_30 : decode nC_Model_room 30 = .ok (.invokevirtual 103, 3) := by decide +kernel
theorem nd_Model_room_33 : decode nC_Model_room 33 = .ok (.ifCond .eq 13, 3) := by decide +kernel
theorem nd_Model_room_36 : decode nC_Model_room 36 = .ok (.aload_n 0, 1) := by decide +kernel
theorem nd_Model_room_37 : decode nC_Model_room 37 = .ok (.iload_n 1, 1) := by decide +kernel
theorem nd_Model_room_38 : decode nC_Model_room 38 = .ok (.putfield 7, 3) := by decide +kernel
theorem nd_Model_room_41 : decode nC_Model_room 41 = .ok (.aload_n 0, 1) := by decide +kernel
theorem nd_Model_room_42 : decode nC_Model_room 42 = .ok (.iload_n 2, 1) := by decide +kernel
theorem nd_Model_room_43 : decode nC_Model_room 43 = .ok (.putfield 13, 3) := by decide +kernel
theorem nd_Model_room_46 : decode nC_Model_room 46 = .ok (.return_, 1) := by decide +kernel
theorem nd_Model_wall_0 : decode nC_Model_wall 0 = .ok (.aload_n 0, 1) := by decide +kernel
theorem nd_Model_wall_1 : decode nC_Model_wall 1 = .ok (.aload_n 0, 1) := by decide +kernel
theorem nd_Model_wall_2 : decode nC_Model_wall 2 = .ok (.getfield 107, 3) := by decide +kernel
theorem nd_Model_wall_5 : decode nC_Model_wall 5 = .ok (.iconst 5, 1) := by decide +kernel
theorem nd_Model_wall_6 : decode nC_Model_wall 6 = .ok (.if_icmp .ge 7, 3) := by decide +kernel
theorem nd_Model_wall_9 : decode nC_Model_wall 9 = .ok (.iconst 1, 1) := by decide +kernel
theorem nd_Model_wall_10 : decode nC_Model_wall 10 = .ok (.goto 4, 3) := by decide +kernel
theorem nd_Model_wall_13 : decode nC_Model_wall 13 = .ok (.iconst 0, 1) := by decide +kernel
theorem nd_Model_wall_14 : decode nC_Model_wall 14 = .ok (.iload_n 1, 1) := by decide +kernel
theorem nd_Model_wall_15 : decode nC_Model_wall 15 = .ok (.iconst 0, 1) := by decide +kernel
theorem nd_Model_wall_16 : decode nC_Model_wall 16 = .ok (.bipush 100, 2) := by decide +kernel
theorem nd_Model_wall_18 : decode nC_Model_wall 18 = .ok (.invokestatic 99, 3) := by decide +kernel
theorem nd_Model_wall_21 : decode nC_Model_wall 21 = .ok (.ifCond .eq 18, 3) := by decide +kernel
theorem nd_Model_wall_24 : decode nC_Model_wall 24 = .ok (.iload_n 2, 1) := by decide +kernel
theorem nd_Model_wall_25 : decode nC_Model_wall 25 = .ok (.iconst 1, 1) := by decide +kernel
theorem nd_Model_wall_26 : decode nC_Model_wall 26 = .ok (.sipush 1000, 3) := by decide +kernel
theorem nd_Model_wall_29 : decode nC_Model_wall 29 = .ok (.invokestatic 99, 3) := by decide +kernel
theorem nd_Model_wall_32 : decode nC_Model_wall 32 = .ok (.ifCond .eq 7, 3) := by decide +kernel
theorem nd_Model_wall_35 : decode nC_Model_wall 35 = .ok (.iconst 1, 1) := by decide +kernel
theorem nd_Model_wall_36 : decode nC_Model_wall 36 = .ok (.goto 4, 3) := by decide +kernel
theorem nd_Model_wall_39 : decode nC_Model_wall 39 = .ok (.iconst 0, 1) := by decide +kernel
theorem nd_Model_wall_40 : decode nC_Model_wall 40 = .ok (.iconst 1, 1) := by decide +kernel
theorem nd_Model_wall_41 : decode nC_Model_wall 41 = .ok (.invokevirtual 103, 3) := by decide +kernel
theorem nd_Model_wall_44 : decode nC_Model_wall 44 = .ok (.ifCond .ne 5, 3) := by decide +kernel
theorem nd_Model_wall_47 : decode nC_Model_wall 47 = .ok (.iconst 0, 1) := by decide +kernel
theorem nd_Model_wall_48 : decode nC_Model_wall 48 = .ok (.ireturn, 1) := by decide +kernel
theorem nd_Model_wall_49 : decode nC_Model_wall 49 = .ok (.aload_n 0, 1) := by decide +kernel
theorem nd_Model_wall_50 : decode nC_Model_wall 50 = .ok (.getfield 29, 3) := by decide +kernel
theorem nd_Model_wall_53 : decode nC_Model_wall 53 = .ok (.aload_n 0, 1) := by decide +kernel
theorem nd_Model_wall_54 : decode nC_Model_wall 54 = .ok (.getfield 107, 3) := by decide +kernel
theorem nd_Model_wall_57 : decode nC_Model_wall 57 = .ok (.iload_n 1, 1) := by decide +kernel
theorem nd_Model_wall_58 : decode nC_Model_wall 58 = .ok (.iastore, 1) := by decide +kernel
theorem nd_Model_wall_59 : decode nC_Model_wall 59 = .ok (.aload_n 0, 1) := by decide +kernel
theorem nd_Model_wall_60 : decode nC_Model_wall 60 = .ok (.getfield 33, 3) := by decide +kernel
theorem nd_Model_wall_63 : decode nC_Model_wall 63 = .ok (.aload_n 0, 1) := by decide +kernel
theorem nd_Model_wall_64 : decode nC_Model_wall 64 = .ok (.getfield 107, 3) := by decide +kernel
theorem nd_Model_wall_67 : decode nC_Model_wall 67 = .ok (.iload_n 2, 1) := by decide +kernel
theorem nd_Model_wall_68 : decode nC_Model_wall 68 = .ok (.iastore, 1) := by decide +kernel
theorem nd_Model_wall_69 : decode nC_Model_wall 69 = .ok (.aload_n 0, 1) := by decide +kernel
theorem nd_Model_wall_70 : decode nC_Model_wall 70 = .ok (.getfield 16, 3) := by decide +kernel
theorem nd_Model_wall_73 : decode nC_Model_wall 73 = .ok (.iconst 3, 1) := by decide +kernel
theorem nd_Model_wall_74 : decode nC_Model_wall 74 = .ok (.aload_n 0, 1) := by decide +kernel
theorem nd_Model_wall_75 : decode nC_Model_wall 75 = .ok (.getfield 107, 3) := by decide +kernel
theorem nd_Model_wall_78 : decode nC_Model_wall 78 = .ok (.iadd, 1) := by decide +kernel
theorem nd_Model_wall_79 : decode nC_Model_wall 79 = .ok (.ldc2_w 110, 3) := by decide +kernel
theorem nd_Model_wall_82 : decode nC_Model_wall 82 = .ok (.iload_n 2, 1) := by decide +kernel
theorem nd_Model_wall_83 : decode nC_Model_wall 83 = .ok (.i2l, 1) := by decide +kernel
theorem nd_Model_wall_84 : decode nC_Model_wall 84 = .ok (.lmul, 1) := by decide +kernel
theorem nd_Model_wall_85 : decode nC_Model_wall 85 = .ok (.lastore, 1) := by decide +kernel
theorem nd_Model_wall_86 : decode nC_Model_wall 86 = .ok (.aload_n 0, 1) := by decide +kernel
theorem nd_Model_wall_87 : decode nC_Model_wall 87 = .ok (.dup, 1) := by decide +kernel
theorem nd_Model_wall_88 : decode nC_Model_wall 88 = .ok (.getfield 107, 3) := by decide +kernel
theorem nd_Model_wall_91 : decode nC_Model_wall 91 = .ok (.iconst 1, 1) := by decide +kernel
theorem nd_Model_wall_92 : decode nC_Model_wall 92 = .ok (.iadd, 1) := by decide +kernel
theorem nd_Model_wall_93 : decode nC_Model_wall 93 = .ok (.putfield 107, 3) := by decide +kernel
theorem nd_Model_wall_96 : decode nC_Model_wall 96 = .ok (.aload_n 0, 1) := by decide +kernel
theorem nd_Model_wall_97 : decode nC_Model_wall 97 = .ok (.getfield 107, 3) := by decide +kernel
theorem nd_Model_wall_100 : decode nC_Model_wall 100 = .ok (.iconst 1, 1) := by decide +kernel
theorem nd_Model_wall_101 : decode nC_Model_wall 101 = .ok (.isub, 1) := by decide +kernel
theorem nd_Model_wall_102 : decode nC_Model_wall 102 = .ok (.ireturn, 1) := by decide +kernel
theorem nd_Model_goods_0 : decode nC_Model_goods 0 = .ok (.aload_n 0, 1) := by decide +kernel
theorem nd_Model_goods_1 : decode nC_Model_goods 1 = .ok (.iload_n 1, 1) := by decide +kernel
theorem nd_Model_goods_2 : decode nC_Model_goods 2 = .ok (.iconst 0, 1) := by decide +kernel
theorem nd_Model_goods_3 : decode nC_Model_goods 3 = .ok (.sipush 1000, 3) := by decide +kernel
theorem nd_Model_goods_6 : decode nC_Model_goods 6 = .ok (.invokestatic 99, 3) := by decide +kernel
theorem nd_Model_goods_9 : decode nC_Model_goods 9 = .ok (.iconst 1, 1) := by decide +kernel
theorem nd_Model_goods_10 : decode nC_Model_goods 10 = .ok (.iconst 1, 1) := by decide +kernel
theorem nd_Model_goods_11 : decode nC_Model_goods 11 = .ok (.invokevirtual 103, 3) := by decide +kernel
theorem nd_Model_goods_14 : decode nC_Model_goods 14 = .ok (.ifCond .ne 5, 3) := by decide +kernel
theorem nd_Model_goods_17 : decode nC_Model_goods 17 = .ok (.iconst 0, 1) := by decide +kernel
theorem nd_Model_goods_18 : decode nC_Model_goods 18 = .ok (.ireturn, 1) := by decide +kernel
theorem nd_Model_goods_19 : decode nC_Model_goods 19 = .ok (.aload_n 0, 1) := by decide +kernel
theorem nd_Model_goods_20 : decode nC_Model_goods 20 = .ok (.getfield 112, 3) := by decide +kernel
theorem nd_Model_goods_23 : decode nC_Model_goods 23 = .ok (.istore_n 2, 1) := by decide +kernel
theorem nd_Model_goods_24 : decode nC_Model_goods 24 = .ok (.aload_n 0, 1) := by decide +kernel
theorem nd_Model_goods_25 : decode nC_Model_goods 25 = .ok (.iload_n 1, 1) := by decide +kernel
theorem nd_Model_goods_26 : decode nC_Model_goods 26 = .ok (.putfield 112, 3) := by decide +kernel
theorem nd_Model_goods_29 : decode nC_Model_goods 29 = .ok (.iload_n 2, 1) := by decide +kernel
theorem nd_Model_goods_30 : decode nC_Model_goods 30 = .ok (.ireturn, 1) := by decide +kernel
theorem nd_Model_row_0 : decode nC_Model_row 0 = .ok (.aload_n 0, 1) := by decide +kernel
theorem nd_Model_row_1 : decode nC_Model_row 1 = .ok (.getfield 115, 3) := by decide +kernel
theorem nd_Model_row_4 : decode nC_Model_row 4 = .ok (.ifCond .eq 18, 3) := by decide +kernel
theorem nd_Model_row_7 : decode nC_Model_row 7 = .ok (.iload_n 1, 1) := by decide +kernel
theorem nd_Model_row_8 : decode nC_Model_row 8 = .ok (.aload_n 0, 1) := by decide +kernel
theorem nd_Model_row_9 : decode nC_Model_row 9 = .ok (.getfield 36, 3) := by decide +kernel
theorem nd_Model_row_12 : decode nC_Model_row 12 = .ok (.aload_n 0, 1) := by decide +kernel
theorem nd_Model_row_13 : decode nC_Model_row 13 = .ok (.getfield 115, 3) := by decide +kernel
theorem nd_Model_row_16 : decode nC_Model_row 16 = .ok (.iconst 1, 1) := by decide +kernel
theorem nd_Model_row_17 : decode nC_Model_row 17 = .ok (.isub, 1) := by decide +kernel
theorem nd_Model_row_18 : decode nC_Model_row 18 = .ok (.iaload, 1) := by decide +kernel
theorem nd_Model_row_19 : decode nC_Model_row 19 = .ok (.if_icmp .le 7, 3) := by decide +kernel
theorem nd_Model_row_22 : decode nC_Model_row 22 = .ok (.iconst 1, 1) := by decide +kernel
theorem nd_Model_row_23 : decode nC_Model_row 23 = .ok (.goto 4, 3) := by decide +kernel
theorem nd_Model_row_26 : decode nC_Model_row 26 = .ok (.iconst 0, 1) := by decide +kernel
theorem nd_Model_row_27 : decode nC_Model_row 27 = .ok (.istore_n 3, 1) := by decide +kernel
theorem nd_Model_row_28 : decode nC_Model_row 28 = .ok (.aload_n 0, 1) := by decide +kernel
theorem nd_Model_row_29 : decode nC_Model_row 29 = .ok (.aload_n 0, 1) := by decide +kernel
theorem nd_Model_row_30 : decode nC_Model_row 30 = .ok (.getfield 115, 3) := by decide +kernel
theorem nd_Model_row_33 : decode nC_Model_row 33 = .ok (.bipush 6, 2) := by decide +kernel
theorem nd_Model_row_35 : decode nC_Model_row 35 = .ok (.if_icmp .ge 7, 3) := by decide +kernel
theorem nd_Model_row_38 : decode nC_Model_row 38 = .ok (.iconst 1, 1) := by decide +kernel
theorem nd_Model_row_39 : decode nC_Model_row 39 = .ok (.goto 4, 3) := by decide +kernel
theorem nd_Model_row_42 : decode nC_Model_row 42 = .ok (.iconst 0, 1) := by decide +kernel
theorem nd_Model_row_43 : decode nC_Model_row 43 = .ok (.iload_n 1, 1) := by decide +kernel
theorem nd_Model_row_44 : decode nC_Model_row 44 = .ok (.iconst 0, 1) := by decide +kernel
theorem nd_Model_row_45 : decode nC_Model_row 45 = .ok (.ldc 118, 2) := by decide +kernel
theorem nd_Model_row_47 : decode nC_Model_row 47 = .ok (.invokestatic 99, 3) := by decide +kernel
theorem nd_Model_row_50 : decode nC_Model_row 50 = .ok (.ifCond .eq 22, 3) := by decide +kernel
theorem nd_Model_row_53 : decode nC_Model_row 53 = .ok (.iload_n 2, 1) := by decide +kernel
theorem nd_Model_row_54 : decode nC_Model_row 54 = .ok (.iconst 0, 1) := by decide +kernel
theorem nd_Model_row_55 : decode nC_Model_row 55 = .ok (.sipush 10000, 3) := by decide +kernel
theorem nd_Model_row_58 : decode nC_Model_row 58 = .ok (.invokestatic 99, 3) := by decide +kernel
theorem nd_Model_row_61 : decode nC_Model_row 61 = .ok (.ifCond .eq 11, 3) := by decide +kernel
theorem nd_Model_row_64 : decode nC_Model_row 64 = .ok (.iload_n 3, 1) := by decide +kernel
theorem nd_Model_row_65 : decode nC_Model_row 65 = .ok (.ifCond .eq 7, 3) := by decide +kernel
theorem nd_Model_row_68 : decode nC_Model_row 68 = .ok (.iconst 1, 1) := by decide +kernel
theorem nd_Model_row_69 : decode nC_Model_row 69 = .ok (.goto 4, 3) := by decide +kernel
theorem nd_Model_row_72 : decode nC_Model_row 72 = .ok (.iconst 0, 1) := by decide +kernel
theorem nd_Model_row_73 : decode nC_Model_row 73 = .ok (.iconst 1, 1) := by decide +kernel
theorem nd_Model_row_74 : decode nC_Model_row 74 = .ok (.invokevirtual 103, 3) := by decide +kernel
theorem nd_Model_row_77 : decode nC_Model_row 77 = .ok (.ifCond .ne 5, 3) := by decide +kernel
theorem nd_Model_row_80 : decode nC_Model_row 80 = .ok (.iconst 0, 1) := by decide +kernel
theorem nd_Model_row_81 : decode nC_Model_row 81 = .ok (.ireturn, 1) := by decide +kernel
theorem nd_Model_row_82 : decode nC_Model_row 82 = .ok (.aload_n 0, 1) := by decide +kernel
theorem nd_Model_row_83 : decode nC_Model_row 83 = .ok (.getfield 36, 3) := by decide +kernel
theorem nd_Model_row_86 : decode nC_Model_row 86 = .ok (.aload_n 0, 1) := by decide +kernel
theorem nd_Model_row_87 : decode nC_Model_row 87 = .ok (.getfield 115, 3) := by decide +kernel
theorem nd_Model_row_90 : decode nC_Model_row 90 = .ok (.iload_n 1, 1) := by decide +kernel
theorem nd_Model_row_91 : decode nC_Model_row 91 = .ok (.iastore, 1) := by decide +kernel
theorem nd_Model_row_92 : decode nC_Model_row 92 = .ok (.aload_n 0, 1) := by decide +kernel
theorem nd_Model_row_93 : decode nC_Model_row 93 = .ok (.getfield 39, 3) := by decide +kernel
theorem nd_Model_row_96 : decode nC_Model_row 96 = .ok (.aload_n 0, 1) := by decide +kernel
theorem nd_Model_row_97 : decode nC_Model_row 97 = .ok (.getfield 115, 3) := by decide +kernel
theorem nd_Model_row_100 : decode nC_Model_row 100 = .ok (.iload_n 2, 1) := by decide +kernel
theorem nd_Model_row_101 : decode nC_Model_row 101 = .ok (.iastore, 1) := by decide +kernel
theorem nd_Model_row_102 : decode nC_Model_row 102 = .ok (.aload_n 0, 1) := by decide +kernel
theorem nd_Model_row_103 : decode nC_Model_row 103 = .ok (.dup, 1) := by decide +kernel
theorem nd_Model_row_104 : decode nC_Model_row 104 = .ok (.getfield 115, 3) := by decide +kernel
theorem nd_Model_row_107 : decode nC_Model_row 107 = .ok (.iconst 1, 1) := by decide +kernel
theorem nd_Model_row_108 : decode nC_Model_row 108 = .ok (.iadd, 1) := by decide +kernel
theorem nd_Model_row_109 : decode nC_Model_row 109 = .ok (.putfield 115, 3) := by decide +kernel
theorem nd_Model_row_112 : decode nC_Model_row 112 = .ok (.aload_n 0, 1) := by decide +kernel
theorem nd_Model_row_113 : decode nC_Model_row 113 = .ok (.getfield 115, 3) := by decide +kernel
theorem nd_Model_row_116 : decode nC_Model_row 116 = .ok (.iconst 1, 1) := by decide +kernel
theorem nd_Model_row_117 : decode nC_Model_row 117 = .ok (.isub, 1) := by decide +kernel
theorem nd_Model_row_118 : decode nC_Model_row 118 = .ok (.ireturn, 1) := by decide +kernel
theorem nd_Model_isLevel_0 : decode nC_Model_isLevel 0 = .ok (.iload_n 0, 1) := by decide +kernel
theorem nd_Model_isLevel_1 : decode nC_Model_isLevel 1 = .ok (.ldc 119, 2) := by decide +kernel
theorem nd_Model_isLevel_3 : decode nC_Model_isLevel 3 = .ok (.ldc 118, 2) := by decide +kernel
theorem nd_Model_isLevel_5 : decode nC_Model_isLevel 5 = .ok (.invokestatic 99, 3) := by decide +kernel
theorem nd_Model_isLevel_8 : decode nC_Model_isLevel 8 = .ok (.ireturn, 1) := by decide +kernel
theorem nd_Model_machine_0 : decode nC_Model_machine 0 = .ok (.aload_n 0, 1) := by decide +kernel
theorem nd_Model_machine_1 : decode nC_Model_machine 1 = .ok (.iload_n 1, 1) := by decide +kernel
theorem nd_Model_machine_2 : decode nC_Model_machine 2 = .ok (.iconst 0, 1) := by decide +kernel
theorem nd_Model_machine_3 : decode nC_Model_machine 3 = .ok (.iconst 3, 1) := by decide +kernel
theorem nd_Model_machine_4 : decode nC_Model_machine 4 = .ok (.invokestatic 99, 3) := by decide +kernel
theorem nd_Model_machine_7 : decode nC_Model_machine 7 = .ok (.iload_n 2, 1) := by decide +kernel
theorem nd_Model_machine_8 : decode nC_Model_machine 8 = .ok (.invokestatic 120, 3) := by decide +kernel
theorem nd_Model_machine_11 : decode nC_Model_machine 11 = .ok (.ifCond .eq 30, 3) := by decide +kernel
theorem nd_Model_machine_14 : decode nC_Model_machine 14 = .ok (.iload_n 3, 1) := by decide +kernel
theorem nd_Model_machine_15 : decode nC_Model_machine 15 = .ok (.invokestatic 120, 3) := by decide +kernel
theorem nd_Model_machine_18 : decode nC_Model_machine 18 = .ok (.ifCond .eq 23, 3) := by decide +kernel
theorem nd_Model_machine_21 : decode nC_Model_machine 21 = .ok (.iload_n 2, 1) := by decide +kernel
theorem nd_Model_machine_22 : decode nC_Model_machine 22 = .ok (.iload_n 3, 1) := by decide +kernel
theorem nd_Model_machine_23 : decode nC_Model_machine 23 = .ok (.if_icmp .gt 18, 3) := by decide +kernel
theorem nd_Model_machine_26 : decode nC_Model_machine 26 = .ok (.iload 4, 2) := by decide +kernel
theorem nd_Model_machine_28 : decode nC_Model_machine 28 = .ok (.iconst 0, 1) := by decide +kernel
theorem nd_Model_machine_29 : decode nC_Model_machine 29 = .ok (.ldc 124, 2) := by decide +kernel
theorem nd_Model_machine_31 : decode nC_Model_machine 31 = .ok (.invokestatic 99, 3) := by decide +kernel
theorem nd_Model_machine_34 : decode nC_Model_machine 34 = .ok (.ifCond .eq 7, 3) := by decide +kernel
theorem nd_Model_machine_37 : decode nC_Model_machine 37 = .ok (.iconst 1, 1) := by decide +kernel
theorem nd_Model_machine_38 : decode nC_Model_machine 38 = .ok (.goto 4, 3) := by decide +kernel
theorem nd_Model_machine_41 : decode nC_Model_machine 41 = .ok (.iconst 0, 1) := by decide +kernel
theorem nd_Model_machine_42 : decode nC_Model_machine 42 = .ok (.iconst 1, 1) := by decide +kernel
theorem nd_Model_machine_43 : decode nC_Model_machine 43 = .ok (.invokevirtual 103, 3) := by decide +kernel
theorem nd_Model_machine_46 : decode nC_Model_machine 46 = .ok (.ifCond .eq 42, 3) := by decide +kernel
theorem nd_Model_machine_49 : decode nC_Model_machine 49 = .ok (.aload_n 0, 1) := by decide +kernel
theorem nd_Model_machine_50 : decode nC_Model_machine 50 = .ok (.getfield 42, 3) := by decide +kernel
theorem nd_Model_machine_53 : decode nC_Model_machine 53 = .ok (.iload_n 1, 1) := by decide +kernel
theorem nd_Model_machine_54 : decode nC_Model_machine 54 = .ok (.iconst 1, 1) := by decide +kernel
theorem nd_Model_machine_55 : decode nC_Model_machine 55 = .ok (.bastore, 1) := by decide +kernel
theorem nd_Model_machine_56 : decode nC_Model_machine 56 = .ok (.aload_n 0, 1) := by decide +kernel
theorem nd_Model_machine_57 : decode nC_Model_machine 57 = .ok (.getfield 46, 3) := by decide +kernel
theorem nd_Model_machine_60 : decode nC_Model_machine 60 = .ok (.iload_n 1, 1) := by decide +kernel
theorem nd_Model_machine_61 : decode nC_Model_machine 61 = .ok (.iload_n 2, 1) := by decide +kernel
theorem nd_Model_machine_62 : decode nC_Model_machine 62 = .ok (.iastore, 1) := by decide +kernel
theorem nd_Model_machine_63 : decode nC_Model_machine 63 = .ok (.aload_n 0, 1) := by decide +kernel
theorem nd_Model_machine_64 : decode nC_Model_machine 64 = .ok (.getfield 49, 3) := by decide +kernel
theorem nd_Model_machine_67 : decode nC_Model_machine 67 = .ok (.iload_n 1, 1) := by decide +kernel
theorem nd_Model_machine_68 : decode nC_Model_machine 68 = .ok (.iload_n 3, 1) := by decide +kernel
theorem nd_Model_machine_69 : decode nC_Model_machine 69 = .ok (.iastore, 1) := by decide +kernel
theorem nd_Model_machine_70 : decode nC_Model_machine 70 = .ok (.aload_n 0, 1) := by decide +kernel
theorem nd_Model_machine_71 : decode nC_Model_machine 71 = .ok (.getfield 52, 3) := by decide +kernel
theorem nd_Model_machine_74 : decode nC_Model_machine 74 = .ok (.iload_n 1, 1) := by decide +kernel
theorem nd_Model_machine_75 : decode nC_Model_machine 75 = .ok (.iload 4, 2) := by decide +kernel
theorem nd_Model_machine_77 : decode nC_Model_machine 77 = .ok (.iastore, 1) := by decide +kernel
theorem nd_Model_machine_78 : decode nC_Model_machine 78 = .ok (.aload_n 0, 1) := by decide +kernel
theorem nd_Model_machine_79 : decode nC_Model_machine 79 = .ok (.getfield 16, 3) := by decide +kernel
theorem nd_Model_machine_82 : decode nC_Model_machine 82 = .ok (.bipush 8, 2) := by decide +kernel
theorem nd_Model_machine_84 : decode nC_Model_machine 84 = .ok (.iload_n 1, 1) := by decide +kernel
theorem nd_Model_machine_85 : decode nC_Model_machine 85 = .ok (.iadd, 1) := by decide +kernel
theorem nd_Model_machine_86 : decode nC_Model_machine 86 = .ok (.lconst 0, 1) := by decide +kernel
theorem nd_Model_machine_87 : decode nC_Model_machine 87 = .ok (.lastore, 1) := by decide +kernel
theorem nd_Model_machine_88 : decode nC_Model_machine 88 = .ok (.return_, 1) := by decide +kernel
theorem nd_Model_degreesNow_0 : decode nC_Model_degreesNow 0 = .ok (.aload_n 0, 1) := by decide +kernel
theorem nd_Model_degreesNow_1 : decode nC_Model_degreesNow 1 = .ok (.getfield 16, 3) := by decide +kernel
theorem nd_Model_degreesNow_4 : decode nC_Model_degreesNow 4 = .ok (.iconst 0, 1) := by decide +kernel
theorem nd_Model_degreesNow_5 : decode nC_Model_degreesNow 5 = .ok (.laload, 1) := by decide +kernel
theorem nd_Model_degreesNow_6 : decode nC_Model_degreesNow 6 = .ok (.aload_n 0, 1) := by decide +kernel
theorem nd_Model_degreesNow_7 : decode nC_Model_degreesNow 7 = .ok (.getfield 7, 3) := by decide +kernel
theorem nd_Model_degreesNow_10 : decode nC_Model_degreesNow 10 = .ok (.i2l, 1) := by decide +kernel
theorem nd_Model_degreesNow_11 : decode nC_Model_degreesNow 11 = .ok (.invokestatic 125, 3) := by decide +kernel
theorem nd_Model_degreesNow_14 : decode nC_Model_degreesNow 14 = .ok (.lreturn, 1) := by decide +kernel
theorem nd_Model_dampNow_0 : decode nC_Model_dampNow 0 = .ok (.aload_n 0, 1) := by decide +kernel
theorem nd_Model_dampNow_1 : decode nC_Model_dampNow 1 = .ok (.getfield 16, 3) := by decide +kernel
theorem nd_Model_dampNow_4 : decode nC_Model_dampNow 4 = .ok (.iconst 1, 1) := by decide +kernel
theorem nd_Model_dampNow_5 : decode nC_Model_dampNow 5 = .ok (.laload, 1) := by decide +kernel
theorem nd_Model_dampNow_6 : decode nC_Model_dampNow 6 = .ok (.aload_n 0, 1) := by decide +kernel
theorem nd_Model_dampNow_7 : decode nC_Model_dampNow 7 = .ok (.getfield 7, 3) := by decide +kernel
theorem nd_Model_dampNow_10 : decode nC_Model_dampNow 10 = .ok (.i2l, 1) := by decide +kernel
theorem nd_Model_dampNow_11 : decode nC_Model_dampNow 11 = .ok (.invokestatic 125, 3) := by decide +kernel
theorem nd_Model_dampNow_14 : decode nC_Model_dampNow 14 = .ok (.lreturn, 1) := by decide +kernel
theorem nd_Model_layerNow_0 : decode nC_Model_layerNow 0 = .ok (.aload_n 0, 1) := by decide +kernel
theorem nd_Model_layerNow_1 : decode nC_Model_layerNow 1 = .ok (.getfield 16, 3) := by decide +kernel
theorem nd_Model_layerNow_4 : decode nC_Model_layerNow 4 = .ok (.iconst 3, 1) := by decide +kernel
theorem nd_Model_layerNow_5 : decode nC_Model_layerNow 5 = .ok (.iload_n 1, 1) := by decide +kernel
theorem nd_Model_layerNow_6 : decode nC_Model_layerNow 6 = .ok (.iadd, 1) := by decide +kernel
theorem nd_Model_layerNow_7 : decode nC_Model_layerNow 7 = .ok (.laload, 1) := by decide +kernel
theorem nd_Model_layerNow_8 : decode nC_Model_layerNow 8 = .ok (.aload_n 0, 1) := by decide +kernel
theorem nd_Model_layerNow_9 : decode nC_Model_layerNow 9 = .ok (.getfield 33, 3) := by decide +kernel
theorem nd_Model_layerNow_12 : decode nC_Model_layerNow 12 = .ok (.iload_n 1, 1) := by decide +kernel
theorem nd_Model_layerNow_13 : decode nC_Model_layerNow 13 = .ok (.iaload, 1) := by decide +kernel
theorem nd_Model_layerNow_14 : decode nC_Model_layerNow 14 = .ok (.i2l, 1) := by decide +kernel
theorem nd_Model_layerNow_15 : decode nC_Model_layerNow 15 = .ok (.invokestatic 125, 3) := by decide +kernel
theorem nd_Model_layerNow_18 : decode nC_Model_layerNow 18 = .ok (.lreturn, 1) := by decide +kernel
theorem nd_Model_change_0 : decode nC_Model_change 0 = .ok (.aload_n 0, 1) := by decide +kernel
theorem nd_Model_change_1 : decode nC_Model_change 1 = .ok (.getfield 16, 3) := by decide +kernel
theorem nd_Model_change_4 : decode nC_Model_change 4 = .ok (.iconst 0, 1) := by decide +kernel
theorem nd_Model_change_5 : decode nC_Model_change 5 = .ok (.aload_n 0, 1) := by decide +kernel
theorem nd_Model_change_6 : decode nC_Model_change 6 = .ok (.getfield 16, 3) := by decide +kernel
theorem nd_Model_change_9 : decode nC_Model_change 9 = .ok (.iconst 0, 1) := by decide +kernel
theorem nd_Model_change_10 : decode nC_Model_change 10 = .ok (.laload, 1) := by decide +kernel
theorem nd_Model_change_11 : decode nC_Model_change 11 = .ok (.lload_n 2, 1) := by decide +kernel
theorem nd_Model_change_12 : decode nC_Model_change 12 = .ok (.ladd, 1) := by decide +kernel
theorem nd_Model_change_13 : decode nC_Model_change 13 = .ok (.lastore, 1) := by decide +kernel
theorem nd_Model_change_14 : decode nC_Model_change 14 = .ok (.aload_n 0, 1) := by decide +kernel
theorem nd_Model_change_15 : decode nC_Model_change 15 = .ok (.getfield 16, 3) := by decide +kernel
theorem nd_Model_change_18 : decode nC_Model_change 18 = .ok (.iconst 1, 1) := by decide +kernel
theorem nd_Model_change_19 : decode nC_Model_change 19 = .ok (.aload_n 0, 1) := by decide +kernel
theorem nd_Model_change_20 : decode nC_Model_change 20 = .ok (.getfield 16, 3) := by decide +kernel
theorem nd_Model_change_23 : decode nC_Model_change 23 = .ok (.iconst 1, 1) := by decide +kernel
theorem nd_Model_change_24 : decode nC_Model_change 24 = .ok (.laload, 1) := by decide +kernel
theorem nd_Model_change_25 : decode nC_Model_change 25 = .ok (.lload 4, 2) := by decide +kernel
theorem nd_Model_change_27 : decode nC_Model_change 27 = .ok (.ladd, 1) := by decide +kernel
theorem nd_Model_change_28 : decode nC_Model_change 28 = .ok (.lastore, 1) := by decide +kernel
theorem nd_Model_change_29 : decode nC_Model_change 29 = .ok (.aload_n 0, 1) := by decide +kernel
theorem nd_Model_change_30 : decode nC_Model_change 30 = .ok (.getfield 23, 3) := by decide +kernel
theorem nd_Model_change_33 : decode nC_Model_change 33 = .ok (.iload_n 1, 1) := by decide +kernel
theorem nd_Model_change_34 : decode nC_Model_change 34 = .ok (.aload_n 0, 1) := by decide +kernel
theorem nd_Model_change_35 : decode nC_Model_change 35 = .ok (.getfield 23, 3) := by decide +kernel
theorem nd_Model_change_38 : decode nC_Model_change 38 = .ok (.iload_n 1, 1) := by decide +kernel
theorem nd_Model_change_39 : decode nC_Model_change 39 = .ok (.laload, 1) := by decide +kernel
theorem nd_Model_change_40 : decode nC_Model_change 40 = .ok (.lload_n 2, 1) := by decide +kernel
theorem nd_Model_change_41 : decode nC_Model_change 41 = .ok (.ladd, 1) := by decide +kernel
theorem nd_Model_change_42 : decode nC_Model_change 42 = .ok (.lastore, 1) := by decide +kernel
theorem nd_Model_change_43 : decode nC_Model_change 43 = .ok (.aload_n 0, 1) := by decide +kernel
theorem nd_Model_change_44 : decode nC_Model_change 44 = .ok (.getfield 23, 3) := by decide +kernel
theorem nd_Model_change_47 : decode nC_Model_change 47 = .ok (.iconst 5, 1) := by decide +kernel
theorem nd_Model_change_48 : decode nC_Model_change 48 = .ok (.iload_n 1, 1) := by decide +kernel
theorem nd_Model_change_49 : decode nC_Model_change 49 = .ok (.iadd, 1) := by decide +kernel
theorem nd_Model_change_50 : decode nC_Model_change 50 = .ok (.aload_n 0, 1) := by decide +kernel
theorem nd_Model_change_51 : decode nC_Model_change 51 = .ok (.getfield 23, 3) := by decide +kernel
theorem nd_Model_change_54 : decode nC_Model_change 54 = .ok (.iconst 5, 1) := by decide +kernel
theorem nd_Model_change_55 : decode nC_Model_change 55 = .ok (.iload_n 1, 1) := by decide +kernel
theorem nd_Model_change_56 : decode nC_Model_change 56 = .ok (.iadd, 1) := by decide +kernel
theorem nd_Model_change_57 : decode nC_Model_change 57 = .ok (.laload, 1) := by decide +kernel
theorem nd_Model_change_58 : decode nC_Model_change 58 = .ok (.lload 4, 2) := by decide +kernel
theorem nd_Model_change_60 : decode nC_Model_change 60 = .ok (.ladd, 1) := by decide +kernel
theorem nd_Model_change_61 : decode nC_Model_change 61 = .ok (.lastore, 1) := by decide +kernel
theorem nd_Model_change_62 : decode nC_Model_change 62 = .ok (.return_, 1) := by decide +kernel
theorem nd_Model_air_0 : decode nC_Model_air 0 = .ok (.aload_n 0, 1) := by decide +kernel
theorem nd_Model_air_1 : decode nC_Model_air 1 = .ok (.getfield 13, 3) := by decide +kernel
theorem nd_Model_air_4 : decode nC_Model_air 4 = .ok (.i2l, 1) := by decide +kernel
theorem nd_Model_air_5 : decode nC_Model_air 5 = .ok (.iload_n 1, 1) := by decide +kernel
theorem nd_Model_air_6 : decode nC_Model_air 6 = .ok (.i2l, 1) := by decide +kernel
theorem nd_Model_air_7 : decode nC_Model_air 7 = .ok (.aload_n 0, 1) := by decide +kernel
theorem nd_Model_air_8 : decode nC_Model_air 8 = .ok (.invokevirtual 129, 3) := by decide +kernel
theorem nd_Model_air_11 : decode nC_Model_air 11 = .ok (.lsub, 1) := by decide +kernel
theorem nd_Model_air_12 : decode nC_Model_air 12 = .ok (.lmul, 1) := by decide +kernel
theorem nd_Model_air_13 : decode nC_Model_air 13 = .ok (.aload_n 0, 1) := by decide +kernel
theorem nd_Model_air_14 : decode nC_Model_air 14 = .ok (.getfield 7, 3) := by decide +kernel
theorem nd_Model_air_17 : decode nC_Model_air 17 = .ok (.i2l, 1) := by decide +kernel
theorem nd_Model_air_18 : decode nC_Model_air 18 = .ok (.lmul, 1) := by decide +kernel
theorem nd_Model_air_19 : decode nC_Model_air 19 = .ok (.ldc2_w 133, 3) := by decide +kernel
theorem nd_Model_air_22 : decode nC_Model_air 22 = .ok (.invokestatic 125, 3) := by decide +kernel
theorem nd_Model_air_25 : decode nC_Model_air 25 = .ok (.lstore_n 3, 1) := by decide +kernel
theorem nd_Model_air_26 : decode nC_Model_air 26 = .ok (.aload_n 0, 1) := by decide +kernel
theorem nd_Model_air_27 : decode nC_Model_air 27 = .ok (.getfield 13, 3) := by decide +kernel
theorem nd_Model_air_30 : decode nC_Model_air 30 = .ok (.i2l, 1) := by decide +kernel
theorem nd_Model_air_31 : decode nC_Model_air 31 = .ok (.iload_n 2, 1) := by decide +kernel
theorem nd_Model_air_32 : decode nC_Model_air 32 = .ok (.i2l, 1) := by decide +kernel
theorem nd_Model_air_33 : decode nC_Model_air 33 = .ok (.aload_n 0, 1) := by decide +kernel
theorem nd_Model_air_34 : decode nC_Model_air 34 = .ok (.invokevirtual 135, 3) := by decide +kernel
theorem nd_Model_air_37 : decode nC_Model_air 37 = .ok (.lsub, 1) := by decide +kernel
theorem nd_Model_air_38 : decode nC_Model_air 38 = .ok (.lmul, 1) := by decide +kernel
theorem nd_Model_air_39 : decode nC_Model_air 39 = .ok (.aload_n 0, 1) := by decide +kernel
theorem nd_Model_air_40 : decode nC_Model_air 40 = .ok (.getfield 7, 3) := by decide +kernel
theorem nd_Model_air_43 : decode nC_Model_air 43 = .ok (.i2l, 1) := by decide +kernel
theorem nd_Model_air_44 : decode nC_Model_air 44 = .ok (.lmul, 1) := by decide +kernel
theorem nd_Model_air_45 : decode nC_Model_air 45 = .ok (.ldc2_w 133, 3) := by decide +kernel
theorem nd_Model_air_48 : decode nC_Model_air 48 = .ok (.invokestatic 125, 3) := by decide +kernel
theorem nd_Model_air_51 : decode nC_Model_air 51 = .ok (.lstore 5, 2) := by decide +kernel
theorem nd_Model_air_53 : decode nC_Model_air 53 = .ok (.aload_n 0, 1) := by decide +kernel
theorem nd_Model_air_54 : decode nC_Model_air 54 = .ok (.iconst 0, 1) := by decide +kernel
theorem nd_Model_air_55 : decode nC_Model_air 55 = .ok (.lload_n 3, 1) := by decide +kernel
theorem nd_Model_air_56 : decode nC_Model_air 56 = .ok (.lload 5, 2) := by decide +kernel
theorem nd_Model_air_58 : decode nC_Model_air 58 = .ok (.invokevirtual 138, 3) := by decide +kernel
theorem nd_Model_air_61 : decode nC_Model_air 61 = .ok (.return_, 1) := by decide +kernel
theorem nd_Model_walls_0 : decode nC_Model_walls 0 = .ok (.iconst 0, 1) := by decide +kernel
theorem nd_Model_walls_1 : decode nC_Model_walls 1 = .ok (.istore_n 2, 1) := by decide +kernel
theorem nd_Model_walls_2 : decode nC_Model_walls 2 = .ok (.iload_n 2, 1) := by decide +kernel
theorem nd_Model_walls_3 : decode nC_Model_walls 3 = .ok (.aload_n 0, 1) := by decide +kernel
theorem nd_Model_walls_4 : decode nC_Model_walls 4 = .ok (.getfield 107, 3) := by decide +kernel
theorem nd_Model_walls_7 : decode nC_Model_walls 7 = .ok (.if_icmp .ge 106, 3) := by decide +kernel
theorem nd_Model_walls_10 : decode nC_Model_walls 10 = .ok (.iload_n 2, 1) := by decide +kernel
theorem nd_Model_walls_11 : decode nC_Model_walls 11 = .ok (.ifCond .ne 10, 3) := by decide +kernel
theorem nd_Model_walls_14 : decode nC_Model_walls 14 = .ok (.aload_n 0, 1) := by decide +kernel
theorem nd_Model_walls_15 : decode nC_Model_walls 15 = .ok (.invokevirtual 129, 3) := by decide +kernel
theorem nd_Model_walls_18 : decode nC_Model_walls 18 = .ok (.goto 10, 3) := by decide +kernel
theorem nd_Model_walls_21 : decode nC_Model_walls 21 = .ok (.aload_n 0, 1) := by decide +kernel
theorem nd_Model_walls_22 : decode nC_Model_walls 22 = .ok (.iload_n 2, 1) := by decide +kernel
theorem nd_Model_walls_23 : decode nC_Model_walls 23 = .ok (.iconst 1, 1) := by decide +kernel
theorem nd_Model_walls_24 : decode nC_Model_walls 24 = .ok (.isub, 1) := by decide +kernel
theorem nd_Model_walls_25 : decode nC_Model_walls 25 = .ok (.invokevirtual 142, 3) := by decide +kernel
theorem nd_Model_walls_28 : decode nC_Model_walls 28 = .ok (.lstore_n 3, 1) := by decide +kernel
theorem nd_Model_walls_29 : decode nC_Model_walls 29 = .ok (.aload_n 0, 1) := by decide +kernel
theorem nd_Model_walls_30 : decode nC_Model_walls 30 = .ok (.getfield 29, 3) := by decide +kernel
theorem nd_Model_walls_33 : decode nC_Model_walls 33 = .ok (.iload_n 2, 1) := by decide +kernel
theorem nd_Model_walls_34 : decode nC_Model_walls 34 = .ok (.iaload, 1) := by decide +kernel
theorem nd_Model_walls_35 : decode nC_Model_walls 35 = .ok (.i2l, 1) := by decide +kernel
theorem nd_Model_walls_36 : decode nC_Model_walls 36 = .ok (.lload_n 3, 1) := by decide +kernel
theorem nd_Model_walls_37 : decode nC_Model_walls 37 = .ok (.aload_n 0, 1) := by decide +kernel
theorem nd_Model_walls_38 : decode nC_Model_walls 38 = .ok (.iload_n 2, 1) := by decide +kernel
theorem nd_Model_walls_39 : decode nC_Model_walls 39 = .ok (.invokevirtual 142, 3) := by decide +kernel
theorem nd_Model_walls_42 : decode nC_Model_walls 42 = .ok (.lsub, 1) := by decide +kernel
theorem nd_Model_walls_43 : decode nC_Model_walls 43 = .ok (.lmul, 1) := by decide +kernel
theorem nd_Model_walls_44 : decode nC_Model_walls 44 = .ok (.ldc2_w 146, 3) := by decide +kernel
theorem nd_Model_walls_47 : decode nC_Model_walls 47 = .ok (.invokestatic 125, 3) := by decide +kernel
theorem nd_Model_walls_50 : decode nC_Model_walls 50 = .ok (.lstore 5, 2) := by decide +kernel
theorem nd_Model_walls_52 : decode nC_Model_walls 52 = .ok (.iload_n 2, 1) := by decide +kernel
theorem nd_Model_walls_53 : decode nC_Model_walls 53 = .ok (.ifCond .ne 16, 3) := by decide +kernel
theorem nd_Model_walls_56 : decode nC_Model_walls 56 = .ok (.aload_n 0, 1) := by decide +kernel
theorem nd_Model_walls_57 : decode nC_Model_walls 57 = .ok (.iconst 1, 1) := by decide +kernel
theorem nd_Model_walls_58 : decode nC_Model_walls 58 = .ok (.lconst 0, 1) := by decide +kernel
theorem nd_Model_walls_59 : decode nC_Model_walls 59 = .ok (.lload 5, 2) := by decide +kernel
theorem nd_Model_walls_61 : decode nC_Model_walls 61 = .ok (.lsub, 1) := by decide +kernel
theorem nd_Model_walls_62 : decode nC_Model_walls 62 = .ok (.lconst 0, 1) := by decide +kernel
theorem nd_Model_walls_63 : decode nC_Model_walls 63 = .ok (.invokevirtual 138, 3) := by decide +kernel
theorem nd_Model_walls_66 : decode nC_Model_walls 66 = .ok (.goto 22, 3) := by decide +kernel
theorem nd_Model_walls_69 : decode nC_Model_walls 69 = .ok (.aload_n 0, 1) := by decide +kernel
