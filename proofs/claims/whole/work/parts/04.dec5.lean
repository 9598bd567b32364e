theorem nd_Model_risk_27 : decode nC_Model_risk 27 = .ok (.ifCond .eq 20, 3) := by decide +kernel
theorem nd_Model_risk_30 : decode nC_Model_risk 30 = .ok (.iload_n 2, 1) := by decide +kernel
theorem nd_Model_risk_31 : decode nC_Model_risk 31 = .ok (.aload_n 0, 1) := by decide +kernel
theorem nd_Model_risk_32 : decode nC_Model_risk 32 = .ok (.getfield 58, 3) := by decide +kernel
theorem nd_Model_risk_35 : decode nC_Model_risk 35 = .ok (.iconst 5, 1) := by decide +kernel
theorem nd_Model_risk_36 : decode nC_Model_risk 36 = .ok (.iload_n 1, 1) := by decide +kernel
theorem nd_Model_risk_37 : decode nC_Model_risk 37 = .ok (.imul, 1) := by decide +kernel
theorem nd_Model_risk_38 : decode nC_Model_risk 38 = .ok (.iload 5, 2) := by decide +kernel
theorem nd_Model_risk_40 : decode nC_Model_risk 40 = .ok (.iadd, 1) := by decide +kernel
theorem nd_Model_risk_41 : decode nC_Model_risk 41 = .ok (.iconst 1, 1) := by decide +kernel
theorem nd_Model_risk_42 : decode nC_Model_risk 42 = .ok (.isub, 1) := by decide +kernel
theorem nd_Model_risk_43 : decode nC_Model_risk 43 = .ok (.iaload, 1) := by decide +kernel
theorem nd_Model_risk_44 : decode nC_Model_risk 44 = .ok (.if_icmp .le 7, 3) := by decide +kernel
theorem nd_Model_risk_47 : decode nC_Model_risk 47 = .ok (.iconst 1, 1) := by decide +kernel
theorem nd_Model_risk_48 : decode nC_Model_risk 48 = .ok (.goto 4, 3) := by decide +kernel
theorem nd_Model_risk_51 : decode nC_Model_risk 51 = .ok (.iconst 0, 1) := by decide +kernel
theorem nd_Model_risk_52 : decode nC_Model_risk 52 = .ok (.istore 6, 2) := by decide +kernel
theorem nd_Model_risk_54 : decode nC_Model_risk 54 = .ok (.aload_n 0, 1) := by decide +kernel
theorem nd_Model_risk_55 : decode nC_Model_risk 55 = .ok (.iload 4, 2) := by decide +kernel
theorem nd_Model_risk_57 : decode nC_Model_risk 57 = .ok (.iload 5, 2) := by decide +kernel
theorem nd_Model_risk_59 : decode nC_Model_risk 59 = .ok (.iconst 5, 1) := by decide +kernel
theorem nd_Model_risk_60 : decode nC_Model_risk 60 = .ok (.if_icmp .ge 7, 3) := by decide +kernel
theorem nd_Model_risk_63 : decode nC_Model_risk 63 = .ok (.iconst 1, 1) := by decide +kernel
theorem nd_Model_risk_64 : decode nC_Model_risk 64 = .ok (.goto 4, 3) := by decide +kernel
theorem nd_Model_risk_67 : decode nC_Model_risk 67 = .ok (.iconst 0, 1) := by decide +kernel
theorem nd_Model_risk_68 : decode nC_Model_risk 68 = .ok (.iload_n 2, 1) := by decide +kernel
theorem nd_Model_risk_69 : decode nC_Model_risk 69 = .ok (.invokestatic 120, 3) := by decide +kernel
theorem nd_Model_risk_72 : decode nC_Model_risk 72 = .ok (.ifCond .eq 23, 3) := by decide +kernel
theorem nd_Model_risk_75 : decode nC_Model_risk 75 = .ok (.iload_n 3, 1) := by decide +kernel
theorem nd_Model_risk_76 : decode nC_Model_risk 76 = .ok (.iconst 0, 1) := by decide +kernel
theorem nd_Model_risk_77 : decode nC_Model_risk 77 = .ok (.sipush 1000, 3) := by decide +kernel
theorem nd_Model_risk_80 : decode nC_Model_risk 80 = .ok (.invokestatic 99, 3) := by decide +kernel
theorem nd_Model_risk_83 : decode nC_Model_risk 83 = .ok (.ifCond .eq 12, 3) := by decide +kernel
theorem nd_Model_risk_86 : decode nC_Model_risk 86 = .ok (.iload 6, 2) := by decide +kernel
theorem nd_Model_risk_88 : decode nC_Model_risk 88 = .ok (.ifCond .eq 7, 3) := by decide +kernel
theorem nd_Model_risk_91 : decode nC_Model_risk 91 = .ok (.iconst 1, 1) := by decide +kernel
theorem nd_Model_risk_92 : decode nC_Model_risk 92 = .ok (.goto 4, 3) := by decide +kernel
theorem nd_Model_risk_95 : decode nC_Model_risk 95 = .ok (.iconst 0, 1) := by decide +kernel
theorem nd_Model_risk_96 : decode nC_Model_risk 96 = .ok (.invokevirtual 103, 3) := by decide +kernel
theorem nd_Model_risk_99 : decode nC_Model_risk 99 = .ok (.ifCond .ne 5, 3) := by decide +kernel
theorem nd_Model_risk_102 : decode nC_Model_risk 102 = .ok (.iconst 0, 1) := by decide +kernel
theorem nd_Model_risk_103 : decode nC_Model_risk 103 = .ok (.ireturn, 1) := by decide +kernel
theorem nd_Model_risk_104 : decode nC_Model_risk 104 = .ok (.aload_n 0, 1) := by decide +kernel
theorem nd_Model_risk_105 : decode nC_Model_risk 105 = .ok (.getfield 58, 3) := by decide +kernel
theorem nd_Model_risk_108 : decode nC_Model_risk 108 = .ok (.iconst 5, 1) := by decide +kernel
theorem nd_Model_risk_109 : decode nC_Model_risk 109 = .ok (.iload_n 1, 1) := by decide +kernel
theorem nd_Model_risk_110 : decode nC_Model_risk 110 = .ok (.imul, 1) := by decide +kernel
theorem nd_Model_risk_111 : decode nC_Model_risk 111 = .ok (.iload 5, 2) := by decide +kernel
theorem nd_Model_risk_113 : decode nC_Model_risk 113 = .ok (.iadd, 1) := by decide +kernel
theorem nd_Model_risk_114 : decode nC_Model_risk 114 = .ok (.iload_n 2, 1) := by decide +kernel
theorem nd_Model_risk_115 : decode nC_Model_risk 115 = .ok (.iastore, 1) := by decide +kernel
theorem nd_Model_risk_116 : decode nC_Model_risk 116 = .ok (.aload_n 0, 1) := by decide +kernel
theorem nd_Model_risk_117 : decode nC_Model_risk 117 = .ok (.getfield 61, 3) := by decide +kernel
theorem nd_Model_risk_120 : decode nC_Model_risk 120 = .ok (.iconst 5, 1) := by decide +kernel
theorem nd_Model_risk_121 : decode nC_Model_risk 121 = .ok (.iload_n 1, 1) := by decide +kernel
theorem nd_Model_risk_122 : decode nC_Model_risk 122 = .ok (.imul, 1) := by decide +kernel
theorem nd_Model_risk_123 : decode nC_Model_risk 123 = .ok (.iload 5, 2) := by decide +kernel
theorem nd_Model_risk_125 : decode nC_Model_risk 125 = .ok (.iadd, 1) := by decide +kernel
theorem nd_Model_risk_126 : decode nC_Model_risk 126 = .ok (.iload_n 3, 1) := by decide +kernel
theorem nd_Model_risk_127 : decode nC_Model_risk 127 = .ok (.iastore, 1) := by decide +kernel
theorem nd_Model_risk_128 : decode nC_Model_risk 128 = .ok (.aload_n 0, 1) := by decide +kernel
theorem nd_Model_risk_129 : decode nC_Model_risk 129 = .ok (.getfield 55, 3) := by decide +kernel
theorem nd_Model_risk_132 : decode nC_Model_risk 132 = .ok (.iload_n 1, 1) := by decide +kernel
theorem nd_Model_risk_133 : decode nC_Model_risk 133 = .ok (.dup2, 1) := by decide +kernel
theorem nd_Model_risk_134 : decode nC_Model_risk 134 = .ok (.iaload, 1) := by decide +kernel
theorem nd_Model_risk_135 : decode nC_Model_risk 135 = .ok (.iconst 1, 1) := by decide +kernel
theorem nd_Model_risk_136 : decode nC_Model_risk 136 = .ok (.iadd, 1) := by decide +kernel
theorem nd_Model_risk_137 : decode nC_Model_risk 137 = .ok (.iastore, 1) := by decide +kernel
theorem nd_Model_risk_138 : decode nC_Model_risk 138 = .ok (.iload 5, 2) := by decide +kernel
theorem nd_Model_risk_140 : decode nC_Model_risk 140 = .ok (.ireturn, 1) := by decide +kernel
theorem nd_Model_points_0 : decode nC_Model_points 0 = .ok (.aload_n 0, 1) := by decide +kernel
theorem nd_Model_points_1 : decode nC_Model_points 1 = .ok (.iload_n 1, 1) := by decide +kernel
theorem nd_Model_points_2 : decode nC_Model_points 2 = .ok (.iconst 0, 1) := by decide +kernel
theorem nd_Model_points_3 : decode nC_Model_points 3 = .ok (.iconst 3, 1) := by decide +kernel
theorem nd_Model_points_4 : decode nC_Model_points 4 = .ok (.invokestatic 99, 3) := by decide +kernel
theorem nd_Model_points_7 : decode nC_Model_points 7 = .ok (.iconst 1, 1) := by decide +kernel
theorem nd_Model_points_8 : decode nC_Model_points 8 = .ok (.iconst 1, 1) := by decide +kernel
theorem nd_Model_points_9 : decode nC_Model_points 9 = .ok (.invokevirtual 103, 3) := by decide +kernel
theorem nd_Model_points_12 : decode nC_Model_points 12 = .ok (.ifCond .eq 12, 3) := by decide +kernel
theorem nd_Model_points_15 : decode nC_Model_points 15 = .ok (.aload_n 0, 1) := by decide +kernel
theorem nd_Model_points_16 : decode nC_Model_points 16 = .ok (.getfield 64, 3) := by decide +kernel
theorem nd_Model_points_19 : decode nC_Model_points 19 = .ok (.iload_n 1, 1) := by decide +kernel
theorem nd_Model_points_20 : decode nC_Model_points 20 = .ok (.iaload, 1) := by decide +kernel
theorem nd_Model_points_21 : decode nC_Model_points 21 = .ok (.goto 4, 3) := by decide +kernel
theorem nd_Model_points_24 : decode nC_Model_points 24 = .ok (.iconst 0, 1) := by decide +kernel
theorem nd_Model_points_25 : decode nC_Model_points 25 = .ok (.ireturn, 1) := by decide +kernel
theorem nd_Model_rule_0 : decode nC_Model_rule 0 = .ok (.aload_n 0, 1) := by decide +kernel
theorem nd_Model_rule_1 : decode nC_Model_rule 1 = .ok (.aload_n 0, 1) := by decide +kernel
theorem nd_Model_rule_2 : decode nC_Model_rule 2 = .ok (.getfield 169, 3) := by decide +kernel
theorem nd_Model_rule_5 : decode nC_Model_rule 5 = .ok (.iconst 4, 1) := by decide +kernel
theorem nd_Model_rule_6 : decode nC_Model_rule 6 = .ok (.if_icmp .ge 7, 3) := by decide +kernel
theorem nd_Model_rule_9 : decode nC_Model_rule 9 = .ok (.iconst 1, 1) := by decide +kernel
theorem nd_Model_rule_10 : decode nC_Model_rule 10 = .ok (.goto 4, 3) := by decide +kernel
theorem nd_Model_rule_13 : decode nC_Model_rule 13 = .ok (.iconst 0, 1) := by decide +kernel
theorem nd_Model_rule_14 : decode nC_Model_rule 14 = .ok (.iload_n 1, 1) := by decide +kernel
theorem nd_Model_rule_15 : decode nC_Model_rule 15 = .ok (.iconst 0, 1) := by decide +kernel
theorem nd_Model_rule_16 : decode nC_Model_rule 16 = .ok (.iconst 3, 1) := by decide +kernel
theorem nd_Model_rule_17 : decode nC_Model_rule 17 = .ok (.invokestatic 99, 3) := by decide +kernel
theorem nd_Model_rule_20 : decode nC_Model_rule 20 = .ok (.ifCond .eq 24, 3) := by decide +kernel
theorem nd_Model_rule_23 : decode nC_Model_rule 23 = .ok (.iload_n 2, 1) := by decide +kernel
theorem nd_Model_rule_24 : decode nC_Model_rule 24 = .ok (.invokestatic 120, 3) := by decide +kernel
theorem nd_Model_rule_27 : decode nC_Model_rule 27 = .ok (.ifCond .eq 17, 3) := by decide +kernel
theorem nd_Model_rule_30 : decode nC_Model_rule 30 = .ok (.iload_n 3, 1) := by decide +kernel
theorem nd_Model_rule_31 : decode nC_Model_rule 31 = .ok (.iconst 1, 1) := by decide +kernel
theorem nd_Model_rule_32 : decode nC_Model_rule 32 = .ok (.bipush 99, 2) := by decide +kernel
theorem nd_Model_rule_34 : decode nC_Model_rule 34 = .ok (.invokestatic 99, 3) := by decide +kernel
theorem nd_Model_rule_37 : decode nC_Model_rule 37 = .ok (.ifCond .eq 7, 3) := by decide +kernel
theorem nd_Model_rule_40 : decode nC_Model_rule 40 = .ok (.iconst 1, 1) := by decide +kernel
theorem nd_Model_rule_41 : decode nC_Model_rule 41 = .ok (.goto 4, 3) := by decide +kernel
theorem nd_Model_rule_44 : decode nC_Model_rule 44 = .ok (.iconst 0, 1) := by decide +kernel
theorem nd_Model_rule_45 : decode nC_Model_rule 45 = .ok (.iconst 1, 1) := by decide +kernel
theorem nd_Model_rule_46 : decode nC_Model_rule 46 = .ok (.invokevirtual 103, 3) := by decide +kernel
theorem nd_Model_rule_49 : decode nC_Model_rule 49 = .ok (.ifCond .ne 5, 3) := by decide +kernel
theorem nd_Model_rule_52 : decode nC_Model_rule 52 = .ok (.iconst 0, 1) := by decide +kernel
theorem nd_Model_rule_53 : decode nC_Model_rule 53 = .ok (.ireturn, 1) := by decide +kernel
theorem nd_Model_rule_54 : decode nC_Model_rule 54 = .ok (.aload_n 0, 1) := by decide +kernel
theorem nd_Model_rule_55 : decode nC_Model_rule 55 = .ok (.getfield 67, 3) := by decide +kernel
theorem nd_Model_rule_58 : decode nC_Model_rule 58 = .ok (.aload_n 0, 1) := by decide +kernel
theorem nd_Model_rule_59 : decode nC_Model_rule 59 = .ok (.getfield 169, 3) := by decide +kernel
theorem nd_Model_rule_62 : decode nC_Model_rule 62 = .ok (.iload_n 1, 1) := by decide +kernel
theorem nd_Model_rule_63 : decode nC_Model_rule 63 = .ok (.iastore, 1) := by decide +kernel
theorem nd_Model_rule_64 : decode nC_Model_rule 64 = .ok (.aload_n 0, 1) := by decide +kernel
theorem nd_Model_rule_65 : decode nC_Model_rule 65 = .ok (.getfield 70, 3) := by decide +kernel
theorem nd_Model_rule_68 : decode nC_Model_rule 68 = .ok (.aload_n 0, 1) := by decide +kernel
theorem nd_Model_rule_69 : decode nC_Model_rule 69 = .ok (.getfield 169, 3) := by decide +kernel
theorem nd_Model_rule_72 : decode nC_Model_rule 72 = .ok (.iload_n 2, 1) := by decide +kernel
theorem nd_Model_rule_73 : decode nC_Model_rule 73 = .ok (.iastore, 1) := by decide +kernel
theorem nd_Model_rule_74 : decode nC_Model_rule 74 = .ok (.aload_n 0, 1) := by decide +kernel
theorem nd_Model_rule_75 : decode nC_Model_rule 75 = .ok (.getfield 73, 3) := by decide +kernel
theorem nd_Model_rule_78 : decode nC_Model_rule 78 = .ok (.aload_n 0, 1) := by decide +kernel
theorem nd_Model_rule_79 : decode nC_Model_rule 79 = .ok (.getfield 169, 3) := by decide +kernel
theorem nd_Model_rule_82 : decode nC_Model_rule 82 = .ok (.iload_n 3, 1) := by decide +kernel
theorem nd_Model_rule_83 : decode nC_Model_rule 83 = .ok (.iastore, 1) := by decide +kernel
theorem nd_Model_rule_84 : decode nC_Model_rule 84 = .ok (.aload_n 0, 1) := by decide +kernel
theorem nd_Model_rule_85 : decode nC_Model_rule 85 = .ok (.dup, 1) := by decide +kernel
theorem nd_Model_rule_86 : decode nC_Model_rule 86 = .ok (.getfield 169, 3) := by decide +kernel
theorem nd_Model_rule_89 : decode nC_Model_rule 89 = .ok (.iconst 1, 1) := by decide +kernel
theorem nd_Model_rule_90 : decode nC_Model_rule 90 = .ok (.iadd, 1) := by decide +kernel
theorem nd_Model_rule_91 : decode nC_Model_rule 91 = .ok (.putfield 169, 3) := by decide +kernel
theorem nd_Model_rule_94 : decode nC_Model_rule 94 = .ok (.aload_n 0, 1) := by decide +kernel
theorem nd_Model_rule_95 : decode nC_Model_rule 95 = .ok (.getfield 169, 3) := by decide +kernel
theorem nd_Model_rule_98 : decode nC_Model_rule 98 = .ok (.iconst 1, 1) := by decide +kernel
theorem nd_Model_rule_99 : decode nC_Model_rule 99 = .ok (.isub, 1) := by decide +kernel
theorem nd_Model_rule_100 : decode nC_Model_rule 100 = .ok (.ireturn, 1) := by decide +kernel
theorem nd_Model_alarm_0 : decode nC_Model_alarm 0 = .ok (.aload_n 0, 1) := by decide +kernel
theorem nd_Model_alarm_1 : decode nC_Model_alarm 1 = .ok (.iload_n 1, 1) := by decide +kernel
theorem nd_Model_alarm_2 : decode nC_Model_alarm 2 = .ok (.iconst 0, 1) := by decide +kernel
theorem nd_Model_alarm_3 : decode nC_Model_alarm 3 = .ok (.aload_n 0, 1) := by decide +kernel
theorem nd_Model_alarm_4 : decode nC_Model_alarm 4 = .ok (.getfield 169, 3) := by decide +kernel
theorem nd_Model_alarm_7 : decode nC_Model_alarm 7 = .ok (.iconst 1, 1) := by decide +kernel
theorem nd_Model_alarm_8 : decode nC_Model_alarm 8 = .ok (.isub, 1) := by decide +kernel
theorem nd_Model_alarm_9 : decode nC_Model_alarm 9 = .ok (.invokestatic 99, 3) := by decide +kernel
theorem nd_Model_alarm_12 : decode nC_Model_alarm 12 = .ok (.ifCond .eq 12, 3) := by decide +kernel
theorem nd_Model_alarm_15 : decode nC_Model_alarm 15 = .ok (.iload_n 2, 1) := by decide +kernel
theorem nd_Model_alarm_16 : decode nC_Model_alarm 16 = .ok (.iconst (-1), 1) := by decide +kernel
theorem nd_Model_alarm_17 : decode nC_Model_alarm 17 = .ok (.if_icmp .lt 7, 3) := by decide +kernel
theorem nd_Model_alarm_20 : decode nC_Model_alarm 20 = .ok (.iconst 1, 1) := by decide +kernel
theorem nd_Model_alarm_21 : decode nC_Model_alarm 21 = .ok (.goto 4, 3) := by decide +kernel
theorem nd_Model_alarm_24 : decode nC_Model_alarm 24 = .ok (.iconst 0, 1) := by decide +kernel
theorem nd_Model_alarm_25 : decode nC_Model_alarm 25 = .ok (.iconst 1, 1) := by decide +kernel
theorem nd_Model_alarm_26 : decode nC_Model_alarm 26 = .ok (.iconst 1, 1) := by decide +kernel
theorem nd_Model_alarm_27 : decode nC_Model_alarm 27 = .ok (.invokevirtual 103, 3) := by decide +kernel
theorem nd_Model_alarm_30 : decode nC_Model_alarm 30 = .ok (.ifCond .ne 5, 3) := by decide +kernel
theorem nd_Model_alarm_33 : decode nC_Model_alarm 33 = .ok (.iconst 0, 1) := by decide +kernel
theorem nd_Model_alarm_34 : decode nC_Model_alarm 34 = .ok (.ireturn, 1) := by decide +kernel
theorem nd_Model_alarm_35 : decode nC_Model_alarm 35 = .ok (.iload_n 2, 1) := by decide +kernel
theorem nd_Model_alarm_36 : decode nC_Model_alarm 36 = .ok (.iconst (-1), 1) := by decide +kernel
theorem nd_Model_alarm_37 : decode nC_Model_alarm 37 = .ok (.if_icmp .ne 12, 3) := by decide +kernel
theorem nd_Model_alarm_40 : decode nC_Model_alarm 40 = .ok (.aload_n 0, 1) := by decide +kernel
theorem nd_Model_alarm_41 : decode nC_Model_alarm 41 = .ok (.getfield 76, 3) := by decide +kernel
theorem nd_Model_alarm_44 : decode nC_Model_alarm 44 = .ok (.iload_n 1, 1) := by decide +kernel
theorem nd_Model_alarm_45 : decode nC_Model_alarm 45 = .ok (.iaload, 1) := by decide +kernel
theorem nd_Model_alarm_46 : decode nC_Model_alarm 46 = .ok (.goto 29, 3) := by decide +kernel
theorem nd_Model_alarm_49 : decode nC_Model_alarm 49 = .ok (.iload_n 2, 1) := by decide +kernel
theorem nd_Model_alarm_50 : decode nC_Model_alarm 50 = .ok (.aload_n 0, 1) := by decide +kernel
theorem nd_Model_alarm_51 : decode nC_Model_alarm 51 = .ok (.getfield 76, 3) := by decide +kernel
theorem nd_Model_alarm_54 : decode nC_Model_alarm 54 = .ok (.iload_n 1, 1) := by decide +kernel
theorem nd_Model_alarm_55 : decode nC_Model_alarm 55 = .ok (.iaload, 1) := by decide +kernel
theorem nd_Model_alarm_56 : decode nC_Model_alarm 56 = .ok (.if_icmp .ge 18, 3) := by decide +kernel
theorem nd_Model_alarm_59 : decode nC_Model_alarm 59 = .ok (.aload_n 0, 1) := by decide +kernel
theorem nd_Model_alarm_60 : decode nC_Model_alarm 60 = .ok (.getfield 79, 3) := by decide +kernel
theorem nd_Model_alarm_63 : decode nC_Model_alarm 63 = .ok (.sipush 300, 3) := by decide +kernel
theorem nd_Model_alarm_66 : decode nC_Model_alarm 66 = .ok (.iload_n 1, 1) := by decide +kernel
theorem nd_Model_alarm_67 : decode nC_Model_alarm 67 = .ok (.imul, 1) := by decide +kernel
theorem nd_Model_alarm_68 : decode nC_Model_alarm 68 = .ok (.iload_n 2, 1) := by decide +kernel
theorem nd_Model_alarm_69 : decode nC_Model_alarm 69 = .ok (.iadd, 1) := by decide +kernel
theorem nd_Model_alarm_70 : decode nC_Model_alarm 70 = .ok (.iaload, 1) := by decide +kernel
theorem nd_Model_alarm_71 : decode nC_Model_alarm 71 = .ok (.goto 4, 3) := by decide +kernel
theorem nd_Model_alarm_74 : decode nC_Model_alarm 74 = .ok (.iconst (-1), 1) := by decide +kernel
theorem nd_Model_alarm_75 : decode nC_Model_alarm 75 = .ok (.ireturn, 1) := by decide +kernel
theorem nd_Model_wasHour_0 : decode nC_Model_wasHour 0 = .ok (.iload_n 1, 1) := by decide +kernel
theorem nd_Model_wasHour_1 : decode nC_Model_wasHour 1 = .ok (.iconst 0, 1) := by decide +kernel
theorem nd_Model_wasHour_2 : decode nC_Model_wasHour 2 = .ok (.aload_n 0, 1) := by decide +kernel
theorem nd_Model_wasHour_3 : decode nC_Model_wasHour 3 = .ok (.getfield 172, 3) := by decide +kernel
theorem nd_Model_wasHour_6 : decode nC_Model_wasHour 6 = .ok (.iconst 1, 1) := by decide +kernel
theorem nd_Model_wasHour_7 : decode nC_Model_wasHour 7 = .ok (.isub, 1) := by decide +kernel
theorem nd_Model_wasHour_8 : decode nC_Model_wasHour 8 = .ok (.invokestatic 99, 3) := by decide +kernel
theorem nd_Model_wasHour_11 : decode nC_Model_wasHour 11 = .ok (.ireturn, 1) := by decide +kernel
theorem nd_Model_sensor_0 : decode nC_Model_sensor 0 = .ok (.aload_n 0, 1) := by decide +kernel
theorem nd_Model_sensor_1 : decode nC_Model_sensor 1 = .ok (.aload_n 0, 1) := by decide +kernel
theorem nd_Model_sensor_2 : decode nC_Model_sensor 2 = .ok (.iload_n 1, 1) := by decide +kernel
theorem nd_Model_sensor_3 : decode nC_Model_sensor 3 = .ok (.invokevirtual 192, 3) := by decide +kernel
theorem nd_Model_sensor_6 : decode nC_Model_sensor 6 = .ok (.iload_n 2, 1) := by decide +kernel
theorem nd_Model_sensor_7 : decode nC_Model_sensor 7 = .ok (.ldc 195, 2) := by decide +kernel
theorem nd_Model_sensor_9 : decode nC_Model_sensor 9 = .ok (.ldc 124, 2) := by decide +kernel
theorem nd_Model_sensor_11 : decode nC_Model_sensor 11 = .ok (.invokestatic 99, 3) := by decide +kernel
theorem nd_Model_sensor_14 : decode nC_Model_sensor 14 = .ok (.iconst 1, 1) := by decide +kernel
theorem nd_Model_sensor_15 : decode nC_Model_sensor 15 = .ok (.invokevirtual 103, 3) := by decide +kernel
theorem nd_Model_sensor_18 : decode nC_Model_sensor 18 = .ok (.ifCond .eq 10, 3) := by decide +kernel
theorem nd_Model_sensor_21 : decode nC_Model_sensor 21 = .ok (.aload_n 0, 1) := by decide +kernel
theorem nd_Model_sensor_22 : decode nC_Model_sensor 22 = .ok (.getfield 82, 3) := by decide +kernel
theorem nd_Model_sensor_25 : decode nC_Model_sensor 25 = .ok (.iload_n 1, 1) := by decide +kernel
theorem nd_Model_sensor_26 : decode nC_Model_sensor 26 = .ok (.iload_n 2, 1) := by decide +kernel
theorem nd_Model_sensor_27 : decode nC_Model_sensor 27 = .ok (.iastore, 1) := by decide +kernel
theorem nd_Model_sensor_28 : decode nC_Model_sensor 28 = .ok (.return_, 1) := by decide +kernel
theorem nd_Model_check_0 : decode nC_Model_check 0 = .ok (.aload_n 0, 1) := by decide +kernel
theorem nd_Model_check_1 : decode nC_Model_check 1 = .ok (.iload_n 1, 1) := by decide +kernel
theorem nd_Model_check_2 : decode nC_Model_check 2 = .ok (.invokevirtual 192, 3) := by decide +kernel
theorem nd_Model_check_5 : decode nC_Model_check 5 = .ok (.istore_n 3, 1) := by decide +kernel
theorem nd_Model_check_6 : decode nC_Model_check 6 = .ok (.aload_n 0, 1) := by decide +kernel
theorem nd_Model_check_7 : decode nC_Model_check 7 = .ok (.iload_n 3, 1) := by decide +kernel
theorem nd_Model_check_8 : decode nC_Model_check 8 = .ok (.iload_n 3, 1) := by decide +kernel
theorem nd_Model_check_9 : decode nC_Model_check 9 = .ok (.ifCond .eq 18, 3) := by decide +kernel
theorem nd_Model_check_12 : decode nC_Model_check 12 = .ok (.aload_n 0, 1) := by decide +kernel
theorem nd_Model_check_13 : decode nC_Model_check 13 = .ok (.getfield 82, 3) := by decide +kernel
theorem nd_Model_check_16 : decode nC_Model_check 16 = .ok (.iload_n 1, 1) := by decide +kernel
theorem nd_Model_check_17 : decode nC_Model_check 17 = .ok (.iaload, 1) := by decide +kernel
theorem nd_Model_check_18 : decode nC_Model_check 18 = .ok (.ldc 95, 2) := by decide +kernel
theorem nd_Model_check_20 : decode nC_Model_check 20 = .ok (.if_icmp .eq 7, 3) := by decide +kernel
theorem nd_Model_check_23 : decode nC_Model_check 23 = .ok (.iconst 1, 1) := by decide +kernel
theorem nd_Model_check_24 : decode nC_Model_check 24 = .ok (.goto 4, 3) := by decide +kernel
theorem nd_Model_check_27 : decode nC_Model_check 27 = .ok (.iconst 0, 1) := by decide +kernel
theorem nd_Model_check_28 : decode nC_Model_check 28 = .ok (.iload_n 2, 1) := by decide +kernel
theorem nd_Model_check_29 : decode nC_Model_check 29 = .ok (.ldc 195, 2) := by decide +kernel
theorem nd_Model_check_31 : decode nC_Model_check 31 = .ok (.ldc 124, 2) := by decide +kernel
theorem nd_Model_check_33 : decode nC_Model_check 33 = .ok (.invokestatic 99, 3) := by decide +kernel
theorem nd_Model_check_36 : decode nC_Model_check 36 = .ok (.invokevirtual 103, 3) := by decide +kernel
theorem nd_Model_check_39 : decode nC_Model_check 39 = .ok (.ifCond .eq 17, 3) := by decide +kernel
theorem nd_Model_check_42 : decode nC_Model_check 42 = .ok (.aload_n 0, 1) := by decide +kernel
theorem nd_Model_check_43 : decode nC_Model_check 43 = .ok (.getfield 85, 3) := by decide +kernel
theorem nd_Model_check_46 : decode nC_Model_check 46 = .ok (.iload_n 1, 1) := by decide +kernel
theorem nd_Model_check_47 : decode nC_Model_check 47 = .ok (.iconst 1, 1) := by decide +kernel
theorem nd_Model_check_48 : decode nC_Model_check 48 = .ok (.bastore, 1) := by decide +kernel
theorem nd_Model_check_49 : decode nC_Model_check 49 = .ok (.aload_n 0, 1) := by decide +kernel
theorem nd_Model_check_50 : decode nC_Model_check 50 = .ok (.getfield 88, 3) := by decide +kernel
theorem nd_Model_check_53 : decode nC_Model_check 53 = .ok (.iload_n 1, 1) := by decide +kernel
theorem nd_Model_check_54 : decode nC_Model_check 54 = .ok (.iload_n 2, 1) := by decide +kernel
theorem nd_Model_check_55 : decode nC_Model_check 55 = .ok (.iastore, 1) := by decide +kernel
theorem nd_Model_check_56 : decode nC_Model_check 56 = .ok (.return_, 1) := by decide +kernel
theorem nd_Model_corrected_0 : decode nC_Model_corrected 0 = .ok (.aload_n 0, 1) := by decide +kernel
theorem nd_Model_corrected_1 : decode nC_Model_corrected 1 = .ok (.aload_n 0, 1) := by decide +kernel
theorem nd_Model_corrected_2 : decode nC_Model_corrected 2 = .ok (.iload_n 1, 1) := by decide +kernel
theorem nd_Model_corrected_3 : decode nC_Model_corrected 3 = .ok (.invokevirtual 192, 3) := by decide +kernel
theorem nd_Model_corrected_6 : decode nC_Model_corrected 6 = .ok (.iconst 1, 1) := by decide +kernel
theorem nd_Model_corrected_7 : decode nC_Model_corrected 7 = .ok (.iconst 1, 1) := by decide +kernel
theorem nd_Model_corrected_8 : decode nC_Model_corrected 8 = .ok (.invokevirtual 103, 3) := by decide +kernel
theorem nd_Model_corrected_11 : decode nC_Model_corrected 11 = .ok (.ifCond .ne 5, 3) := by decide +kernel
theorem nd_Model_corrected_14 : decode nC_Model_corrected 14 = .ok (.iconst 0, 1) := by decide +kernel
theorem nd_Model_corrected_15 : decode nC_Model_corrected 15 = .ok (.ireturn, 1) := by decide +kernel
theorem nd_Model_corrected_16 : decode nC_Model_corrected 16 = .ok (.aload_n 0, 1) := by decide +kernel
theorem nd_Model_corrected_17 : decode nC_Model_corrected 17 = .ok (.getfield 82, 3) := by decide +kernel
theorem nd_Model_corrected_20 : decode nC_Model_corrected 20 = .ok (.iload_n 1, 1) := by decide +kernel
theorem nd_Model_corrected_21 : decode nC_Model_corrected 21 = .ok (.iaload, 1) := by decide +kernel
theorem nd_Model_corrected_22 : decode nC_Model_corrected 22 = .ok (.ldc 95, 2) := by decide +kernel
theorem nd_Model_corrected_24 : decode nC_Model_corrected 24 = .ok (.if_icmp .ne 6, 3) := by decide +kernel
theorem nd_Model_corrected_27 : decode nC_Model_corrected 27 = .ok (.ldc 95, 2) := by decide +kernel
theorem nd_Model_corrected_29 : decode nC_Model_corrected 29 = .ok (.ireturn, 1) := by decide +kernel
theorem nd_Model_corrected_30 : decode nC_Model_corrected 30 = .ok (.iconst (-1), 1) := by decide +kernel
theorem nd_Model_corrected_31 : decode nC_Model_corrected 31 = .ok (.istore_n 2, 1) := by decide +kernel
theorem nd_Model_corrected_32 : decode nC_Model_corrected 32 = .ok (.iconst (-1), 1) := by decide +kernel
theorem nd_Model_corrected_33 : decode nC_Model_corrected 33 = .ok (.istore_n 3, 1) := by decide +kernel
theorem nd_Model_corrected_34 : decode nC_Model_corrected 34 = .ok (.iconst 0, 1) := by decide +kernel
theorem nd_Model_corrected_35 : decode nC_Model_corrected 35 = .ok (.istore 4, 2) := by decide +kernel
theorem nd_Model_corrected_37 : decode nC_Model_corrected 37 = .ok (.iload 4, 2) := by decide +kernel
theorem nd_Model_corrected_39 : decode nC_Model_corrected 39 = .ok (.aload_n 0, 1) := by decide +kernel
theorem nd_Model_corrected_40 : decode nC_Model_corrected 40 = .ok (.getfield 172, 3) := by decide +kernel
theorem nd_Model_corrected_43 : decode nC_Model_corrected 43 = .ok (.if_icmp .ge 60, 3) := by decide +kernel
theorem nd_Model_corrected_46 : decode nC_Model_corrected 46 = .ok (.aload_n 0, 1) := by decide +kernel
theorem nd_Model_corrected_47 : decode nC_Model_corrected 47 = .ok (.getfield 85, 3) := by decide +kernel
theorem nd_Model_corrected_50 : decode nC_Model_corrected 50 = .ok (.iload 4, 2) := by decide +kernel
theorem nd_Model_corrected_52 : decode nC_Model_corrected 52 = .ok (.baload, 1) := by decide +kernel
theorem nd_Model_corrected_53 : decode nC_Model_corrected 53 = .ok (.ifCond .eq 14, 3) := by decide +kernel
theorem nd_Model_corrected_56 : decode nC_Model_corrected 56 = .ok (.iload 4, 2) := by decide +kernel
theorem nd_Model_corrected_58 : decode nC_Model_corrected 58 = .ok (.iload_n 1, 1) := by decide +kernel
theorem nd_Model_corrected_59 : decode nC_Model_corrected 59 = .ok (.if_icmp .gt 8, 3) := by decide +kernel
theorem nd_Model_corrected_62 : decode nC_Model_corrected 62 = .ok (.iload 4, 2) := by decide +kernel
theorem nd_Model_corrected_64 : decode nC_Model_corrected 64 = .ok (.goto 4, 3) := by decide +kernel
theorem nd_Model_corrected_67 : decode nC_Model_corrected 67 = .ok (.iload_n 2, 1) := by decide +kernel
theorem nd_Model_corrected_68 : decode nC_Model_corrected 68 = .ok (.istore_n 2, 1) := by decide +kernel
theorem nd_Model_corrected_69 : decode nC_Model_corrected 69 = .ok (.aload_n 0, 1) := by decide +kernel
theorem nd_Model_corrected_70 : decode nC_Model_corrected 70 = .ok (.getfield 85, 3) := by decide +kernel
theorem nd_Model_corrected_73 : decode nC_Model_corrected 73 = .ok (.iload 4, 2) := by decide +kernel
theorem nd_Model_corrected_75 : decode nC_Model_corrected 75 = .ok (.baload, 1) := by decide +kernel
theorem nd_Model_corrected_76 : decode nC_Model_corrected 76 = .ok (.ifCond .eq 19, 3) := by decide +kernel
theorem nd_Model_corrected_79 : decode nC_Model_corrected 79 = .ok (.iload 4, 2) := by decide +kernel
theorem nd_Model_corrected_81 : decode nC_Model_corrected 81 = .ok (.iload_n 1, 1) := by decide +kernel
theorem nd_Model_corrected_82 : decode nC_Model_corrected 82 = .ok (.if_icmp .lt 13, 3) := by decide +kernel
theorem nd_Model_corrected_85 : decode nC_Model_corrected 85 = .ok (.iload_n 3, 1) := by decide +kernel
theorem nd_Model_corrected_86 : decode nC_Model_corrected 86 = .ok (.iconst (-1), 1) := by decide +kernel
theorem nd_Model_corrected_87 : decode nC_Model_corrected 87 = .ok (.if_icmp .ne 8, 3) := by decide +kernel
theorem nd_Model_corrected_90 : decode nC_Model_corrected 90 = .ok (.iload 4, 2) := by decide +kernel
theorem nd_Model_corrected_92 : decode nC_Model_corrected 92 = .ok (.goto 4, 3) := by decide +kernel
theorem nd_Model_corrected_95 : decode nC_Model_corrected 95 = .ok (.iload_n 3, 1) := by decide +kernel
theorem nd_Model_corrected_96 : decode nC_Model_corrected 96 = .ok (.istore_n 3, 1) := by decide +kernel
theorem nd_Model_corrected_97 : decode nC_Model_corrected 97 = .ok (.iinc 4 1, 3) := by decide +kernel
theorem nd_Model_corrected_100 : decode nC_Model_corrected 100 = .ok (.goto (-63), 3) := by decide +kernel
theorem nd_Model_corrected_103 : decode nC_Model_corrected 103 = .ok (.iload_n 2, 1) := by decide +kernel
theorem nd_Model_corrected_104 : decode nC_Model_corrected 104 = .ok (.iconst (-1), 1) := by decide +kernel
theorem nd_Model_corrected_105 : decode nC_Model_corrected 105 = .ok (.if_icmp .ne 15, 3) := by decide +kernel
theorem nd_Model_corrected_108 : decode nC_Model_corrected 108 = .ok (.iload_n 3, 1) := by decide +kernel
theorem nd_Model_corrected_109 : decode nC_Model_corrected 109 = .ok (.iconst (-1), 1) := by decide +kernel
theorem nd_Model_corrected_110 : decode nC_Model_corrected 110 = .ok (.if_icmp .ne 10, 3) := by decide +kernel
theorem nd_Model_corrected_113 : decode nC_Model_corrected 113 = .ok (.aload_n 0, 1) := by decide +kernel
theorem nd_Model_corrected_114 : decode nC_Model_corrected 114 = .ok (.getfield 82, 3) := by decide +kernel
theorem nd_Model_corrected_117 : decode nC_Model_corrected 117 = .ok (.iload_n 1, 1) := by decide +kernel
theorem nd_Model_corrected_118 : decode nC_Model_corrected 118 = .ok (.iaload, 1) := by decide +kernel
theorem nd_Model_corrected_119 : decode nC_Model_corrected 119 = .ok (.ireturn, 1) := by decide +kernel
theorem nd_Model_corrected_120 : decode nC_Model_corrected 120 = .ok (.iload_n 2, 1) := by decide +kernel
theorem nd_Model_corrected_121 : decode nC_Model_corrected 121 = .ok (.iconst (-1), 1) := by decide +kernel
theorem nd_Model_corrected_122 : decode nC_Model_corrected 122 = .ok (.if_icmp .ne 7, 3) := by decide +kernel
theorem nd_Model_corrected_125 : decode nC_Model_corrected 125 = .ok (.iload_n 3, 1) := by decide +kernel
theorem nd_Model_corrected_126 : decode nC_Model_corrected 126 = .ok (.goto 4, 3) := by decide +kernel
theorem nd_Model_corrected_129 : decode nC_Model_corrected 129 = .ok (.iload_n 2, 1) := by decide +kernel
theorem nd_Model_corrected_130 : decode nC_Model_corrected 130 = .ok (.istore 4, 2) := by decide +kernel
theorem nd_Model_corrected_132 : decode nC_Model_corrected 132 = .ok (.iload_n 3, 1) := by decide +kernel
theorem nd_Model_corrected_133 : decode nC_Model_corrected 133 = .ok (.iconst (-1), 1) := by decide +kernel
theorem nd_Model_corrected_134 : decode nC_Model_corrected 134 = .ok (.if_icmp .ne 7, 3) := by decide +kernel
theorem nd_Model_corrected_137 : decode nC_Model_corrected 137 = .ok (.iload_n 2, 1) := by decide +kernel
theorem nd_Model_corrected_138 : decode nC_Model_corrected 138 = .ok (.goto 4, 3) := by decide +kernel
theorem nd_Model_corrected_141 : decode nC_Model_corrected 141 = .ok (.iload_n 3, 1) := by decide +kernel
theorem nd_Model_corrected_142 : decode nC_Model_corrected 142 = .ok (.istore 5, 2) := by decide +kernel
theorem nd_Model_corrected_144 : decode nC_Model_corrected 144 = .ok (.aload_n 0, 1) := by decide +kernel
theorem nd_Model_corrected_145 : decode nC_Model_corrected 145 = .ok (.getfield 88, 3) := by decide +kernel
theorem nd_Model_corrected_148 : decode nC_Model_corrected 148 = .ok (.iload 4, 2) := by decide +kernel
theorem nd_Model_corrected_150 : decode nC_Model_corrected 150 = .ok (.iaload, 1) := by decide +kernel
theorem nd_Model_corrected_151 : decode nC_Model_corrected 151 = .ok (.aload_n 0, 1) := by decide +kernel
theorem nd_Model_corrected_152 : decode nC_Model_corrected 152 = .ok (.getfield 82, 3) := by decide +kernel
theorem nd_Model_corrected_155 : decode nC_Model_corrected 155 = .ok (.iload 4, 2) := by decide +kernel
theorem nd_Model_corrected_157 : decode nC_Model_corrected 157 = .ok (.iaload, 1) := by decide +kernel
theorem nd_Model_corrected_158 : decode nC_Model_corrected 158 = .ok (.isub, 1) := by decide +kernel
theorem nd_Model_corrected_159 : decode nC_Model_corrected 159 = .ok (.i2l, 1) := by decide +kernel
theorem nd_Model_corrected_160 : decode nC_Model_corrected 160 = .ok (.lstore 6, 2) := by decide +kernel
theorem nd_Model_corrected_162 : decode nC_Model_corrected 162 = .ok (.aload_n 0, 1) := by decide +kernel
theorem nd_Model_corrected_163 : decode nC_Model_corrected 163 = .ok (.getfield 88, 3) := by decide +kernel
theorem nd_Model_corrected_166 : decode nC_Model_corrected 166 = .ok (.iload 5, 2) := by decide +kernel
theorem nd_Model_corrected_168 : decode nC_Model_corrected 168 = .ok (.iaload, 1) := by decide +kernel
theorem nd_Model_corrected_169 : decode nC_Model_corrected 169 = .ok (.aload_n 0, 1) := by decide +kernel
theorem nd_Model_corrected_170 : decode nC_Model_corrected 170 = .ok (.getfield 82, 3) := by decide +kernel
theorem nd_Model_corrected_173 : decode nC_Model_corrected 173 = .ok (.iload 5, 2) := by decide +kernel
theorem nd_Model_corrected_175 : decode nC_Model_corrected 175 = .ok (.iaload, 1) := by decide +kernel
theorem nd_Model_corrected_176 : decode nC_Model_corrected 176 = .ok (.isub, 1) := by decide +kernel
theorem nd_Model_corrected_177 : decode nC_Model_corrected 177 = .ok (.i2l, 1) := by decide +kernel
theorem nd_Model_corrected_178 : decode nC_Model_corrected 178 = .ok (.lstore 8, 2) := by decide +kernel
theorem nd_Model_corrected_180 : decode nC_Model_corrected 180 = .ok (.iload 4, 2) := by decide +kernel
theorem nd_Model_corrected_182 : decode nC_Model_corrected 182 = .ok (.iload 5, 2) := by decide +kernel
theorem nd_Model_corrected_184 : decode nC_Model_corrected 184 = .ok (.if_icmp .ne 7, 3) := by decide +kernel
theorem nd_Model_corrected_187 : decode nC_Model_corrected 187 = .ok (.lconst 0, 1) := by decide +kernel
theorem nd_Model_corrected_188 : decode nC_Model_corrected 188 = .ok (.goto 23, 3) := by decide +kernel
theorem nd_Model_corrected_191 : decode nC_Model_corrected 191 = .ok (.lload 8, 2) := by decide +kernel
theorem nd_Model_corrected_193 : decode nC_Model_corrected 193 = .ok (.lload 6, 2) := by decide +kernel
theorem nd_Model_corrected_195 : decode nC_Model_corrected 195 = .ok (.lsub, 1) := by decide +kernel
theorem nd_Model_corrected_196 : decode nC_Model_corrected 196 = .ok (.iload_n 1, 1) := by decide +kernel
theorem nd_Model_corrected_197 : decode nC_Model_corrected 197 = .ok (.iload 4, 2) := by decide +kernel
theorem nd_Model_corrected_199 : decode nC_Model_corrected 199 = .ok (.isub, 1) := by decide +kernel
theorem nd_Model_corrected_200 : decode nC_Model_corrected 200 = .ok (.i2l, 1) := by decide +kernel
theorem nd_Model_corrected_201 : decode nC_Model_corrected 201 = .ok (.lmul, 1) := by decide +kernel
theorem nd_Model_corrected_202 : decode nC_Model_corrected 202 = .ok (.iload 5, 2) := by decide +kernel
theorem nd_Model_corrected_204 : decode nC_Model_corrected 204 = .ok (.iload 4, 2) := by decide +kernel
theorem nd_Model_corrected_206 : decode nC_Model_corrected 206 = .ok (.isub, 1) := by decide +kernel
theorem nd_Model_corrected_207 : decode nC_Model_corrected 207 = .ok (.i2l, 1) := by decide +kernel
theorem nd_Model_corrected_208 : decode nC_Model_corrected 208 = .ok (.invokestatic 125, 3) := by decide +kernel
theorem nd_Model_corrected_211 : decode nC_Model_corrected 211 = .ok (.lstore 10, 2) := by decide +kernel
theorem nd_Model_corrected_213 : decode nC_Model_corrected 213 = .ok (.aload_n 0, 1) := by decide +kernel
theorem nd_Model_corrected_214 : decode nC_Model_corrected 214 = .ok (.getfield 82, 3) := by decide +kernel
theorem nd_Model_corrected_217 : decode nC_Model_corrected 217 = .ok (.iload_n 1, 1) := by decide +kernel
theorem nd_Model_corrected_218 : decode nC_Model_corrected 218 = .ok (.iaload, 1) := by decide +kernel
theorem nd_Model_corrected_219 : decode nC_Model_corrected 219 = .ok (.lload 6, 2) := by decide +kernel
theorem nd_Model_corrected_221 : decode nC_Model_corrected 221 = .ok (.lload 10, 2) := by decide +kernel
theorem nd_Model_corrected_223 : decode nC_Model_corrected 223 = .ok (.ladd, 1) := by decide +kernel
theorem nd_Model_corrected_224 : decode nC_Model_corrected 224 = .ok (.l2i, 1) := by decide +kernel
theorem nd_Model_corrected_225 : decode nC_Model_corrected 225 = .ok (.iadd, 1) := by decide +kernel
theorem nd_Model_corrected_226 : decode nC_Model_corrected 226 = .ok (.ireturn, 1) := by decide +kernel
theorem nd_Model_silent_0 : decode nC_Model_silent 0 = .ok (.aload_n 0, 1) := by decide +kernel
theorem nd_Model_silent_1 : decode nC_Model_silent 1 = .ok (.aload_n 0, 1) := by decide +kernel
theorem nd_Model_silent_2 : decode nC_Model_silent 2 = .ok (.iload_n 1, 1) := by decide +kernel
theorem nd_Model_silent_3 : decode nC_Model_silent 3 = .ok (.invokevirtual 192, 3) := by decide +kernel
theorem nd_Model_silent_6 : decode nC_Model_silent 6 = .ok (.iconst 1, 1) := by decide +kernel
theorem nd_Model_silent_7 : decode nC_Model_silent 7 = .ok (.iconst 1, 1) := by decide +kernel
theorem nd_Model_silent_8 : decode nC_Model_silent 8 = .ok (.invokevirtual 103, 3) := by decide +kernel
theorem nd_Model_silent_11 : decode nC_Model_silent 11 = .ok (.ifCond .ne 5, 3) := by decide +kernel
theorem nd_Model_silent_14 : decode nC_Model_silent 14 = .ok (.iconst 0, 1) := by decide +kernel
theorem nd_Model_silent_15 : decode nC_Model_silent 15 = .ok (.ireturn, 1) := by decide +kernel
theorem nd_Model_silent_16 : decode nC_Model_silent 16 = .ok (.iconst (-1), 1) := by decide +kernel
theorem nd_Model_silent_17 : decode nC_Model_silent 17 = .ok (.istore_n 2, 1) := by decide +kernel
theorem nd_Model_silent_18 : decode nC_Model_silent 18 = .ok (.iconst 0, 1) := by decide +kernel
theorem nd_Model_silent_19 : decode nC_Model_silent 19 = .ok (.istore_n 3, 1) := by decide +kernel
theorem nd_Model_silent_20 : decode nC_Model_silent 20 = .ok (.iconst 0, 1) := by decide +kernel
theorem nd_Model_silent_21 : decode nC_Model_silent 21 = .ok (.istore 4, 2) := by decide +kernel
theorem nd_Model_silent_23 : decode nC_Model_silent 23 = .ok (.iload_n 1, 1) := by decide +kernel
theorem nd_Model_silent_24 : decode nC_Model_silent 24 = .ok (.istore 5, 2) := by decide +kernel
theorem nd_Model_silent_26 : decode nC_Model_silent 26 = .ok (.iload 5, 2) := by decide +kernel
theorem nd_Model_silent_28 : decode nC_Model_silent 28 = .ok (.aload_n 0, 1) := by decide +kernel
theorem nd_Model_silent_29 : decode nC_Model_silent 29 = .ok (.getfield 172, 3) := by decide +kernel
theorem nd_Model_silent_32 : decode nC_Model_silent 32 = .ok (.if_icmp .ge 62, 3) := by decide +kernel
theorem nd_Model_silent_35 : decode nC_Model_silent 35 = .ok (.aload_n 0, 1) := by decide +kernel
theorem nd_Model_silent_36 : decode nC_Model_silent 36 = .ok (.getfield 82, 3) := by decide +kernel
theorem nd_Model_silent_39 : decode nC_Model_silent 39 = .ok (.iload 5, 2) := by decide +kernel
theorem nd_Model_silent_41 : decode nC_Model_silent 41 = .ok (.iaload, 1) := by decide +kernel
theorem nd_Model_silent_42 : decode nC_Model_silent 42 = .ok (.ldc 95, 2) := by decide +kernel
theorem nd_Model_silent_44 : decode nC_Model_silent 44 = .ok (.if_icmp .ne 10, 3) := by decide +kernel
theorem nd_Model_silent_47 : decode nC_Model_silent 47 = .ok (.iload 4, 2) := by decide +kernel
theorem nd_Model_silent_49 : decode nC_Model_silent 49 = .ok (.iconst 1, 1) := by decide +kernel
theorem nd_Model_silent_50 : decode nC_Model_silent 50 = .ok (.iadd, 1) := by decide +kernel
theorem nd_Model_silent_51 : decode nC_Model_silent 51 = .ok (.goto 4, 3) := by decide +kernel
theorem nd_Model_silent_54 : decode nC_Model_silent 54 = .ok (.iconst 0, 1) := by decide +kernel
theorem nd_Model_silent_55 : decode nC_Model_silent 55 = .ok (.istore 4, 2) := by decide +kernel
theorem nd_Model_silent_57 : decode nC_Model_silent 57 = .ok (.iload 4, 2) := by decide +kernel
theorem nd_Model_silent_59 : decode nC_Model_silent 59 = .ok (.iload_n 3, 1) := by decide +kernel
theorem nd_Model_silent_60 : decode nC_Model_silent 60 = .ok (.if_icmp .le 13, 3) := by decide +kernel
theorem nd_Model_silent_63 : decode nC_Model_silent 63 = .ok (.iload 5, 2) := by decide +kernel
theorem nd_Model_silent_65 : decode nC_Model_silent 65 = .ok (.iload 4, 2) := by decide +kernel
theorem nd_Model_silent_67 : decode nC_Model_silent 67 = .ok (.isub, 1) := by decide +kernel
theorem nd_Model_silent_68 : decode nC_Model_silent 68 = .ok (.iconst 1, 1) := by decide +kernel
theorem nd_Model_silent_69 : decode nC_Model_silent 69 = .ok (.iadd, 1) := by decide +kernel
theorem nd_Model_silent_70 : decode nC_Model_silent 70 = .ok (.goto 4, 3) := by decide +kernel
theorem nd_Model_silent_73 : decode nC_Model_silent 73 = .ok (.iload_n 2, 1) := by decide +kernel
theorem nd_Model_silent_74 : decode nC_Model_silent 74 = .ok (.istore_n 2, 1) := by decide +kernel
theorem nd_Model_silent_75 : decode nC_Model_silent 75 = .ok (.iload 4, 2) := by decide +kernel
theorem nd_Model_silent_77 : decode nC_Model_silent 77 = .ok (.iload_n 3, 1) := by decide +kernel
theorem nd_Model_silent_78 : decode nC_Model_silent 78 = .ok (.if_icmp .le 8, 3) := by decide +kernel
theorem nd_Model_silent_81 : decode nC_Model_silent 81 = .ok (.iload 4, 2) := by decide +kernel
theorem nd_Model_silent_83 : decode nC_Model_silent 83 = .ok (.goto 4, 3) := by decide +kernel
theorem nd_Model_silent_86 : decode nC_Model_silent 86 = .ok (.iload_n 3, 1) := by decide +kernel
theorem nd_Model_silent_87 : decode nC_Model_silent 87 = .ok (.istore_n 3, 1) := by decide +kernel
theorem nd_Model_silent_88 : decode nC_Model_silent 88 = .ok (.iinc 5 1, 3) := by decide +kernel
theorem nd_Model_silent_91 : decode nC_Model_silent 91 = .ok (.goto (-65), 3) := by decide +kernel
theorem nd_Model_silent_94 : decode nC_Model_silent 94 = .ok (.iload_n 2, 1) := by decide +kernel
theorem nd_Model_silent_95 : decode nC_Model_silent 95 = .ok (.ireturn, 1) := by decide +kernel
theorem nd_Model_tried_0 : decode nC_Model_tried 0 = .ok (.iconst 0, 1) := by decide +kernel
theorem nd_Model_tried_1 : decode nC_Model_tried 1 = .ok (.istore 5, 2) := by decide +kernel
theorem nd_Model_tried_3 : decode nC_Model_tried 3 = .ok (.iload 5, 2) := by decide +kernel
theorem nd_Model_tried_5 : decode nC_Model_tried 5 = .ok (.bipush 12, 2) := by decide +kernel
theorem nd_Model_tried_7 : decode nC_Model_tried 7 = .ok (.if_icmp .ge 23, 3) := by decide +kernel
theorem nd_Model_tried_10 : decode nC_Model_tried 10 = .ok (.aload_n 0, 1) := by decide +kernel
theorem nd_Model_tried_11 : decode nC_Model_tried 11 = .ok (.getfield 16, 3) := by decide +kernel
theorem nd_Model_tried_14 : decode nC_Model_tried 14 = .ok (.iload 5, 2) := by decide +kernel
theorem nd_Model_tried_16 : decode nC_Model_tried 16 = .ok (.aload_n 0, 1) := by decide +kernel
theorem nd_Model_tried_17 : decode nC_Model_tried 17 = .ok (.getfield 20, 3) := by decide +kernel
theorem nd_Model_tried_20 : decode nC_Model_tried 20 = .ok (.iload 5, 2) := by decide +kernel
theorem nd_Model_tried_22 : decode nC_Model_tried 22 = .ok (.laload, 1) := by decide +kernel
theorem nd_Model_tried_23 : decode nC_Model_tried 23 = .ok (.lastore, 1) := by decide +kernel
theorem nd_Model_tried_24 : decode nC_Model_tried 24 = .ok (.iinc 5 1, 3) := by decide +kernel
theorem nd_Model_tried_27 : decode nC_Model_tried 27 = .ok (.goto (-24), 3) := by decide +kernel
theorem nd_Model_tried_30 : decode nC_Model_tried 30 = .ok (.aload_n 0, 1) := by decide +kernel
theorem nd_Model_tried_31 : decode nC_Model_tried 31 = .ok (.getfield 46, 3) := by decide +kernel
theorem nd_Model_tried_34 : decode nC_Model_tried 34 = .ok (.iconst 0, 1) := by decide +kernel
theorem nd_Model_tried_35 : decode nC_Model_tried 35 = .ok (.iload_n 1, 1) := by decide +kernel
theorem nd_Model_tried_36 : decode nC_Model_tried 36 = .ok (.iastore, 1) := by decide +kernel
theorem nd_Model_tried_37 : decode nC_Model_tried 37 = .ok (.aload_n 0, 1) := by decide +kernel
theorem nd_Model_tried_38 : decode nC_Model_tried 38 = .ok (.getfield 49, 3) := by decide +kernel
theorem nd_Model_tried_41 : decode nC_Model_tried 41 = .ok (.iconst 0, 1) := by decide +kernel
theorem nd_Model_tried_42 : decode nC_Model_tried 42 = .ok (.iload_n 1, 1) := by decide +kernel
theorem nd_Model_tried_43 : decode nC_Model_tried 43 = .ok (.sipush 500, 3) := by decide +kernel
theorem nd_Model_tried_46 : decode nC_Model_tried 46 = .ok (.iadd, 1) := by decide +kernel
theorem nd_Model_tried_47 : decode nC_Model_tried 47 = .ok (.iastore, 1) := by decide +kernel
theorem nd_Model_tried_48 : decode nC_Model_tried 48 = .ok (.aload_n 0, 1) := by decide +kernel
theorem nd_Model_tried_49 : decode nC_Model_tried 49 = .ok (.getfield 16, 3) := by decide +kernel
theorem nd_Model_tried_52 : decode nC_Model_tried 52 = .ok (.bipush 8, 2) := by decide +kernel
theorem nd_Model_tried_54 : decode nC_Model_tried 54 = .ok (.lconst 0, 1) := by decide +kernel
theorem nd_Model_tried_55 : decode nC_Model_tried 55 = .ok (.lastore, 1) := by decide +kernel
theorem nd_Model_tried_56 : decode nC_Model_tried 56 = .ok (.lconst 0, 1) := by decide +kernel
theorem nd_Model_tried_57 : decode nC_Model_tried 57 = .ok (.lstore 5, 2) := by decide +kernel
theorem nd_Model_tried_59 : decode nC_Model_tried 59 = .ok (.iconst 0, 1) := by decide +kernel
theorem nd_Model_tried_60 : decode nC_Model_tried 60 = .ok (.istore 7, 2) := by decide +kernel
theorem nd_Model_tried_62 : decode nC_Model_tried 62 = .ok (.iload 7, 2) := by decide +kernel
theorem nd_Model_tried_64 : decode nC_Model_tried 64 = .ok (.iload_n 2, 1) := by decide +kernel
theorem nd_Model_tried_65 : decode nC_Model_tried 65 = .ok (.if_icmp .ge 78, 3) := by decide +kernel
theorem nd_Model_tried_68 : decode nC_Model_tried 68 = .ok (.lload 5, 2) := by decide +kernel
theorem nd_Model_tried_70 : decode nC_Model_tried 70 = .ok (.aload_n 0, 1) := by decide +kernel
theorem nd_Model_tried_71 : decode nC_Model_tried 71 = .ok (.iload_n 3, 1) := by decide +kernel
theorem nd_Model_tried_72 : decode nC_Model_tried 72 = .ok (.iload 4, 2) := by decide +kernel
theorem nd_Model_tried_74 : decode nC_Model_tried 74 = .ok (.iconst 0, 1) := by decide +kernel
theorem nd_Model_tried_75 : decode nC_Model_tried 75 = .ok (.invokevirtual 179, 3) := by decide +kernel
theorem nd_Model_tried_78 : decode nC_Model_tried 78 = .ok (.ladd, 1) := by decide +kernel
theorem nd_Model_tried_79 : decode nC_Model_tried 79 = .ok (.lstore 5, 2) := by decide +kernel
theorem nd_Model_tried_81 : decode nC_Model_tried 81 = .ok (.aload_n 0, 1) := by decide +kernel
theorem nd_Model_tried_82 : decode nC_Model_tried 82 = .ok (.invokevirtual 129, 3) := by decide +kernel
theorem nd_Model_tried_85 : decode nC_Model_tried 85 = .ok (.lstore 8, 2) := by decide +kernel
theorem nd_Model_tried_87 : decode nC_Model_tried 87 = .ok (.lload 5, 2) := by decide +kernel
theorem nd_Model_tried_89 : decode nC_Model_tried 89 = .ok (.lload 8, 2) := by decide +kernel
theorem nd_Model_tried_91 : decode nC_Model_tried 91 = .ok (.ldc2_w 196, 3) := by decide +kernel
theorem nd_Model_tried_94 : decode nC_Model_tried 94 = .ok (.lcmp, 1) := by decide +kernel
theorem nd_Model_tried_95 : decode nC_Model_tried 95 = .ok (.ifCond .ge 16, 3) := by decide +kernel
theorem nd_Model_tried_98 : decode nC_Model_tried 98 = .ok (.ldc2_w 146, 3) := by decide +kernel
theorem nd_Model_tried_101 : decode nC_Model_tried 101 = .ok (.ldc2_w 196, 3) := by decide +kernel
theorem nd_Model_tried_104 : decode nC_Model_tried 104 = .ok (.lload 8, 2) := by decide +kernel
theorem nd_Model_tried_106 : decode nC_Model_tried 106 = .ok (.lsub, 1) := by decide +kernel
theorem nd_Model_tried_107 : decode nC_Model_tried 107 = .ok (.lmul, 1) := by decide +kernel
theorem nd_Model_tried_108 : decode nC_Model_tried 108 = .ok (.goto 26, 3) := by decide +kernel
theorem nd_Model_tried_111 : decode nC_Model_tried 111 = .ok (.lload 8, 2) := by decide +kernel
theorem nd_Model_tried_113 : decode nC_Model_tried 113 = .ok (.ldc2_w 198, 3) := by decide +kernel
theorem nd_Model_tried_116 : decode nC_Model_tried 116 = .ok (.lcmp, 1) := by decide +kernel
theorem nd_Model_tried_117 : decode nC_Model_tried 117 = .ok (.ifCond .le 16, 3) := by decide +kernel
theorem nd_Model_tried_120 : decode nC_Model_tried 120 = .ok (.ldc2_w 146, 3) := by decide +kernel
theorem nd_Model_tried_123 : decode nC_Model_tried 123 = .ok (.lload 8, 2) := by decide +kernel
theorem nd_Model_tried_125 : decode nC_Model_tried 125 = .ok (.ldc2_w 198, 3) := by decide +kernel
theorem nd_Model_tried_128 : decode nC_Model_tried 128 = .ok (.lsub, 1) := by decide +kernel
theorem nd_Model_tried_129 : decode nC_Model_tried 129 = .ok (.lmul, 1) := by decide +kernel
theorem nd_Model_tried_130 : decode nC_Model_tried 130 = .ok (.goto 4, 3) := by decide +kernel
theorem nd_Model_tried_133 : decode nC_Model_tried 133 = .ok (.lconst 0, 1) := by decide +kernel
theorem nd_Model_tried_134 : decode nC_Model_tried 134 = .ok (.ladd, 1) := by decide +kernel
theorem nd_Model_tried_135 : decode nC_Model_tried 135 = .ok (.lstore 5, 2) := by decide +kernel
theorem nd_Model_tried_137 : decode nC_Model_tried 137 = .ok (.iinc 7 1, 3) := by decide +kernel
theorem nd_Model_tried_140 : decode nC_Model_tried 140 = .ok (.goto (-78), 3) := by decide +kernel
theorem nd_Model_tried_143 : decode nC_Model_tried 143 = .ok (.lload 5, 2) := by decide +kernel
theorem nd_Model_tried_145 : decode nC_Model_tried 145 = .ok (.lreturn, 1) := by decide +kernel
theorem nd_Model_plan_0 : decode nC_Model_plan 0 = .ok (.aload_n 0, 1) := by decide +kernel
theorem nd_Model_plan_1 : decode nC_Model_plan 1 = .ok (.iload_n 1, 1) := by decide +kernel
theorem nd_Model_plan_2 : decode nC_Model_plan 2 = .ok (.iconst 1, 1) := by decide +kernel
theorem nd_Model_plan_3 : decode nC_Model_plan 3 = .ok (.bipush 24, 2) := by decide +kernel
theorem nd_Model_plan_5 : decode nC_Model_plan 5 = .ok (.invokestatic 99, 3) := by decide +kernel
theorem nd_Model_plan_8 : decode nC_Model_plan 8 = .ok (.ifCond .eq 15, 3) := by decide +kernel
theorem nd_Model_plan_11 : decode nC_Model_plan 11 = .ok (.iload_n 2, 1) := by decide +kernel
theorem nd_Model_plan_12 : decode nC_Model_plan 12 = .ok (.iload_n 3, 1) := by decide +kernel
theorem nd_Model_plan_13 : decode nC_Model_plan 13 = .ok (.invokestatic 175, 3) := by decide +kernel
theorem nd_Model_plan_16 : decode nC_Model_plan 16 = .ok (.ifCond .eq 7, 3) := by decide +kernel
theorem nd_Model_plan_19 : decode nC_Model_plan 19 = .ok (.iconst 1, 1) := by decide +kernel
theorem nd_Model_plan_20 : decode nC_Model_plan 20 = .ok (.goto 4, 3) := by decide +kernel
theorem nd_Model_plan_23 : decode nC_Model_plan 23 = .ok (.iconst 0, 1) := by decide +kernel
theorem nd_Model_plan_24 : decode nC_Model_plan 24 = .ok (.iconst 1, 1) := by decide +kernel
theorem nd_Model_plan_25 : decode nC_Model_plan 25 = .ok (.iconst 1, 1) := by decide +kernel
theorem nd_Model_plan_26 : decode nC_Model_plan 26 = .ok (.invokevirtual 103, 3) := by decide +kernel
theorem nd_Model_plan_29 : decode nC_Model_plan 29 = .ok (.ifCond .ne 5, 3) := by decide +kernel
theorem nd_Model_plan_32 : decode nC_Model_plan 32 = .ok (.iconst 0, 1) := by decide +kernel
theorem nd_Model_plan_33 : decode nC_Model_plan 33 = .ok (.ireturn, 1) := by decide +kernel
theorem nd_Model_plan_34 : decode nC_Model_plan 34 = .ok (.iconst 0, 1) := by decide +kernel
theorem nd_Model_plan_35 : decode nC_Model_plan 35 = .ok (.istore 4, 2) := by decide +kernel
theorem nd_Model_plan_37 : decode nC_Model_plan 37 = .ok (.iload 4, 2) := by decide +kernel
theorem nd_Model_plan_39 : decode nC_Model_plan 39 = .ok (.bipush 12, 2) := by decide +kernel
theorem nd_Model_plan_41 : decode nC_Model_plan 41 = .ok (.if_icmp .ge 23, 3) := by decide +kernel
theorem nd_Model_plan_44 : decode nC_Model_plan 44 = .ok (.aload_n 0, 1) := by decide +kernel
theorem nd_Model_plan_45 : decode nC_Model_plan 45 = .ok (.getfield 20, 3) := by decide +kernel
theorem nd_Model_plan_48 : decode nC_Model_plan 48 = .ok (.iload 4, 2) := by decide +kernel
theorem nd_Model_plan_50 : decode nC_Model_plan 50 = .ok (.aload_n 0, 1) := by decide +kernel
theorem nd_Model_plan_51 : decode nC_Model_plan 51 = .ok (.getfield 16, 3) := by decide +kernel
theorem nd_Model_plan_54 : decode nC_Model_plan 54 = .ok (.iload 4, 2) := by decide +kernel
theorem nd_Model_plan_56 : decode nC_Model_plan 56 = .ok (.laload, 1) := by decide +kernel
theorem nd_Model_plan_57 : decode nC_Model_plan 57 = .ok (.lastore, 1) := by decide +kernel
theorem nd_Model_plan_58 : decode nC_Model_plan 58 = .ok (.iinc 4 1, 3) := by decide +kernel
theorem nd_Model_plan_61 : decode nC_Model_plan 61 = .ok (.goto (-24), 3) := by decide +kernel
theorem nd_Model_plan_64 : decode nC_Model_plan 64 = .ok (.iconst 0, 1) := by decide +kernel
theorem nd_Model_plan_65 : decode nC_Model_plan 65 = .ok (.istore 4, 2) := by decide +kernel
theorem nd_Model_plan_67 : decode nC_Model_plan 67 = .ok (.iload 4, 2) := by decide +kernel
theorem nd_Model_plan_69 : decode nC_Model_plan 69 = .ok (.bipush 10, 2) := by decide +kernel
theorem nd_Model_plan_71 : decode nC_Model_plan 71 = .ok (.if_icmp .ge 23, 3) := by decide +kernel
theorem nd_Model_plan_74 : decode nC_Model_plan 74 = .ok (.aload_n 0, 1) := by decide +kernel
theorem nd_Model_plan_75 : decode nC_Model_plan 75 = .ok (.getfield 26, 3) := by decide +kernel
theorem nd_Model_plan_78 : decode nC_Model_plan 78 = .ok (.iload 4, 2) := by decide +kernel
theorem nd_Model_plan_80 : decode nC_Model_plan 80 = .ok (.aload_n 0, 1) := by decide +kernel
theorem nd_Model_plan_81 : decode nC_Model_plan 81 = .ok (.getfield 23, 3) := by decide +kernel
theorem nd_Model_plan_84 : decode nC_Model_plan 84 = .ok (.iload 4, 2) := by decide +kernel
theorem nd_Model_plan_86 : decode nC_Model_plan 86 = .ok (.laload, 1) := by decide +kernel
theorem nd_Model_plan_87 : decode nC_Model_plan 87 = .ok (.lastore, 1) := by decide +kernel
theorem nd_Model_plan_88 : decode nC_Model_plan 88 = .ok (.iinc 4 1, 3) := by decide +kernel
theorem nd_Model_plan_91 : decode nC_Model_plan 91 = .ok (.goto (-24), 3) := by decide +kernel
theorem nd_Model_plan_94 : decode nC_Model_plan 94 = .ok (.aload_n 0, 1) := by decide +kernel
theorem nd_Model_plan_95 : decode nC_Model_plan 95 = .ok (.getfield 42, 3) := by decide +kernel
theorem nd_Model_plan_98 : decode nC_Model_plan 98 = .ok (.iconst 0, 1) := by decide +kernel
theorem nd_Model_plan_99 : decode nC_Model_plan 99 = .ok (.baload, 1) := by decide +kernel
theorem nd_Model_plan_100 : decode nC_Model_plan 100 = .ok (.istore 4, 2) := by decide +kernel
theorem nd_Model_plan_102 : decode nC_Model_plan 102 = .ok (.aload_n 0, 1) := by decide +kernel
theorem nd_Model_plan_103 : decode nC_Model_plan 103 = .ok (.getfield 46, 3) := by decide +kernel
theorem nd_Model_plan_106 : decode nC_Model_plan 106 = .ok (.iconst 0, 1) := by decide +kernel
theorem nd_Model_plan_107 : decode nC_Model_plan 107 = .ok (.iaload, 1) := by decide +kernel
theorem nd_Model_plan_108 : decode nC_Model_plan 108 = .ok (.istore 5, 2) := by decide +kernel
theorem nd_Model_plan_110 : decode nC_Model_plan 110 = .ok (.aload_n 0, 1) := by decide +kernel
theorem nd_Model_plan_111 : decode nC_Model_plan 111 = .ok (.getfield 49, 3) := by decide +kernel
theorem nd_Model_plan_114 : decode nC_Model_plan 114 = .ok (.iconst 0, 1) := by decide +kernel
theorem nd_Model_plan_115 : decode nC_Model_plan 115 = .ok (.iaload, 1) := by decide +kernel
theorem nd_Model_plan_116 : decode nC_Model_plan 116 = .ok (.istore 6, 2) := by decide +kernel
theorem nd_Model_plan_118 : decode nC_Model_plan 118 = .ok (.aload_n 0, 1) := by decide +kernel
theorem nd_Model_plan_119 : decode nC_Model_plan 119 = .ok (.getfield 52, 3) := by decide +kernel
theorem nd_Model_plan_122 : decode nC_Model_plan 122 = .ok (.iconst 0, 1) := by decide +kernel
theorem nd_Model_plan_123 : decode nC_Model_plan 123 = .ok (.iaload, 1) := by decide +kernel
theorem nd_Model_plan_124 : decode nC_Model_plan 124 = .ok (.istore 7, 2) := by decide +kernel
theorem nd_Model_plan_126 : decode nC_Model_plan 126 = .ok (.aload_n 0, 1) := by decide +kernel
theorem nd_Model_plan_127 : decode nC_Model_plan 127 = .ok (.getfield 42, 3) := by decide +kernel
theorem nd_Model_plan_130 : decode nC_Model_plan 130 = .ok (.iconst 0, 1) := by decide +kernel
theorem nd_Model_plan_131 : decode nC_Model_plan 131 = .ok (.iconst 1, 1) := by decide +kernel
theorem nd_Model_plan_132 : decode nC_Model_plan 132 = .ok (.bastore, 1) := by decide +kernel
theorem nd_Model_plan_133 : decode nC_Model_plan 133 = .ok (.aload_n 0, 1) := by decide +kernel
theorem nd_Model_plan_134 : decode nC_Model_plan 134 = .ok (.getfield 52, 3) := by decide +kernel
theorem nd_Model_plan_137 : decode nC_Model_plan 137 = .ok (.iconst 0, 1) := by decide +kernel
theorem nd_Model_plan_138 : decode nC_Model_plan 138 = .ok (.iload 4, 2) := by decide +kernel
theorem nd_Model_plan_140 : decode nC_Model_plan 140 = .ok (.ifCond .eq 8, 3) := by decide +kernel
theorem nd_Model_plan_143 : decode nC_Model_plan 143 = .ok (.iload 7, 2) := by decide +kernel
theorem nd_Model_plan_145 : decode nC_Model_plan 145 = .ok (.goto 6, 3) := by decide +kernel
theorem nd_Model_plan_148 : decode nC_Model_plan 148 = .ok (.sipush 5000, 3) := by decide +kernel
theorem nd_Model_plan_151 : decode nC_Model_plan 151 = .ok (.iastore, 1) := by decide +kernel
theorem nd_Model_plan_152 : decode nC_Model_plan 152 = .ok (.iconst (-1), 1) := by decide +kernel
theorem nd_Model_plan_153 : decode nC_Model_plan 153 = .ok (.istore 8, 2) := by decide +kernel
theorem nd_Model_plan_155 : decode nC_Model_plan 155 = .ok (.lconst 0, 1) := by decide +kernel
theorem nd_Model_plan_156 : decode nC_Model_plan 156 = .ok (.lstore 9, 2) := by decide +kernel
theorem nd_Model_plan_158 : decode nC_Model_plan 158 = .ok (.sipush 18000, 3) := by decide +kernel
theorem nd_Model_plan_161 : decode nC_Model_plan 161 = .ok (.istore 11, 2) := by decide +kernel
theorem nd_Model_plan_163 : decode nC_Model_plan 163 = .ok (.iload 11, 2) := by decide +kernel
theorem nd_Model_plan_165 : decode nC_Model_plan 165 = .ok (.sipush 22000, 3) := by decide +kernel
theorem nd_Model_plan_168 : decode nC_Model_plan 168 = .ok (.if_icmp .gt 72, 3) := by decide +kernel
theorem nd_Model_plan_171 : decode nC_Model_plan 171 = .ok (.aload_n 0, 1) := by decide +kernel
theorem nd_Model_plan_172 : decode nC_Model_plan 172 = .ok (.iload 11, 2) := by decide +kernel
theorem nd_Model_plan_174 : decode nC_Model_plan 174 = .ok (.iload_n 1, 1) := by decide +kernel
theorem nd_Model_plan_175 : decode nC_Model_plan 175 = .ok (.iload_n 2, 1) := by decide +kernel
theorem nd_Model_plan_176 : decode nC_Model_plan 176 = .ok (.iload_n 3, 1) := by decide +kernel
theorem nd_Model_plan_177 : decode nC_Model_plan 177 = .ok (.invokevirtual 200, 3) := by decide +kernel
theorem nd_Model_plan_180 : decode nC_Model_plan 180 = .ok (.lstore 12, 2) := by decide +kernel
theorem nd_Model_plan_182 : decode nC_Model_plan 182 = .ok (.iload 8, 2) := by decide +kernel
theorem nd_Model_plan_184 : decode nC_Model_plan 184 = .ok (.iconst (-1), 1) := by decide +kernel
theorem nd_Model_plan_185 : decode nC_Model_plan 185 = .ok (.if_icmp .eq 11, 3) := by decide +kernel
theorem nd_Model_plan_188 : decode nC_Model_plan 188 = .ok (.lload 12, 2) := by decide +kernel
theorem nd_Model_plan_190 : decode nC_Model_plan 190 = .ok (.lload 9, 2) := by decide +kernel
theorem nd_Model_plan_192 : decode nC_Model_plan 192 = .ok (.lcmp, 1) := by decide +kernel
theorem nd_Model_plan_193 : decode nC_Model_plan 193 = .ok (.ifCond .ge 7, 3) := by decide +kernel
theorem nd_Model_plan_196 : decode nC_Model_plan 196 = .ok (.iconst 1, 1) := by decide +kernel
theorem nd_Model_plan_197 : decode nC_Model_plan 197 = .ok (.goto 4, 3) := by decide +kernel
theorem nd_Model_plan_200 : decode nC_Model_plan 200 = .ok (.iconst 0, 1) := by decide +kernel
theorem nd_Model_plan_201 : decode nC_Model_plan 201 = .ok (.istore 14, 2) := by decide +kernel
theorem nd_Model_plan_203 : decode nC_Model_plan 203 = .ok (.iload 14, 2) := by decide +kernel
theorem nd_Model_plan_205 : decode nC_Model_plan 205 = .ok (.ifCond .eq 8, 3) := by decide +kernel
theorem nd_Model_plan_208 : decode nC_Model_plan 208 = .ok (.lload 12, 2) := by decide +kernel
theorem nd_Model_plan_210 : decode nC_Model_plan 210 = .ok (.goto 5, 3) := by decide +kernel
theorem nd_Model_plan_213 : decode nC_Model_plan 213 = .ok (.lload 9, 2) := by decide +kernel
theorem nd_Model_plan_215 : decode nC_Model_plan 215 = .ok (.lstore 9, 2) := by decide +kernel
theorem nd_Model_plan_217 : decode nC_Model_plan 217 = .ok (.iload 14, 2) := by decide +kernel
theorem nd_Model_plan_219 : decode nC_Model_plan 219 = .ok (.ifCond .eq 8, 3) := by decide +kernel
theorem nd_Model_plan_222 : decode nC_Model_plan 222 = .ok (.iload 11, 2) := by decide +kernel
theorem nd_Model_plan_224 : decode nC_Model_plan 224 = .ok (.goto 5, 3) := by decide +kernel
theorem nd_Model_plan_227 : decode nC_Model_plan 227 = .ok (.iload 8, 2) := by decide +kernel
theorem nd_Model_plan_229 : decode nC_Model_plan 229 = .ok (.istore 8, 2) := by decide +kernel
theorem nd_Model_plan_231 : decode nC_Model_plan 231 = .ok (.iinc 11 500, 6) := by decide +kernel
theorem nd_Model_plan_237 : decode nC_Model_plan 237 = .ok (.goto (-74), 3) := by decide +kernel
theorem nd_Model_plan_240 : decode nC_Model_plan 240 = .ok (.iconst 0, 1) := by decide +kernel
theorem nd_Model_plan_241 : decode nC_Model_plan 241 = .ok (.istore 11, 2) := by decide +kernel
theorem nd_Model_plan_243 : decode nC_Model_plan 243 = .ok (.iload 11, 2) := by decide +kernel
theorem nd_Model_plan_245 : decode nC_Model_plan 245 = .ok (.bipush 12, 2) := by decide +kernel
theorem nd_Model_plan_247 : decode nC_Model_plan 247 = .ok (.if_icmp .ge 23, 3) := by decide +kernel
theorem nd_Model_plan_250 : decode nC_Model_plan 250 = .ok (.aload_n 0, 1) := by decide +kernel
theorem nd_Model_plan_251 : decode nC_Model_plan 251 = .ok (.getfield 16, 3) := by decide +kernel
theorem nd_Model_plan_254 : decode nC_Model_plan 254 = .ok (.iload 11, 2) := by decide +kernel
theorem nd_Model_plan_256 : decode nC_Model_plan 256 = .ok (.aload_n 0, 1) := by decide +kernel
theorem nd_Model_plan_257 : decode nC_Model_plan 257 = .ok (.getfield 20, 3) := by decide +kernel
theorem nd_Model_plan_260 : decode nC_Model_plan 260 = .ok (.iload 11, 2) := by decide +kernel
theorem nd_Model_plan_262 : decode nC_Model_plan 262 = .ok (.laload, 1) := by decide +kernel
theorem nd_Model_plan_263 : decode nC_Model_plan 263 = .ok (.lastore, 1) := by decide +kernel
theorem nd_Model_plan_264 : decode nC_Model_plan 264 = .ok (.iinc 11 1, 3) := by decide +kernel
theorem nd_Model_plan_267 : decode nC_Model_plan 267 = .ok (.goto (-24), 3) := by decide +kernel
theorem nd_Model_plan_270 : decode nC_Model_plan 270 = .ok (.iconst 0, 1) := by decide +kernel
theorem nd_Model_plan_271 : decode nC_Model_plan 271 = .ok (.istore 11, 2) := by decide +kernel
theorem nd_Model_plan_273 : decode nC_Model_plan 273 = .ok (.iload 11, 2) := by decide +kernel
theorem nd_Model_plan_275 : decode nC_Model_plan 275 = .ok (.bipush 10, 2) := by decide +kernel
theorem nd_Model_plan_277 : decode nC_Model_plan 277 = .ok (.if_icmp .ge 23, 3) := by decide +kernel
theorem nd_Model_plan_280 : decode nC_Model_plan 280 = .ok (.aload_n 0, 1) := by decide +kernel
theorem nd_Model_plan_281 : decode nC_Model_plan 281 = .ok (.getfield 23, 3) := by decide +kernel
theorem nd_Model_plan_284 : decode nC_Model_plan 284 = .ok (.iload 11, 2) := by decide +kernel
theorem nd_Model_plan_286 : decode nC_Model_plan 286 = .ok (.aload_n 0, 1) := by decide +kernel
theorem nd_Model_plan_287 : decode nC_Model_plan 287 = .ok (.getfield 26, 3) := by decide +kernel
theorem nd_Model_plan_290 : decode nC_Model_plan 290 = .ok (.iload 11, 2) := by decide +kernel
theorem nd_Model_plan_292 : decode nC_Model_plan 292 = .ok (.laload, 1) := by decide +kernel
theorem nd_Model_plan_293 : decode nC_Model_plan 293 = .ok (.lastore, 1) := by decide +kernel
theorem nd_Model_plan_294 : decode nC_Model_plan 294 = .ok (.iinc 11 1, 3) := by decide +kernel
theorem nd_Model_plan_297 : decode nC_Model_plan 297 = .ok (.goto (-24), 3) := by decide +kernel
theorem nd_Model_plan_300 : decode nC_Model_plan 300 = .ok (.aload_n 0, 1) := by decide +kernel
theorem nd_Model_plan_301 : decode nC_Model_plan 301 = .ok (.getfield 42, 3) := by decide +kernel
theorem nd_Model_plan_304 : decode nC_Model_plan 304 = .ok (.iconst 0, 1) := by decide +kernel
theorem nd_Model_plan_305 : decode nC_Model_plan 305 = .ok (.iload 4, 2) := by decide +kernel
theorem nd_Model_plan_307 : decode nC_Model_plan 307 = .ok (.bastore, 1) := by decide +kernel
theorem nd_Model_plan_308 : decode nC_Model_plan 308 = .ok (.aload_n 0, 1) := by decide +kernel
theorem nd_Model_plan_309 : decode nC_Model_plan 309 = .ok (.getfield 46, 3) := by decide +kernel
theorem nd_Model_plan_312 : decode nC_Model_plan 312 = .ok (.iconst 0, 1) := by decide +kernel
theorem nd_Model_plan_313 : decode nC_Model_plan 313 = .ok (.iload 5, 2) := by decide +kernel
theorem nd_Model_plan_315 : decode nC_Model_plan 315 = .ok (.iastore, 1) := by decide +kernel
theorem nd_Model_plan_316 : decode nC_Model_plan 316 = .ok (.aload_n 0, 1) := by decide +kernel
theorem nd_Model_plan_317 : decode nC_Model_plan 317 = .ok (.getfield 49, 3) := by decide +kernel
theorem nd_Model_plan_320 : decode nC_Model_plan 320 = .ok (.iconst 0, 1) := by decide +kernel
theorem nd_Model_plan_321 : decode nC_Model_plan 321 = .ok (.iload 6, 2) := by decide +kernel
theorem nd_Model_plan_323 : decode nC_Model_plan 323 = .ok (.iastore, 1) := by decide +kernel
theorem nd_Model_plan_324 : decode nC_Model_plan 324 = .ok (.aload_n 0, 1) := by decide +kernel
theorem nd_Model_plan_325 : decode nC_Model_plan 325 = .ok (.getfield 52, 3) := by decide +kernel
theorem nd_Model_plan_328 : decode nC_Model_plan 328 = .ok (.iconst 0, 1) := by decide +kernel
theorem nd_Model_plan_329 : decode nC_Model_plan 329 = .ok (.iload 7, 2) := by decide +kernel
theorem nd_Model_plan_331 : decode nC_Model_plan 331 = .ok (.iastore, 1) := by decide +kernel
theorem nd_Model_plan_332 : decode nC_Model_plan 332 = .ok (.iload 8, 2) := by decide +kernel
theorem nd_Model_plan_334 : decode nC_Model_plan 334 = .ok (.ireturn, 1) := by decide +kernel
theorem nd_Model_count_0 : decode nC_Model_count 0 = .ok (.aload_n 0, 1) := by decide +kernel
theorem nd_Model_count_1 : decode nC_Model_count 1 = .ok (.iload_n 1, 1) := by decide +kernel
theorem nd_Model_count_2 : decode nC_Model_count 2 = .ok (.iconst 0, 1) := by decide +kernel
theorem nd_Model_count_3 : decode nC_Model_count 3 = .ok (.iconst 4, 1) := by decide +kernel
theorem nd_Model_count_4 : decode nC_Model_count 4 = .ok (.invokestatic 99, 3) := by decide +kernel
theorem nd_Model_count_7 : decode nC_Model_count 7 = .ok (.iconst 1, 1) := by decide +kernel
theorem nd_Model_count_8 : decode nC_Model_count 8 = .ok (.iconst 1, 1) := by decide +kernel
theorem nd_Model_count_9 : decode nC_Model_count 9 = .ok (.invokevirtual 103, 3) := by decide +kernel
