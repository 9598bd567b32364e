theorem nd_Model_count_12 : decode nC_Model_count 12 = .ok (.ifCond .ne 5, 3) := by decide +kernel
theorem nd_Model_count_15 : decode nC_Model_count 15 = .ok (.iconst 0, 1) := by decide +kernel
theorem nd_Model_count_16 : decode nC_Model_count 16 = .ok (.ireturn, 1) := by decide +kernel
theorem nd_Model_count_17 : decode nC_Model_count 17 = .ok (.iconst 0, 1) := by decide +kernel
theorem nd_Model_count_18 : decode nC_Model_count 18 = .ok (.istore_n 2, 1) := by decide +kernel
theorem nd_Model_count_19 : decode nC_Model_count 19 = .ok (.iconst 0, 1) := by decide +kernel
theorem nd_Model_count_20 : decode nC_Model_count 20 = .ok (.istore_n 3, 1) := by decide +kernel
theorem nd_Model_count_21 : decode nC_Model_count 21 = .ok (.iload_n 3, 1) := by decide +kernel
theorem nd_Model_count_22 : decode nC_Model_count 22 = .ok (.aload_n 0, 1) := by decide +kernel
theorem nd_Model_count_23 : decode nC_Model_count 23 = .ok (.getfield 172, 3) := by decide +kernel
theorem nd_Model_count_26 : decode nC_Model_count 26 = .ok (.if_icmp .ge 26, 3) := by decide +kernel
theorem nd_Model_count_29 : decode nC_Model_count 29 = .ok (.aload_n 0, 1) := by decide +kernel
theorem nd_Model_count_30 : decode nC_Model_count 30 = .ok (.getfield 85, 3) := by decide +kernel
theorem nd_Model_count_33 : decode nC_Model_count 33 = .ok (.iload_n 3, 1) := by decide +kernel
theorem nd_Model_count_34 : decode nC_Model_count 34 = .ok (.baload, 1) := by decide +kernel
theorem nd_Model_count_35 : decode nC_Model_count 35 = .ok (.ifCond .eq 9, 3) := by decide +kernel
theorem nd_Model_count_38 : decode nC_Model_count 38 = .ok (.iload_n 2, 1) := by decide +kernel
theorem nd_Model_count_39 : decode nC_Model_count 39 = .ok (.iconst 1, 1) := by decide +kernel
theorem nd_Model_count_40 : decode nC_Model_count 40 = .ok (.iadd, 1) := by decide +kernel
theorem nd_Model_count_41 : decode nC_Model_count 41 = .ok (.goto 4, 3) := by decide +kernel
theorem nd_Model_count_44 : decode nC_Model_count 44 = .ok (.iload_n 2, 1) := by decide +kernel
theorem nd_Model_count_45 : decode nC_Model_count 45 = .ok (.istore_n 2, 1) := by decide +kernel
theorem nd_Model_count_46 : decode nC_Model_count 46 = .ok (.iinc 3 1, 3) := by decide +kernel
theorem nd_Model_count_49 : decode nC_Model_count 49 = .ok (.goto (-28), 3) := by decide +kernel
theorem nd_Model_count_52 : decode nC_Model_count 52 = .ok (.iload_n 1, 1) := by decide +kernel
theorem nd_Model_count_53 : decode nC_Model_count 53 = .ok (.ifCond .ne 10, 3) := by decide +kernel
theorem nd_Model_count_56 : decode nC_Model_count 56 = .ok (.aload_n 0, 1) := by decide +kernel
theorem nd_Model_count_57 : decode nC_Model_count 57 = .ok (.getfield 172, 3) := by decide +kernel
theorem nd_Model_count_60 : decode nC_Model_count 60 = .ok (.goto 40, 3) := by decide +kernel
theorem nd_Model_count_63 : decode nC_Model_count 63 = .ok (.iload_n 1, 1) := by decide +kernel
theorem nd_Model_count_64 : decode nC_Model_count 64 = .ok (.iconst 1, 1) := by decide +kernel
theorem nd_Model_count_65 : decode nC_Model_count 65 = .ok (.if_icmp .ne 10, 3) := by decide +kernel
theorem nd_Model_count_68 : decode nC_Model_count 68 = .ok (.aload_n 0, 1) := by decide +kernel
theorem nd_Model_count_69 : decode nC_Model_count 69 = .ok (.getfield 107, 3) := by decide +kernel
theorem nd_Model_count_72 : decode nC_Model_count 72 = .ok (.goto 28, 3) := by decide +kernel
theorem nd_Model_count_75 : decode nC_Model_count 75 = .ok (.iload_n 1, 1) := by decide +kernel
theorem nd_Model_count_76 : decode nC_Model_count 76 = .ok (.iconst 2, 1) := by decide +kernel
theorem nd_Model_count_77 : decode nC_Model_count 77 = .ok (.if_icmp .ne 10, 3) := by decide +kernel
theorem nd_Model_count_80 : decode nC_Model_count 80 = .ok (.aload_n 0, 1) := by decide +kernel
theorem nd_Model_count_81 : decode nC_Model_count 81 = .ok (.getfield 115, 3) := by decide +kernel
theorem nd_Model_count_84 : decode nC_Model_count 84 = .ok (.goto 16, 3) := by decide +kernel
theorem nd_Model_count_87 : decode nC_Model_count 87 = .ok (.iload_n 1, 1) := by decide +kernel
theorem nd_Model_count_88 : decode nC_Model_count 88 = .ok (.iconst 3, 1) := by decide +kernel
theorem nd_Model_count_89 : decode nC_Model_count 89 = .ok (.if_icmp .ne 10, 3) := by decide +kernel
theorem nd_Model_count_92 : decode nC_Model_count 92 = .ok (.aload_n 0, 1) := by decide +kernel
theorem nd_Model_count_93 : decode nC_Model_count 93 = .ok (.getfield 169, 3) := by decide +kernel
theorem nd_Model_count_96 : decode nC_Model_count 96 = .ok (.goto 4, 3) := by decide +kernel
theorem nd_Model_count_99 : decode nC_Model_count 99 = .ok (.iload_n 2, 1) := by decide +kernel
theorem nd_Model_count_100 : decode nC_Model_count 100 = .ok (.ireturn, 1) := by decide +kernel
