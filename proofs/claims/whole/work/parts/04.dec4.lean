theorem nd_Model_walls_70 : decode nC_Model_walls 70 = .ok (.getfield 16, 3) := by decide +kernel
theorem nd_Model_walls_73 : decode nC_Model_walls 73 = .ok (.iconst 2, 1) := by decide +kernel
theorem nd_Model_walls_74 : decode nC_Model_walls 74 = .ok (.iload_n 2, 1) := by decide +kernel
theorem nd_Model_walls_75 : decode nC_Model_walls 75 = .ok (.iadd, 1) := by decide +kernel
theorem nd_Model_walls_76 : decode nC_Model_walls 76 = .ok (.aload_n 0, 1) := by decide +kernel
theorem nd_Model_walls_77 : decode nC_Model_walls 77 = .ok (.getfield 16, 3) := by decide +kernel
theorem nd_Model_walls_80 : decode nC_Model_walls 80 = .ok (.iconst 2, 1) := by decide +kernel
theorem nd_Model_walls_81 : decode nC_Model_walls 81 = .ok (.iload_n 2, 1) := by decide +kernel
theorem nd_Model_walls_82 : decode nC_Model_walls 82 = .ok (.iadd, 1) := by decide +kernel
theorem nd_Model_walls_83 : decode nC_Model_walls 83 = .ok (.laload, 1) := by decide +kernel
theorem nd_Model_walls_84 : decode nC_Model_walls 84 = .ok (.lload 5, 2) := by decide +kernel
theorem nd_Model_walls_86 : decode nC_Model_walls 86 = .ok (.lsub, 1) := by decide +kernel
theorem nd_Model_walls_87 : decode nC_Model_walls 87 = .ok (.lastore, 1) := by decide +kernel
theorem nd_Model_walls_88 : decode nC_Model_walls 88 = .ok (.aload_n 0, 1) := by decide +kernel
theorem nd_Model_walls_89 : decode nC_Model_walls 89 = .ok (.getfield 16, 3) := by decide +kernel
theorem nd_Model_walls_92 : decode nC_Model_walls 92 = .ok (.iconst 3, 1) := by decide +kernel
theorem nd_Model_walls_93 : decode nC_Model_walls 93 = .ok (.iload_n 2, 1) := by decide +kernel
theorem nd_Model_walls_94 : decode nC_Model_walls 94 = .ok (.iadd, 1) := by decide +kernel
theorem nd_Model_walls_95 : decode nC_Model_walls 95 = .ok (.aload_n 0, 1) := by decide +kernel
theorem nd_Model_walls_96 : decode nC_Model_walls 96 = .ok (.getfield 16, 3) := by decide +kernel
theorem nd_Model_walls_99 : decode nC_Model_walls 99 = .ok (.iconst 3, 1) := by decide +kernel
theorem nd_Model_walls_100 : decode nC_Model_walls 100 = .ok (.iload_n 2, 1) := by decide +kernel
theorem nd_Model_walls_101 : decode nC_Model_walls 101 = .ok (.iadd, 1) := by decide +kernel
theorem nd_Model_walls_102 : decode nC_Model_walls 102 = .ok (.laload, 1) := by decide +kernel
theorem nd_Model_walls_103 : decode nC_Model_walls 103 = .ok (.lload 5, 2) := by decide +kernel
theorem nd_Model_walls_105 : decode nC_Model_walls 105 = .ok (.ladd, 1) := by decide +kernel
theorem nd_Model_walls_106 : decode nC_Model_walls 106 = .ok (.lastore, 1) := by decide +kernel
theorem nd_Model_walls_107 : decode nC_Model_walls 107 = .ok (.iinc 2 1, 3) := by decide +kernel
theorem nd_Model_walls_110 : decode nC_Model_walls 110 = .ok (.goto (-108), 3) := by decide +kernel
theorem nd_Model_walls_113 : decode nC_Model_walls 113 = .ok (.aload_n 0, 1) := by decide +kernel
theorem nd_Model_walls_114 : decode nC_Model_walls 114 = .ok (.getfield 107, 3) := by decide +kernel
theorem nd_Model_walls_117 : decode nC_Model_walls 117 = .ok (.ifCond .le 49, 3) := by decide +kernel
theorem nd_Model_walls_120 : decode nC_Model_walls 120 = .ok (.aload_n 0, 1) := by decide +kernel
theorem nd_Model_walls_121 : decode nC_Model_walls 121 = .ok (.getfield 107, 3) := by decide +kernel
theorem nd_Model_walls_124 : decode nC_Model_walls 124 = .ok (.iconst 1, 1) := by decide +kernel
theorem nd_Model_walls_125 : decode nC_Model_walls 125 = .ok (.isub, 1) := by decide +kernel
theorem nd_Model_walls_126 : decode nC_Model_walls 126 = .ok (.istore_n 2, 1) := by decide +kernel
theorem nd_Model_walls_127 : decode nC_Model_walls 127 = .ok (.aload_n 0, 1) := by decide +kernel
theorem nd_Model_walls_128 : decode nC_Model_walls 128 = .ok (.getfield 16, 3) := by decide +kernel
theorem nd_Model_walls_131 : decode nC_Model_walls 131 = .ok (.iconst 3, 1) := by decide +kernel
theorem nd_Model_walls_132 : decode nC_Model_walls 132 = .ok (.iload_n 2, 1) := by decide +kernel
theorem nd_Model_walls_133 : decode nC_Model_walls 133 = .ok (.iadd, 1) := by decide +kernel
theorem nd_Model_walls_134 : decode nC_Model_walls 134 = .ok (.aload_n 0, 1) := by decide +kernel
theorem nd_Model_walls_135 : decode nC_Model_walls 135 = .ok (.getfield 16, 3) := by decide +kernel
theorem nd_Model_walls_138 : decode nC_Model_walls 138 = .ok (.iconst 3, 1) := by decide +kernel
theorem nd_Model_walls_139 : decode nC_Model_walls 139 = .ok (.iload_n 2, 1) := by decide +kernel
theorem nd_Model_walls_140 : decode nC_Model_walls 140 = .ok (.iadd, 1) := by decide +kernel
theorem nd_Model_walls_141 : decode nC_Model_walls 141 = .ok (.laload, 1) := by decide +kernel
theorem nd_Model_walls_142 : decode nC_Model_walls 142 = .ok (.aload_n 0, 1) := by decide +kernel
theorem nd_Model_walls_143 : decode nC_Model_walls 143 = .ok (.getfield 29, 3) := by decide +kernel
theorem nd_Model_walls_146 : decode nC_Model_walls 146 = .ok (.iload_n 2, 1) := by decide +kernel
theorem nd_Model_walls_147 : decode nC_Model_walls 147 = .ok (.iaload, 1) := by decide +kernel
theorem nd_Model_walls_148 : decode nC_Model_walls 148 = .ok (.i2l, 1) := by decide +kernel
theorem nd_Model_walls_149 : decode nC_Model_walls 149 = .ok (.iload_n 1, 1) := by decide +kernel
theorem nd_Model_walls_150 : decode nC_Model_walls 150 = .ok (.i2l, 1) := by decide +kernel
theorem nd_Model_walls_151 : decode nC_Model_walls 151 = .ok (.aload_n 0, 1) := by decide +kernel
theorem nd_Model_walls_152 : decode nC_Model_walls 152 = .ok (.iload_n 2, 1) := by decide +kernel
theorem nd_Model_walls_153 : decode nC_Model_walls 153 = .ok (.invokevirtual 142, 3) := by decide +kernel
theorem nd_Model_walls_156 : decode nC_Model_walls 156 = .ok (.lsub, 1) := by decide +kernel
theorem nd_Model_walls_157 : decode nC_Model_walls 157 = .ok (.lmul, 1) := by decide +kernel
theorem nd_Model_walls_158 : decode nC_Model_walls 158 = .ok (.ldc2_w 146, 3) := by decide +kernel
theorem nd_Model_walls_161 : decode nC_Model_walls 161 = .ok (.invokestatic 125, 3) := by decide +kernel
theorem nd_Model_walls_164 : decode nC_Model_walls 164 = .ok (.ladd, 1) := by decide +kernel
theorem nd_Model_walls_165 : decode nC_Model_walls 165 = .ok (.lastore, 1) := by decide +kernel
theorem nd_Model_walls_166 : decode nC_Model_walls 166 = .ok (.return_, 1) := by decide +kernel
theorem nd_Model_due_0 : decode nC_Model_due 0 = .ok (.aload_n 0, 1) := by decide +kernel
theorem nd_Model_due_1 : decode nC_Model_due 1 = .ok (.invokevirtual 135, 3) := by decide +kernel
theorem nd_Model_due_4 : decode nC_Model_due 4 = .ok (.lstore_n 1, 1) := by decide +kernel
theorem nd_Model_due_5 : decode nC_Model_due 5 = .ok (.iconst 0, 1) := by decide +kernel
theorem nd_Model_due_6 : decode nC_Model_due 6 = .ok (.istore_n 3, 1) := by decide +kernel
theorem nd_Model_due_7 : decode nC_Model_due 7 = .ok (.iload_n 3, 1) := by decide +kernel
theorem nd_Model_due_8 : decode nC_Model_due 8 = .ok (.aload_n 0, 1) := by decide +kernel
theorem nd_Model_due_9 : decode nC_Model_due 9 = .ok (.getfield 115, 3) := by decide +kernel
theorem nd_Model_due_12 : decode nC_Model_due 12 = .ok (.iconst 1, 1) := by decide +kernel
theorem nd_Model_due_13 : decode nC_Model_due 13 = .ok (.isub, 1) := by decide +kernel
theorem nd_Model_due_14 : decode nC_Model_due 14 = .ok (.if_icmp .ge 21, 3) := by decide +kernel
theorem nd_Model_due_17 : decode nC_Model_due 17 = .ok (.aload_n 0, 1) := by decide +kernel
theorem nd_Model_due_18 : decode nC_Model_due 18 = .ok (.getfield 36, 3) := by decide +kernel
theorem nd_Model_due_21 : decode nC_Model_due 21 = .ok (.iload_n 3, 1) := by decide +kernel
theorem nd_Model_due_22 : decode nC_Model_due 22 = .ok (.iaload, 1) := by decide +kernel
theorem nd_Model_due_23 : decode nC_Model_due 23 = .ok (.i2l, 1) := by decide +kernel
theorem nd_Model_due_24 : decode nC_Model_due 24 = .ok (.lload_n 1, 1) := by decide +kernel
theorem nd_Model_due_25 : decode nC_Model_due 25 = .ok (.lcmp, 1) := by decide +kernel
theorem nd_Model_due_26 : decode nC_Model_due 26 = .ok (.ifCond .ge 9, 3) := by decide +kernel
theorem nd_Model_due_29 : decode nC_Model_due 29 = .ok (.iinc 3 1, 3) := by decide +kernel
theorem nd_Model_due_32 : decode nC_Model_due 32 = .ok (.goto (-25), 3) := by decide +kernel
theorem nd_Model_due_35 : decode nC_Model_due 35 = .ok (.aload_n 0, 1) := by decide +kernel
theorem nd_Model_due_36 : decode nC_Model_due 36 = .ok (.getfield 115, 3) := by decide +kernel
theorem nd_Model_due_39 : decode nC_Model_due 39 = .ok (.ifCond .ne 7, 3) := by decide +kernel
theorem nd_Model_due_42 : decode nC_Model_due 42 = .ok (.lconst 0, 1) := by decide +kernel
theorem nd_Model_due_43 : decode nC_Model_due 43 = .ok (.goto 16, 3) := by decide +kernel
theorem nd_Model_due_46 : decode nC_Model_due 46 = .ok (.aload_n 0, 1) := by decide +kernel
theorem nd_Model_due_47 : decode nC_Model_due 47 = .ok (.getfield 112, 3) := by decide +kernel
theorem nd_Model_due_50 : decode nC_Model_due 50 = .ok (.i2l, 1) := by decide +kernel
theorem nd_Model_due_51 : decode nC_Model_due 51 = .ok (.aload_n 0, 1) := by decide +kernel
theorem nd_Model_due_52 : decode nC_Model_due 52 = .ok (.getfield 39, 3) := by decide +kernel
theorem nd_Model_due_55 : decode nC_Model_due 55 = .ok (.iload_n 3, 1) := by decide +kernel
theorem nd_Model_due_56 : decode nC_Model_due 56 = .ok (.iaload, 1) := by decide +kernel
theorem nd_Model_due_57 : decode nC_Model_due 57 = .ok (.i2l, 1) := by decide +kernel
theorem nd_Model_due_58 : decode nC_Model_due 58 = .ok (.lmul, 1) := by decide +kernel
theorem nd_Model_due_59 : decode nC_Model_due 59 = .ok (.lreturn, 1) := by decide +kernel
theorem nd_Model_goodsTake_0 : decode nC_Model_goodsTake 0 = .ok (.aload_n 0, 1) := by decide +kernel
theorem nd_Model_goodsTake_1 : decode nC_Model_goodsTake 1 = .ok (.invokevirtual 148, 3) := by decide +kernel
theorem nd_Model_goodsTake_4 : decode nC_Model_goodsTake 4 = .ok (.aload_n 0, 1) := by decide +kernel
theorem nd_Model_goodsTake_5 : decode nC_Model_goodsTake 5 = .ok (.getfield 16, 3) := by decide +kernel
theorem nd_Model_goodsTake_8 : decode nC_Model_goodsTake 8 = .ok (.iconst 2, 1) := by decide +kernel
theorem nd_Model_goodsTake_9 : decode nC_Model_goodsTake 9 = .ok (.laload, 1) := by decide +kernel
theorem nd_Model_goodsTake_10 : decode nC_Model_goodsTake 10 = .ok (.lsub, 1) := by decide +kernel
theorem nd_Model_goodsTake_11 : decode nC_Model_goodsTake 11 = .ok (.ldc2_w 151, 3) := by decide +kernel
theorem nd_Model_goodsTake_14 : decode nC_Model_goodsTake 14 = .ok (.invokestatic 125, 3) := by decide +kernel
theorem nd_Model_goodsTake_17 : decode nC_Model_goodsTake 17 = .ok (.lstore_n 1, 1) := by decide +kernel
theorem nd_Model_goodsTake_18 : decode nC_Model_goodsTake 18 = .ok (.lload_n 1, 1) := by decide +kernel
theorem nd_Model_goodsTake_19 : decode nC_Model_goodsTake 19 = .ok (.aload_n 0, 1) := by decide +kernel
theorem nd_Model_goodsTake_20 : decode nC_Model_goodsTake 20 = .ok (.getfield 16, 3) := by decide +kernel
theorem nd_Model_goodsTake_23 : decode nC_Model_goodsTake 23 = .ok (.iconst 1, 1) := by decide +kernel
theorem nd_Model_goodsTake_24 : decode nC_Model_goodsTake 24 = .ok (.laload, 1) := by decide +kernel
theorem nd_Model_goodsTake_25 : decode nC_Model_goodsTake 25 = .ok (.lcmp, 1) := by decide +kernel
theorem nd_Model_goodsTake_26 : decode nC_Model_goodsTake 26 = .ok (.ifCond .le 12, 3) := by decide +kernel
theorem nd_Model_goodsTake_29 : decode nC_Model_goodsTake 29 = .ok (.aload_n 0, 1) := by decide +kernel
theorem nd_Model_goodsTake_30 : decode nC_Model_goodsTake 30 = .ok (.getfield 16, 3) := by decide +kernel
theorem nd_Model_goodsTake_33 : decode nC_Model_goodsTake 33 = .ok (.iconst 1, 1) := by decide +kernel
theorem nd_Model_goodsTake_34 : decode nC_Model_goodsTake 34 = .ok (.laload, 1) := by decide +kernel
theorem nd_Model_goodsTake_35 : decode nC_Model_goodsTake 35 = .ok (.goto 4, 3) := by decide +kernel
theorem nd_Model_goodsTake_38 : decode nC_Model_goodsTake 38 = .ok (.lload_n 1, 1) := by decide +kernel
theorem nd_Model_goodsTake_39 : decode nC_Model_goodsTake 39 = .ok (.lstore_n 1, 1) := by decide +kernel
theorem nd_Model_goodsTake_40 : decode nC_Model_goodsTake 40 = .ok (.aload_n 0, 1) := by decide +kernel
theorem nd_Model_goodsTake_41 : decode nC_Model_goodsTake 41 = .ok (.getfield 16, 3) := by decide +kernel
theorem nd_Model_goodsTake_44 : decode nC_Model_goodsTake 44 = .ok (.iconst 2, 1) := by decide +kernel
theorem nd_Model_goodsTake_45 : decode nC_Model_goodsTake 45 = .ok (.aload_n 0, 1) := by decide +kernel
theorem nd_Model_goodsTake_46 : decode nC_Model_goodsTake 46 = .ok (.getfield 16, 3) := by decide +kernel
theorem nd_Model_goodsTake_49 : decode nC_Model_goodsTake 49 = .ok (.iconst 2, 1) := by decide +kernel
theorem nd_Model_goodsTake_50 : decode nC_Model_goodsTake 50 = .ok (.laload, 1) := by decide +kernel
theorem nd_Model_goodsTake_51 : decode nC_Model_goodsTake 51 = .ok (.lload_n 1, 1) := by decide +kernel
theorem nd_Model_goodsTake_52 : decode nC_Model_goodsTake 52 = .ok (.ladd, 1) := by decide +kernel
theorem nd_Model_goodsTake_53 : decode nC_Model_goodsTake 53 = .ok (.lastore, 1) := by decide +kernel
theorem nd_Model_goodsTake_54 : decode nC_Model_goodsTake 54 = .ok (.aload_n 0, 1) := by decide +kernel
theorem nd_Model_goodsTake_55 : decode nC_Model_goodsTake 55 = .ok (.iconst 2, 1) := by decide +kernel
theorem nd_Model_goodsTake_56 : decode nC_Model_goodsTake 56 = .ok (.lconst 0, 1) := by decide +kernel
theorem nd_Model_goodsTake_57 : decode nC_Model_goodsTake 57 = .ok (.lconst 0, 1) := by decide +kernel
theorem nd_Model_goodsTake_58 : decode nC_Model_goodsTake 58 = .ok (.lload_n 1, 1) := by decide +kernel
theorem nd_Model_goodsTake_59 : decode nC_Model_goodsTake 59 = .ok (.lsub, 1) := by decide +kernel
theorem nd_Model_goodsTake_60 : decode nC_Model_goodsTake 60 = .ok (.invokevirtual 138, 3) := by decide +kernel
theorem nd_Model_goodsTake_63 : decode nC_Model_goodsTake 63 = .ok (.return_, 1) := by decide +kernel
theorem nd_Model_works_0 : decode nC_Model_works 0 = .ok (.iload_n 1, 1) := by decide +kernel
theorem nd_Model_works_1 : decode nC_Model_works 1 = .ok (.iconst 2, 1) := by decide +kernel
theorem nd_Model_works_2 : decode nC_Model_works 2 = .ok (.if_icmp .ge 10, 3) := by decide +kernel
theorem nd_Model_works_5 : decode nC_Model_works 5 = .ok (.aload_n 0, 1) := by decide +kernel
theorem nd_Model_works_6 : decode nC_Model_works 6 = .ok (.invokevirtual 129, 3) := by decide +kernel
theorem nd_Model_works_9 : decode nC_Model_works 9 = .ok (.goto 7, 3) := by decide +kernel
theorem nd_Model_works_12 : decode nC_Model_works 12 = .ok (.aload_n 0, 1) := by decide +kernel
theorem nd_Model_works_13 : decode nC_Model_works 13 = .ok (.invokevirtual 135, 3) := by decide +kernel
theorem nd_Model_works_16 : decode nC_Model_works 16 = .ok (.lstore_n 2, 1) := by decide +kernel
theorem nd_Model_works_17 : decode nC_Model_works 17 = .ok (.iload_n 1, 1) := by decide +kernel
theorem nd_Model_works_18 : decode nC_Model_works 18 = .ok (.ifCond .eq 8, 3) := by decide +kernel
theorem nd_Model_works_21 : decode nC_Model_works 21 = .ok (.iload_n 1, 1) := by decide +kernel
theorem nd_Model_works_22 : decode nC_Model_works 22 = .ok (.iconst 2, 1) := by decide +kernel
theorem nd_Model_works_23 : decode nC_Model_works 23 = .ok (.if_icmp .ne 7, 3) := by decide +kernel
theorem nd_Model_works_26 : decode nC_Model_works 26 = .ok (.iconst 1, 1) := by decide +kernel
theorem nd_Model_works_27 : decode nC_Model_works 27 = .ok (.goto 4, 3) := by decide +kernel
theorem nd_Model_works_30 : decode nC_Model_works 30 = .ok (.iconst 0, 1) := by decide +kernel
theorem nd_Model_works_31 : decode nC_Model_works 31 = .ok (.istore 4, 2) := by decide +kernel
theorem nd_Model_works_33 : decode nC_Model_works 33 = .ok (.iload 4, 2) := by decide +kernel
theorem nd_Model_works_35 : decode nC_Model_works 35 = .ok (.ifCond .eq 23, 3) := by decide +kernel
theorem nd_Model_works_38 : decode nC_Model_works 38 = .ok (.lload_n 2, 1) := by decide +kernel
theorem nd_Model_works_39 : decode nC_Model_works 39 = .ok (.aload_n 0, 1) := by decide +kernel
theorem nd_Model_works_40 : decode nC_Model_works 40 = .ok (.getfield 46, 3) := by decide +kernel
theorem nd_Model_works_43 : decode nC_Model_works 43 = .ok (.iload_n 1, 1) := by decide +kernel
theorem nd_Model_works_44 : decode nC_Model_works 44 = .ok (.iaload, 1) := by decide +kernel
theorem nd_Model_works_45 : decode nC_Model_works 45 = .ok (.i2l, 1) := by decide +kernel
theorem nd_Model_works_46 : decode nC_Model_works 46 = .ok (.lcmp, 1) := by decide +kernel
theorem nd_Model_works_47 : decode nC_Model_works 47 = .ok (.ifCond .ge 7, 3) := by decide +kernel
theorem nd_Model_works_50 : decode nC_Model_works 50 = .ok (.iconst 1, 1) := by decide +kernel
theorem nd_Model_works_51 : decode nC_Model_works 51 = .ok (.goto 24, 3) := by decide +kernel
theorem nd_Model_works_54 : decode nC_Model_works 54 = .ok (.iconst 0, 1) := by decide +kernel
theorem nd_Model_works_55 : decode nC_Model_works 55 = .ok (.goto 20, 3) := by decide +kernel
theorem nd_Model_works_58 : decode nC_Model_works 58 = .ok (.lload_n 2, 1) := by decide +kernel
theorem nd_Model_works_59 : decode nC_Model_works 59 = .ok (.aload_n 0, 1) := by decide +kernel
theorem nd_Model_works_60 : decode nC_Model_works 60 = .ok (.getfield 49, 3) := by decide +kernel
theorem nd_Model_works_63 : decode nC_Model_works 63 = .ok (.iload_n 1, 1) := by decide +kernel
theorem nd_Model_works_64 : decode nC_Model_works 64 = .ok (.iaload, 1) := by decide +kernel
theorem nd_Model_works_65 : decode nC_Model_works 65 = .ok (.i2l, 1) := by decide +kernel
theorem nd_Model_works_66 : decode nC_Model_works 66 = .ok (.lcmp, 1) := by decide +kernel
theorem nd_Model_works_67 : decode nC_Model_works 67 = .ok (.ifCond .le 7, 3) := by decide +kernel
theorem nd_Model_works_70 : decode nC_Model_works 70 = .ok (.iconst 1, 1) := by decide +kernel
theorem nd_Model_works_71 : decode nC_Model_works 71 = .ok (.goto 4, 3) := by decide +kernel
theorem nd_Model_works_74 : decode nC_Model_works 74 = .ok (.iconst 0, 1) := by decide +kernel
theorem nd_Model_works_75 : decode nC_Model_works 75 = .ok (.istore 5, 2) := by decide +kernel
theorem nd_Model_works_77 : decode nC_Model_works 77 = .ok (.iload 4, 2) := by decide +kernel
theorem nd_Model_works_79 : decode nC_Model_works 79 = .ok (.ifCond .eq 23, 3) := by decide +kernel
theorem nd_Model_works_82 : decode nC_Model_works 82 = .ok (.lload_n 2, 1) := by decide +kernel
theorem nd_Model_works_83 : decode nC_Model_works 83 = .ok (.aload_n 0, 1) := by decide +kernel
theorem nd_Model_works_84 : decode nC_Model_works 84 = .ok (.getfield 49, 3) := by decide +kernel
theorem nd_Model_works_87 : decode nC_Model_works 87 = .ok (.iload_n 1, 1) := by decide +kernel
theorem nd_Model_works_88 : decode nC_Model_works 88 = .ok (.iaload, 1) := by decide +kernel
theorem nd_Model_works_89 : decode nC_Model_works 89 = .ok (.i2l, 1) := by decide +kernel
theorem nd_Model_works_90 : decode nC_Model_works 90 = .ok (.lcmp, 1) := by decide +kernel
theorem nd_Model_works_91 : decode nC_Model_works 91 = .ok (.ifCond .le 7, 3) := by decide +kernel
theorem nd_Model_works_94 : decode nC_Model_works 94 = .ok (.iconst 1, 1) := by decide +kernel
theorem nd_Model_works_95 : decode nC_Model_works 95 = .ok (.goto 24, 3) := by decide +kernel
theorem nd_Model_works_98 : decode nC_Model_works 98 = .ok (.iconst 0, 1) := by decide +kernel
theorem nd_Model_works_99 : decode nC_Model_works 99 = .ok (.goto 20, 3) := by decide +kernel
theorem nd_Model_works_102 : decode nC_Model_works 102 = .ok (.lload_n 2, 1) := by decide +kernel
theorem nd_Model_works_103 : decode nC_Model_works 103 = .ok (.aload_n 0, 1) := by decide +kernel
theorem nd_Model_works_104 : decode nC_Model_works 104 = .ok (.getfield 46, 3) := by decide +kernel
theorem nd_Model_works_107 : decode nC_Model_works 107 = .ok (.iload_n 1, 1) := by decide +kernel
theorem nd_Model_works_108 : decode nC_Model_works 108 = .ok (.iaload, 1) := by decide +kernel
theorem nd_Model_works_109 : decode nC_Model_works 109 = .ok (.i2l, 1) := by decide +kernel
theorem nd_Model_works_110 : decode nC_Model_works 110 = .ok (.lcmp, 1) := by decide +kernel
theorem nd_Model_works_111 : decode nC_Model_works 111 = .ok (.ifCond .ge 7, 3) := by decide +kernel
theorem nd_Model_works_114 : decode nC_Model_works 114 = .ok (.iconst 1, 1) := by decide +kernel
theorem nd_Model_works_115 : decode nC_Model_works 115 = .ok (.goto 4, 3) := by decide +kernel
theorem nd_Model_works_118 : decode nC_Model_works 118 = .ok (.iconst 0, 1) := by decide +kernel
theorem nd_Model_works_119 : decode nC_Model_works 119 = .ok (.istore 6, 2) := by decide +kernel
theorem nd_Model_works_121 : decode nC_Model_works 121 = .ok (.aload_n 0, 1) := by decide +kernel
theorem nd_Model_works_122 : decode nC_Model_works 122 = .ok (.getfield 16, 3) := by decide +kernel
theorem nd_Model_works_125 : decode nC_Model_works 125 = .ok (.bipush 8, 2) := by decide +kernel
theorem nd_Model_works_127 : decode nC_Model_works 127 = .ok (.iload_n 1, 1) := by decide +kernel
theorem nd_Model_works_128 : decode nC_Model_works 128 = .ok (.iadd, 1) := by decide +kernel
theorem nd_Model_works_129 : decode nC_Model_works 129 = .ok (.aload_n 0, 1) := by decide +kernel
theorem nd_Model_works_130 : decode nC_Model_works 130 = .ok (.getfield 42, 3) := by decide +kernel
theorem nd_Model_works_133 : decode nC_Model_works 133 = .ok (.iload_n 1, 1) := by decide +kernel
theorem nd_Model_works_134 : decode nC_Model_works 134 = .ok (.baload, 1) := by decide +kernel
theorem nd_Model_works_135 : decode nC_Model_works 135 = .ok (.ifCond .ne 7, 3) := by decide +kernel
theorem nd_Model_works_138 : decode nC_Model_works 138 = .ok (.lconst 0, 1) := by decide +kernel
theorem nd_Model_works_139 : decode nC_Model_works 139 = .ok (.goto 30, 3) := by decide +kernel
theorem nd_Model_works_142 : decode nC_Model_works 142 = .ok (.iload 5, 2) := by decide +kernel
theorem nd_Model_works_144 : decode nC_Model_works 144 = .ok (.ifCond .eq 7, 3) := by decide +kernel
theorem nd_Model_works_147 : decode nC_Model_works 147 = .ok (.lconst 1, 1) := by decide +kernel
theorem nd_Model_works_148 : decode nC_Model_works 148 = .ok (.goto 21, 3) := by decide +kernel
theorem nd_Model_works_151 : decode nC_Model_works 151 = .ok (.iload 6, 2) := by decide +kernel
theorem nd_Model_works_153 : decode nC_Model_works 153 = .ok (.ifCond .eq 7, 3) := by decide +kernel
theorem nd_Model_works_156 : decode nC_Model_works 156 = .ok (.lconst 0, 1) := by decide +kernel
theorem nd_Model_works_157 : decode nC_Model_works 157 = .ok (.goto 12, 3) := by decide +kernel
theorem nd_Model_works_160 : decode nC_Model_works 160 = .ok (.aload_n 0, 1) := by decide +kernel
theorem nd_Model_works_161 : decode nC_Model_works 161 = .ok (.getfield 16, 3) := by decide +kernel
theorem nd_Model_works_164 : decode nC_Model_works 164 = .ok (.bipush 8, 2) := by decide +kernel
theorem nd_Model_works_166 : decode nC_Model_works 166 = .ok (.iload_n 1, 1) := by decide +kernel
theorem nd_Model_works_167 : decode nC_Model_works 167 = .ok (.iadd, 1) := by decide +kernel
theorem nd_Model_works_168 : decode nC_Model_works 168 = .ok (.laload, 1) := by decide +kernel
theorem nd_Model_works_169 : decode nC_Model_works 169 = .ok (.lastore, 1) := by decide +kernel
theorem nd_Model_works_170 : decode nC_Model_works 170 = .ok (.aload_n 0, 1) := by decide +kernel
theorem nd_Model_works_171 : decode nC_Model_works 171 = .ok (.getfield 16, 3) := by decide +kernel
theorem nd_Model_works_174 : decode nC_Model_works 174 = .ok (.bipush 8, 2) := by decide +kernel
theorem nd_Model_works_176 : decode nC_Model_works 176 = .ok (.iload_n 1, 1) := by decide +kernel
theorem nd_Model_works_177 : decode nC_Model_works 177 = .ok (.iadd, 1) := by decide +kernel
theorem nd_Model_works_178 : decode nC_Model_works 178 = .ok (.laload, 1) := by decide +kernel
theorem nd_Model_works_179 : decode nC_Model_works 179 = .ok (.aload_n 0, 1) := by decide +kernel
theorem nd_Model_works_180 : decode nC_Model_works 180 = .ok (.getfield 52, 3) := by decide +kernel
theorem nd_Model_works_183 : decode nC_Model_works 183 = .ok (.iload_n 1, 1) := by decide +kernel
theorem nd_Model_works_184 : decode nC_Model_works 184 = .ok (.iaload, 1) := by decide +kernel
theorem nd_Model_works_185 : decode nC_Model_works 185 = .ok (.i2l, 1) := by decide +kernel
theorem nd_Model_works_186 : decode nC_Model_works 186 = .ok (.lmul, 1) := by decide +kernel
theorem nd_Model_works_187 : decode nC_Model_works 187 = .ok (.lstore 7, 2) := by decide +kernel
theorem nd_Model_works_189 : decode nC_Model_works 189 = .ok (.iload_n 1, 1) := by decide +kernel
theorem nd_Model_works_190 : decode nC_Model_works 190 = .ok (.iconst 3, 1) := by decide +kernel
theorem nd_Model_works_191 : decode nC_Model_works 191 = .ok (.if_icmp .ne 24, 3) := by decide +kernel
theorem nd_Model_works_194 : decode nC_Model_works 194 = .ok (.lload 7, 2) := by decide +kernel
theorem nd_Model_works_196 : decode nC_Model_works 196 = .ok (.aload_n 0, 1) := by decide +kernel
theorem nd_Model_works_197 : decode nC_Model_works 197 = .ok (.getfield 16, 3) := by decide +kernel
theorem nd_Model_works_200 : decode nC_Model_works 200 = .ok (.iconst 1, 1) := by decide +kernel
theorem nd_Model_works_201 : decode nC_Model_works 201 = .ok (.laload, 1) := by decide +kernel
theorem nd_Model_works_202 : decode nC_Model_works 202 = .ok (.lcmp, 1) := by decide +kernel
theorem nd_Model_works_203 : decode nC_Model_works 203 = .ok (.ifCond .le 12, 3) := by decide +kernel
theorem nd_Model_works_206 : decode nC_Model_works 206 = .ok (.aload_n 0, 1) := by decide +kernel
theorem nd_Model_works_207 : decode nC_Model_works 207 = .ok (.getfield 16, 3) := by decide +kernel
theorem nd_Model_works_210 : decode nC_Model_works 210 = .ok (.iconst 1, 1) := by decide +kernel
theorem nd_Model_works_211 : decode nC_Model_works 211 = .ok (.laload, 1) := by decide +kernel
theorem nd_Model_works_212 : decode nC_Model_works 212 = .ok (.goto 5, 3) := by decide +kernel
theorem nd_Model_works_215 : decode nC_Model_works 215 = .ok (.lload 7, 2) := by decide +kernel
theorem nd_Model_works_217 : decode nC_Model_works 217 = .ok (.lreturn, 1) := by decide +kernel
theorem nd_Model_goBy_0 : decode nC_Model_goBy 0 = .ok (.aload_n 0, 1) := by decide +kernel
theorem nd_Model_goBy_1 : decode nC_Model_goBy 1 = .ok (.iload_n 1, 1) := by decide +kernel
theorem nd_Model_goBy_2 : decode nC_Model_goBy 2 = .ok (.iload_n 2, 1) := by decide +kernel
theorem nd_Model_goBy_3 : decode nC_Model_goBy 3 = .ok (.invokevirtual 153, 3) := by decide +kernel
theorem nd_Model_goBy_6 : decode nC_Model_goBy 6 = .ok (.aload_n 0, 1) := by decide +kernel
theorem nd_Model_goBy_7 : decode nC_Model_goBy 7 = .ok (.iload_n 1, 1) := by decide +kernel
theorem nd_Model_goBy_8 : decode nC_Model_goBy 8 = .ok (.invokevirtual 157, 3) := by decide +kernel
theorem nd_Model_goBy_11 : decode nC_Model_goBy 11 = .ok (.aload_n 0, 1) := by decide +kernel
theorem nd_Model_goBy_12 : decode nC_Model_goBy 12 = .ok (.invokevirtual 161, 3) := by decide +kernel
theorem nd_Model_goBy_15 : decode nC_Model_goBy 15 = .ok (.aload_n 0, 1) := by decide +kernel
theorem nd_Model_goBy_16 : decode nC_Model_goBy 16 = .ok (.iconst 3, 1) := by decide +kernel
theorem nd_Model_goBy_17 : decode nC_Model_goBy 17 = .ok (.ldc2_w 146, 3) := by decide +kernel
theorem nd_Model_goBy_20 : decode nC_Model_goBy 20 = .ok (.iload_n 3, 1) := by decide +kernel
theorem nd_Model_goBy_21 : decode nC_Model_goBy 21 = .ok (.i2l, 1) := by decide +kernel
theorem nd_Model_goBy_22 : decode nC_Model_goBy 22 = .ok (.lmul, 1) := by decide +kernel
theorem nd_Model_goBy_23 : decode nC_Model_goBy 23 = .ok (.ldc2_w 164, 3) := by decide +kernel
theorem nd_Model_goBy_26 : decode nC_Model_goBy 26 = .ok (.iload_n 3, 1) := by decide +kernel
theorem nd_Model_goBy_27 : decode nC_Model_goBy 27 = .ok (.i2l, 1) := by decide +kernel
theorem nd_Model_goBy_28 : decode nC_Model_goBy 28 = .ok (.lmul, 1) := by decide +kernel
theorem nd_Model_goBy_29 : decode nC_Model_goBy 29 = .ok (.invokevirtual 138, 3) := by decide +kernel
theorem nd_Model_goBy_32 : decode nC_Model_goBy 32 = .ok (.aload_n 0, 1) := by decide +kernel
theorem nd_Model_goBy_33 : decode nC_Model_goBy 33 = .ok (.iconst 0, 1) := by decide +kernel
theorem nd_Model_goBy_34 : decode nC_Model_goBy 34 = .ok (.invokevirtual 166, 3) := by decide +kernel
theorem nd_Model_goBy_37 : decode nC_Model_goBy 37 = .ok (.lstore 4, 2) := by decide +kernel
theorem nd_Model_goBy_39 : decode nC_Model_goBy 39 = .ok (.aload_n 0, 1) := by decide +kernel
theorem nd_Model_goBy_40 : decode nC_Model_goBy 40 = .ok (.iconst 4, 1) := by decide +kernel
theorem nd_Model_goBy_41 : decode nC_Model_goBy 41 = .ok (.lload 4, 2) := by decide +kernel
theorem nd_Model_goBy_43 : decode nC_Model_goBy 43 = .ok (.lconst 0, 1) := by decide +kernel
theorem nd_Model_goBy_44 : decode nC_Model_goBy 44 = .ok (.invokevirtual 138, 3) := by decide +kernel
theorem nd_Model_goBy_47 : decode nC_Model_goBy 47 = .ok (.aload_n 0, 1) := by decide +kernel
theorem nd_Model_goBy_48 : decode nC_Model_goBy 48 = .ok (.iconst 4, 1) := by decide +kernel
theorem nd_Model_goBy_49 : decode nC_Model_goBy 49 = .ok (.lconst 0, 1) := by decide +kernel
theorem nd_Model_goBy_50 : decode nC_Model_goBy 50 = .ok (.aload_n 0, 1) := by decide +kernel
theorem nd_Model_goBy_51 : decode nC_Model_goBy 51 = .ok (.iconst 1, 1) := by decide +kernel
theorem nd_Model_goBy_52 : decode nC_Model_goBy 52 = .ok (.invokevirtual 166, 3) := by decide +kernel
theorem nd_Model_goBy_55 : decode nC_Model_goBy 55 = .ok (.lsub, 1) := by decide +kernel
theorem nd_Model_goBy_56 : decode nC_Model_goBy 56 = .ok (.lconst 0, 1) := by decide +kernel
theorem nd_Model_goBy_57 : decode nC_Model_goBy 57 = .ok (.invokevirtual 138, 3) := by decide +kernel
theorem nd_Model_goBy_60 : decode nC_Model_goBy 60 = .ok (.aload_n 0, 1) := by decide +kernel
theorem nd_Model_goBy_61 : decode nC_Model_goBy 61 = .ok (.iconst 4, 1) := by decide +kernel
theorem nd_Model_goBy_62 : decode nC_Model_goBy 62 = .ok (.lconst 0, 1) := by decide +kernel
theorem nd_Model_goBy_63 : decode nC_Model_goBy 63 = .ok (.aload_n 0, 1) := by decide +kernel
theorem nd_Model_goBy_64 : decode nC_Model_goBy 64 = .ok (.iconst 2, 1) := by decide +kernel
theorem nd_Model_goBy_65 : decode nC_Model_goBy 65 = .ok (.invokevirtual 166, 3) := by decide +kernel
theorem nd_Model_goBy_68 : decode nC_Model_goBy 68 = .ok (.invokevirtual 138, 3) := by decide +kernel
theorem nd_Model_goBy_71 : decode nC_Model_goBy 71 = .ok (.aload_n 0, 1) := by decide +kernel
theorem nd_Model_goBy_72 : decode nC_Model_goBy 72 = .ok (.iconst 4, 1) := by decide +kernel
theorem nd_Model_goBy_73 : decode nC_Model_goBy 73 = .ok (.lconst 0, 1) := by decide +kernel
theorem nd_Model_goBy_74 : decode nC_Model_goBy 74 = .ok (.lconst 0, 1) := by decide +kernel
theorem nd_Model_goBy_75 : decode nC_Model_goBy 75 = .ok (.aload_n 0, 1) := by decide +kernel
theorem nd_Model_goBy_76 : decode nC_Model_goBy 76 = .ok (.iconst 3, 1) := by decide +kernel
theorem nd_Model_goBy_77 : decode nC_Model_goBy 77 = .ok (.invokevirtual 166, 3) := by decide +kernel
theorem nd_Model_goBy_80 : decode nC_Model_goBy 80 = .ok (.lsub, 1) := by decide +kernel
theorem nd_Model_goBy_81 : decode nC_Model_goBy 81 = .ok (.invokevirtual 138, 3) := by decide +kernel
theorem nd_Model_goBy_84 : decode nC_Model_goBy 84 = .ok (.lload 4, 2) := by decide +kernel
theorem nd_Model_goBy_86 : decode nC_Model_goBy 86 = .ok (.lreturn, 1) := by decide +kernel
theorem nd_Model_addPoints_0 : decode nC_Model_addPoints 0 = .ok (.iconst 0, 1) := by decide +kernel
theorem nd_Model_addPoints_1 : decode nC_Model_addPoints 1 = .ok (.istore_n 1, 1) := by decide +kernel
theorem nd_Model_addPoints_2 : decode nC_Model_addPoints 2 = .ok (.iload_n 1, 1) := by decide +kernel
theorem nd_Model_addPoints_3 : decode nC_Model_addPoints 3 = .ok (.iconst 4, 1) := by decide +kernel
theorem nd_Model_addPoints_4 : decode nC_Model_addPoints 4 = .ok (.if_icmp .ge 97, 3) := by decide +kernel
theorem nd_Model_addPoints_7 : decode nC_Model_addPoints 7 = .ok (.iload_n 1, 1) := by decide +kernel
theorem nd_Model_addPoints_8 : decode nC_Model_addPoints 8 = .ok (.iconst 2, 1) := by decide +kernel
theorem nd_Model_addPoints_9 : decode nC_Model_addPoints 9 = .ok (.if_icmp .ge 10, 3) := by decide +kernel
theorem nd_Model_addPoints_12 : decode nC_Model_addPoints 12 = .ok (.aload_n 0, 1) := by decide +kernel
theorem nd_Model_addPoints_13 : decode nC_Model_addPoints 13 = .ok (.invokevirtual 135, 3) := by decide +kernel
theorem nd_Model_addPoints_16 : decode nC_Model_addPoints 16 = .ok (.goto 7, 3) := by decide +kernel
theorem nd_Model_addPoints_19 : decode nC_Model_addPoints 19 = .ok (.aload_n 0, 1) := by decide +kernel
theorem nd_Model_addPoints_20 : decode nC_Model_addPoints 20 = .ok (.invokevirtual 129, 3) := by decide +kernel
theorem nd_Model_addPoints_23 : decode nC_Model_addPoints 23 = .ok (.lstore_n 2, 1) := by decide +kernel
theorem nd_Model_addPoints_24 : decode nC_Model_addPoints 24 = .ok (.iconst 0, 1) := by decide +kernel
theorem nd_Model_addPoints_25 : decode nC_Model_addPoints 25 = .ok (.istore 4, 2) := by decide +kernel
theorem nd_Model_addPoints_27 : decode nC_Model_addPoints 27 = .ok (.iconst 5, 1) := by decide +kernel
theorem nd_Model_addPoints_28 : decode nC_Model_addPoints 28 = .ok (.iload_n 1, 1) := by decide +kernel
theorem nd_Model_addPoints_29 : decode nC_Model_addPoints 29 = .ok (.imul, 1) := by decide +kernel
theorem nd_Model_addPoints_30 : decode nC_Model_addPoints 30 = .ok (.istore 5, 2) := by decide +kernel
theorem nd_Model_addPoints_32 : decode nC_Model_addPoints 32 = .ok (.iload 5, 2) := by decide +kernel
theorem nd_Model_addPoints_34 : decode nC_Model_addPoints 34 = .ok (.iconst 5, 1) := by decide +kernel
theorem nd_Model_addPoints_35 : decode nC_Model_addPoints 35 = .ok (.iload_n 1, 1) := by decide +kernel
theorem nd_Model_addPoints_36 : decode nC_Model_addPoints 36 = .ok (.imul, 1) := by decide +kernel
theorem nd_Model_addPoints_37 : decode nC_Model_addPoints 37 = .ok (.aload_n 0, 1) := by decide +kernel
theorem nd_Model_addPoints_38 : decode nC_Model_addPoints 38 = .ok (.getfield 55, 3) := by decide +kernel
theorem nd_Model_addPoints_41 : decode nC_Model_addPoints 41 = .ok (.iload_n 1, 1) := by decide +kernel
theorem nd_Model_addPoints_42 : decode nC_Model_addPoints 42 = .ok (.iaload, 1) := by decide +kernel
theorem nd_Model_addPoints_43 : decode nC_Model_addPoints 43 = .ok (.iadd, 1) := by decide +kernel
theorem nd_Model_addPoints_44 : decode nC_Model_addPoints 44 = .ok (.if_icmp .ge 36, 3) := by decide +kernel
theorem nd_Model_addPoints_47 : decode nC_Model_addPoints 47 = .ok (.aload_n 0, 1) := by decide +kernel
theorem nd_Model_addPoints_48 : decode nC_Model_addPoints 48 = .ok (.getfield 58, 3) := by decide +kernel
theorem nd_Model_addPoints_51 : decode nC_Model_addPoints 51 = .ok (.iload 5, 2) := by decide +kernel
theorem nd_Model_addPoints_53 : decode nC_Model_addPoints 53 = .ok (.iaload, 1) := by decide +kernel
theorem nd_Model_addPoints_54 : decode nC_Model_addPoints 54 = .ok (.i2l, 1) := by decide +kernel
theorem nd_Model_addPoints_55 : decode nC_Model_addPoints 55 = .ok (.lload_n 2, 1) := by decide +kernel
theorem nd_Model_addPoints_56 : decode nC_Model_addPoints 56 = .ok (.lcmp, 1) := by decide +kernel
theorem nd_Model_addPoints_57 : decode nC_Model_addPoints 57 = .ok (.ifCond .gt 13, 3) := by decide +kernel
theorem nd_Model_addPoints_60 : decode nC_Model_addPoints 60 = .ok (.aload_n 0, 1) := by decide +kernel
theorem nd_Model_addPoints_61 : decode nC_Model_addPoints 61 = .ok (.getfield 61, 3) := by decide +kernel
theorem nd_Model_addPoints_64 : decode nC_Model_addPoints 64 = .ok (.iload 5, 2) := by decide +kernel
theorem nd_Model_addPoints_66 : decode nC_Model_addPoints 66 = .ok (.iaload, 1) := by decide +kernel
theorem nd_Model_addPoints_67 : decode nC_Model_addPoints 67 = .ok (.goto 5, 3) := by decide +kernel
theorem nd_Model_addPoints_70 : decode nC_Model_addPoints 70 = .ok (.iload 4, 2) := by decide +kernel
theorem nd_Model_addPoints_72 : decode nC_Model_addPoints 72 = .ok (.istore 4, 2) := by decide +kernel
theorem nd_Model_addPoints_74 : decode nC_Model_addPoints 74 = .ok (.iinc 5 1, 3) := by decide +kernel
theorem nd_Model_addPoints_77 : decode nC_Model_addPoints 77 = .ok (.goto (-45), 3) := by decide +kernel
theorem nd_Model_addPoints_80 : decode nC_Model_addPoints 80 = .ok (.aload_n 0, 1) := by decide +kernel
theorem nd_Model_addPoints_81 : decode nC_Model_addPoints 81 = .ok (.getfield 64, 3) := by decide +kernel
theorem nd_Model_addPoints_84 : decode nC_Model_addPoints 84 = .ok (.iload_n 1, 1) := by decide +kernel
theorem nd_Model_addPoints_85 : decode nC_Model_addPoints 85 = .ok (.aload_n 0, 1) := by decide +kernel
theorem nd_Model_addPoints_86 : decode nC_Model_addPoints 86 = .ok (.getfield 64, 3) := by decide +kernel
theorem nd_Model_addPoints_89 : decode nC_Model_addPoints 89 = .ok (.iload_n 1, 1) := by decide +kernel
theorem nd_Model_addPoints_90 : decode nC_Model_addPoints 90 = .ok (.iaload, 1) := by decide +kernel
theorem nd_Model_addPoints_91 : decode nC_Model_addPoints 91 = .ok (.iload 4, 2) := by decide +kernel
theorem nd_Model_addPoints_93 : decode nC_Model_addPoints 93 = .ok (.iadd, 1) := by decide +kernel
theorem nd_Model_addPoints_94 : decode nC_Model_addPoints 94 = .ok (.iastore, 1) := by decide +kernel
theorem nd_Model_addPoints_95 : decode nC_Model_addPoints 95 = .ok (.iinc 1 1, 3) := by decide +kernel
theorem nd_Model_addPoints_98 : decode nC_Model_addPoints 98 = .ok (.goto (-96), 3) := by decide +kernel
theorem nd_Model_addPoints_101 : decode nC_Model_addPoints 101 = .ok (.return_, 1) := by decide +kernel
theorem nd_Model_ring_0 : decode nC_Model_ring 0 = .ok (.iconst 0, 1) := by decide +kernel
theorem nd_Model_ring_1 : decode nC_Model_ring 1 = .ok (.istore_n 1, 1) := by decide +kernel
theorem nd_Model_ring_2 : decode nC_Model_ring 2 = .ok (.iload_n 1, 1) := by decide +kernel
theorem nd_Model_ring_3 : decode nC_Model_ring 3 = .ok (.aload_n 0, 1) := by decide +kernel
theorem nd_Model_ring_4 : decode nC_Model_ring 4 = .ok (.getfield 169, 3) := by decide +kernel
theorem nd_Model_ring_7 : decode nC_Model_ring 7 = .ok (.if_icmp .ge 169, 3) := by decide +kernel
theorem nd_Model_ring_10 : decode nC_Model_ring 10 = .ok (.aload_n 0, 1) := by decide +kernel
theorem nd_Model_ring_11 : decode nC_Model_ring 11 = .ok (.getfield 67, 3) := by decide +kernel
theorem nd_Model_ring_14 : decode nC_Model_ring 14 = .ok (.iload_n 1, 1) := by decide +kernel
theorem nd_Model_ring_15 : decode nC_Model_ring 15 = .ok (.iaload, 1) := by decide +kernel
theorem nd_Model_ring_16 : decode nC_Model_ring 16 = .ok (.iconst 2, 1) := by decide +kernel
theorem nd_Model_ring_17 : decode nC_Model_ring 17 = .ok (.if_icmp .ge 10, 3) := by decide +kernel
theorem nd_Model_ring_20 : decode nC_Model_ring 20 = .ok (.aload_n 0, 1) := by decide +kernel
theorem nd_Model_ring_21 : decode nC_Model_ring 21 = .ok (.invokevirtual 129, 3) := by decide +kernel
theorem nd_Model_ring_24 : decode nC_Model_ring 24 = .ok (.goto 7, 3) := by decide +kernel
theorem nd_Model_ring_27 : decode nC_Model_ring 27 = .ok (.aload_n 0, 1) := by decide +kernel
theorem nd_Model_ring_28 : decode nC_Model_ring 28 = .ok (.invokevirtual 135, 3) := by decide +kernel
theorem nd_Model_ring_31 : decode nC_Model_ring 31 = .ok (.lstore_n 2, 1) := by decide +kernel
theorem nd_Model_ring_32 : decode nC_Model_ring 32 = .ok (.aload_n 0, 1) := by decide +kernel
theorem nd_Model_ring_33 : decode nC_Model_ring 33 = .ok (.getfield 67, 3) := by decide +kernel
theorem nd_Model_ring_36 : decode nC_Model_ring 36 = .ok (.iload_n 1, 1) := by decide +kernel
theorem nd_Model_ring_37 : decode nC_Model_ring 37 = .ok (.iaload, 1) := by decide +kernel
theorem nd_Model_ring_38 : decode nC_Model_ring 38 = .ok (.iconst 2, 1) := by decide +kernel
theorem nd_Model_ring_39 : decode nC_Model_ring 39 = .ok (.irem, 1) := by decide +kernel
theorem nd_Model_ring_40 : decode nC_Model_ring 40 = .ok (.ifCond .ne 23, 3) := by decide +kernel
theorem nd_Model_ring_43 : decode nC_Model_ring 43 = .ok (.lload_n 2, 1) := by decide +kernel
theorem nd_Model_ring_44 : decode nC_Model_ring 44 = .ok (.aload_n 0, 1) := by decide +kernel
theorem nd_Model_ring_45 : decode nC_Model_ring 45 = .ok (.getfield 70, 3) := by decide +kernel
theorem nd_Model_ring_48 : decode nC_Model_ring 48 = .ok (.iload_n 1, 1) := by decide +kernel
theorem nd_Model_ring_49 : decode nC_Model_ring 49 = .ok (.iaload, 1) := by decide +kernel
theorem nd_Model_ring_50 : decode nC_Model_ring 50 = .ok (.i2l, 1) := by decide +kernel
theorem nd_Model_ring_51 : decode nC_Model_ring 51 = .ok (.lcmp, 1) := by decide +kernel
theorem nd_Model_ring_52 : decode nC_Model_ring 52 = .ok (.ifCond .le 7, 3) := by decide +kernel
theorem nd_Model_ring_55 : decode nC_Model_ring 55 = .ok (.iconst 1, 1) := by decide +kernel
theorem nd_Model_ring_56 : decode nC_Model_ring 56 = .ok (.goto 24, 3) := by decide +kernel
theorem nd_Model_ring_59 : decode nC_Model_ring 59 = .ok (.iconst 0, 1) := by decide +kernel
theorem nd_Model_ring_60 : decode nC_Model_ring 60 = .ok (.goto 20, 3) := by decide +kernel
theorem nd_Model_ring_63 : decode nC_Model_ring 63 = .ok (.lload_n 2, 1) := by decide +kernel
theorem nd_Model_ring_64 : decode nC_Model_ring 64 = .ok (.aload_n 0, 1) := by decide +kernel
theorem nd_Model_ring_65 : decode nC_Model_ring 65 = .ok (.getfield 70, 3) := by decide +kernel
theorem nd_Model_ring_68 : decode nC_Model_ring 68 = .ok (.iload_n 1, 1) := by decide +kernel
theorem nd_Model_ring_69 : decode nC_Model_ring 69 = .ok (.iaload, 1) := by decide +kernel
theorem nd_Model_ring_70 : decode nC_Model_ring 70 = .ok (.i2l, 1) := by decide +kernel
theorem nd_Model_ring_71 : decode nC_Model_ring 71 = .ok (.lcmp, 1) := by decide +kernel
theorem nd_Model_ring_72 : decode nC_Model_ring 72 = .ok (.ifCond .ge 7, 3) := by decide +kernel
theorem nd_Model_ring_75 : decode nC_Model_ring 75 = .ok (.iconst 1, 1) := by decide +kernel
theorem nd_Model_ring_76 : decode nC_Model_ring 76 = .ok (.goto 4, 3) := by decide +kernel
theorem nd_Model_ring_79 : decode nC_Model_ring 79 = .ok (.iconst 0, 1) := by decide +kernel
theorem nd_Model_ring_80 : decode nC_Model_ring 80 = .ok (.istore 4, 2) := by decide +kernel
theorem nd_Model_ring_82 : decode nC_Model_ring 82 = .ok (.aload_n 0, 1) := by decide +kernel
theorem nd_Model_ring_83 : decode nC_Model_ring 83 = .ok (.getfield 76, 3) := by decide +kernel
theorem nd_Model_ring_86 : decode nC_Model_ring 86 = .ok (.iload_n 1, 1) := by decide +kernel
theorem nd_Model_ring_87 : decode nC_Model_ring 87 = .ok (.iaload, 1) := by decide +kernel
theorem nd_Model_ring_88 : decode nC_Model_ring 88 = .ok (.ifCond .ne 9, 3) := by decide +kernel
theorem nd_Model_ring_91 : decode nC_Model_ring 91 = .ok (.sipush (-1000), 3) := by decide +kernel
theorem nd_Model_ring_94 : decode nC_Model_ring 94 = .ok (.goto 22, 3) := by decide +kernel
theorem nd_Model_ring_97 : decode nC_Model_ring 97 = .ok (.aload_n 0, 1) := by decide +kernel
theorem nd_Model_ring_98 : decode nC_Model_ring 98 = .ok (.getfield 79, 3) := by decide +kernel
theorem nd_Model_ring_101 : decode nC_Model_ring 101 = .ok (.sipush 300, 3) := by decide +kernel
theorem nd_Model_ring_104 : decode nC_Model_ring 104 = .ok (.iload_n 1, 1) := by decide +kernel
theorem nd_Model_ring_105 : decode nC_Model_ring 105 = .ok (.imul, 1) := by decide +kernel
theorem nd_Model_ring_106 : decode nC_Model_ring 106 = .ok (.aload_n 0, 1) := by decide +kernel
theorem nd_Model_ring_107 : decode nC_Model_ring 107 = .ok (.getfield 76, 3) := by decide +kernel
theorem nd_Model_ring_110 : decode nC_Model_ring 110 = .ok (.iload_n 1, 1) := by decide +kernel
theorem nd_Model_ring_111 : decode nC_Model_ring 111 = .ok (.iaload, 1) := by decide +kernel
theorem nd_Model_ring_112 : decode nC_Model_ring 112 = .ok (.iadd, 1) := by decide +kernel
theorem nd_Model_ring_113 : decode nC_Model_ring 113 = .ok (.iconst 1, 1) := by decide +kernel
theorem nd_Model_ring_114 : decode nC_Model_ring 114 = .ok (.isub, 1) := by decide +kernel
theorem nd_Model_ring_115 : decode nC_Model_ring 115 = .ok (.iaload, 1) := by decide +kernel
theorem nd_Model_ring_116 : decode nC_Model_ring 116 = .ok (.istore 5, 2) := by decide +kernel
theorem nd_Model_ring_118 : decode nC_Model_ring 118 = .ok (.iload 4, 2) := by decide +kernel
theorem nd_Model_ring_120 : decode nC_Model_ring 120 = .ok (.ifCond .eq 50, 3) := by decide +kernel
theorem nd_Model_ring_123 : decode nC_Model_ring 123 = .ok (.aload_n 0, 1) := by decide +kernel
theorem nd_Model_ring_124 : decode nC_Model_ring 124 = .ok (.getfield 172, 3) := by decide +kernel
theorem nd_Model_ring_127 : decode nC_Model_ring 127 = .ok (.iload 5, 2) := by decide +kernel
theorem nd_Model_ring_129 : decode nC_Model_ring 129 = .ok (.isub, 1) := by decide +kernel
theorem nd_Model_ring_130 : decode nC_Model_ring 130 = .ok (.aload_n 0, 1) := by decide +kernel
theorem nd_Model_ring_131 : decode nC_Model_ring 131 = .ok (.getfield 73, 3) := by decide +kernel
theorem nd_Model_ring_134 : decode nC_Model_ring 134 = .ok (.iload_n 1, 1) := by decide +kernel
theorem nd_Model_ring_135 : decode nC_Model_ring 135 = .ok (.iaload, 1) := by decide +kernel
theorem nd_Model_ring_136 : decode nC_Model_ring 136 = .ok (.if_icmp .lt 34, 3) := by decide +kernel
theorem nd_Model_ring_139 : decode nC_Model_ring 139 = .ok (.aload_n 0, 1) := by decide +kernel
theorem nd_Model_ring_140 : decode nC_Model_ring 140 = .ok (.getfield 79, 3) := by decide +kernel
theorem nd_Model_ring_143 : decode nC_Model_ring 143 = .ok (.sipush 300, 3) := by decide +kernel
theorem nd_Model_ring_146 : decode nC_Model_ring 146 = .ok (.iload_n 1, 1) := by decide +kernel
theorem nd_Model_ring_147 : decode nC_Model_ring 147 = .ok (.imul, 1) := by decide +kernel
theorem nd_Model_ring_148 : decode nC_Model_ring 148 = .ok (.aload_n 0, 1) := by decide +kernel
theorem nd_Model_ring_149 : decode nC_Model_ring 149 = .ok (.getfield 76, 3) := by decide +kernel
theorem nd_Model_ring_152 : decode nC_Model_ring 152 = .ok (.iload_n 1, 1) := by decide +kernel
theorem nd_Model_ring_153 : decode nC_Model_ring 153 = .ok (.iaload, 1) := by decide +kernel
theorem nd_Model_ring_154 : decode nC_Model_ring 154 = .ok (.iadd, 1) := by decide +kernel
theorem nd_Model_ring_155 : decode nC_Model_ring 155 = .ok (.aload_n 0, 1) := by decide +kernel
theorem nd_Model_ring_156 : decode nC_Model_ring 156 = .ok (.getfield 172, 3) := by decide +kernel
theorem nd_Model_ring_159 : decode nC_Model_ring 159 = .ok (.iastore, 1) := by decide +kernel
theorem nd_Model_ring_160 : decode nC_Model_ring 160 = .ok (.aload_n 0, 1) := by decide +kernel
theorem nd_Model_ring_161 : decode nC_Model_ring 161 = .ok (.getfield 76, 3) := by decide +kernel
theorem nd_Model_ring_164 : decode nC_Model_ring 164 = .ok (.iload_n 1, 1) := by decide +kernel
theorem nd_Model_ring_165 : decode nC_Model_ring 165 = .ok (.dup2, 1) := by decide +kernel
theorem nd_Model_ring_166 : decode nC_Model_ring 166 = .ok (.iaload, 1) := by decide +kernel
theorem nd_Model_ring_167 : decode nC_Model_ring 167 = .ok (.iconst 1, 1) := by decide +kernel
theorem nd_Model_ring_168 : decode nC_Model_ring 168 = .ok (.iadd, 1) := by decide +kernel
theorem nd_Model_ring_169 : decode nC_Model_ring 169 = .ok (.iastore, 1) := by decide +kernel
theorem nd_Model_ring_170 : decode nC_Model_ring 170 = .ok (.iinc 1 1, 3) := by decide +kernel
theorem nd_Model_ring_173 : decode nC_Model_ring 173 = .ok (.goto (-171), 3) := by decide +kernel
theorem nd_Model_ring_176 : decode nC_Model_ring 176 = .ok (.return_, 1) := by decide +kernel
theorem nd_Model_isOutside_0 : decode nC_Model_isOutside 0 = .ok (.iload_n 0, 1) := by decide +kernel
theorem nd_Model_isOutside_1 : decode nC_Model_isOutside 1 = .ok (.invokestatic 120, 3) := by decide +kernel
theorem nd_Model_isOutside_4 : decode nC_Model_isOutside 4 = .ok (.ifCond .eq 17, 3) := by decide +kernel
theorem nd_Model_isOutside_7 : decode nC_Model_isOutside 7 = .ok (.iload_n 1, 1) := by decide +kernel
theorem nd_Model_isOutside_8 : decode nC_Model_isOutside 8 = .ok (.iconst 0, 1) := by decide +kernel
theorem nd_Model_isOutside_9 : decode nC_Model_isOutside 9 = .ok (.ldc 118, 2) := by decide +kernel
theorem nd_Model_isOutside_11 : decode nC_Model_isOutside 11 = .ok (.invokestatic 99, 3) := by decide +kernel
theorem nd_Model_isOutside_14 : decode nC_Model_isOutside 14 = .ok (.ifCond .eq 7, 3) := by decide +kernel
theorem nd_Model_isOutside_17 : decode nC_Model_isOutside 17 = .ok (.iconst 1, 1) := by decide +kernel
theorem nd_Model_isOutside_18 : decode nC_Model_isOutside 18 = .ok (.goto 4, 3) := by decide +kernel
theorem nd_Model_isOutside_21 : decode nC_Model_isOutside 21 = .ok (.iconst 0, 1) := by decide +kernel
theorem nd_Model_isOutside_22 : decode nC_Model_isOutside 22 = .ok (.ireturn, 1) := by decide +kernel
theorem nd_Model_hour_0 : decode nC_Model_hour 0 = .ok (.aload_n 0, 1) := by decide +kernel
theorem nd_Model_hour_1 : decode nC_Model_hour 1 = .ok (.aload_n 0, 1) := by decide +kernel
theorem nd_Model_hour_2 : decode nC_Model_hour 2 = .ok (.getfield 172, 3) := by decide +kernel
theorem nd_Model_hour_5 : decode nC_Model_hour 5 = .ok (.sipush 300, 3) := by decide +kernel
theorem nd_Model_hour_8 : decode nC_Model_hour 8 = .ok (.if_icmp .ge 7, 3) := by decide +kernel
theorem nd_Model_hour_11 : decode nC_Model_hour 11 = .ok (.iconst 1, 1) := by decide +kernel
theorem nd_Model_hour_12 : decode nC_Model_hour 12 = .ok (.goto 4, 3) := by decide +kernel
theorem nd_Model_hour_15 : decode nC_Model_hour 15 = .ok (.iconst 0, 1) := by decide +kernel
theorem nd_Model_hour_16 : decode nC_Model_hour 16 = .ok (.iload_n 1, 1) := by decide +kernel
theorem nd_Model_hour_17 : decode nC_Model_hour 17 = .ok (.iload_n 2, 1) := by decide +kernel
theorem nd_Model_hour_18 : decode nC_Model_hour 18 = .ok (.invokestatic 175, 3) := by decide +kernel
theorem nd_Model_hour_21 : decode nC_Model_hour 21 = .ok (.ifCond .eq 17, 3) := by decide +kernel
theorem nd_Model_hour_24 : decode nC_Model_hour 24 = .ok (.iload_n 3, 1) := by decide +kernel
theorem nd_Model_hour_25 : decode nC_Model_hour 25 = .ok (.iconst 0, 1) := by decide +kernel
theorem nd_Model_hour_26 : decode nC_Model_hour 26 = .ok (.bipush 99, 2) := by decide +kernel
theorem nd_Model_hour_28 : decode nC_Model_hour 28 = .ok (.invokestatic 99, 3) := by decide +kernel
theorem nd_Model_hour_31 : decode nC_Model_hour 31 = .ok (.ifCond .eq 7, 3) := by decide +kernel
theorem nd_Model_hour_34 : decode nC_Model_hour 34 = .ok (.iconst 1, 1) := by decide +kernel
theorem nd_Model_hour_35 : decode nC_Model_hour 35 = .ok (.goto 4, 3) := by decide +kernel
theorem nd_Model_hour_38 : decode nC_Model_hour 38 = .ok (.iconst 0, 1) := by decide +kernel
theorem nd_Model_hour_39 : decode nC_Model_hour 39 = .ok (.iconst 1, 1) := by decide +kernel
theorem nd_Model_hour_40 : decode nC_Model_hour 40 = .ok (.invokevirtual 103, 3) := by decide +kernel
theorem nd_Model_hour_43 : decode nC_Model_hour 43 = .ok (.ifCond .ne 5, 3) := by decide +kernel
theorem nd_Model_hour_46 : decode nC_Model_hour 46 = .ok (.iconst 0, 1) := by decide +kernel
theorem nd_Model_hour_47 : decode nC_Model_hour 47 = .ok (.ireturn, 1) := by decide +kernel
theorem nd_Model_hour_48 : decode nC_Model_hour 48 = .ok (.aload_n 0, 1) := by decide +kernel
theorem nd_Model_hour_49 : decode nC_Model_hour 49 = .ok (.iload_n 1, 1) := by decide +kernel
theorem nd_Model_hour_50 : decode nC_Model_hour 50 = .ok (.iload_n 2, 1) := by decide +kernel
theorem nd_Model_hour_51 : decode nC_Model_hour 51 = .ok (.iload_n 3, 1) := by decide +kernel
theorem nd_Model_hour_52 : decode nC_Model_hour 52 = .ok (.invokevirtual 179, 3) := by decide +kernel
theorem nd_Model_hour_55 : decode nC_Model_hour 55 = .ok (.pop2, 1) := by decide +kernel
theorem nd_Model_hour_56 : decode nC_Model_hour 56 = .ok (.aload_n 0, 1) := by decide +kernel
theorem nd_Model_hour_57 : decode nC_Model_hour 57 = .ok (.invokevirtual 183, 3) := by decide +kernel
theorem nd_Model_hour_60 : decode nC_Model_hour 60 = .ok (.aload_n 0, 1) := by decide +kernel
theorem nd_Model_hour_61 : decode nC_Model_hour 61 = .ok (.invokevirtual 186, 3) := by decide +kernel
theorem nd_Model_hour_64 : decode nC_Model_hour 64 = .ok (.aload_n 0, 1) := by decide +kernel
theorem nd_Model_hour_65 : decode nC_Model_hour 65 = .ok (.dup, 1) := by decide +kernel
theorem nd_Model_hour_66 : decode nC_Model_hour 66 = .ok (.getfield 172, 3) := by decide +kernel
theorem nd_Model_hour_69 : decode nC_Model_hour 69 = .ok (.iconst 1, 1) := by decide +kernel
theorem nd_Model_hour_70 : decode nC_Model_hour 70 = .ok (.iadd, 1) := by decide +kernel
theorem nd_Model_hour_71 : decode nC_Model_hour 71 = .ok (.putfield 172, 3) := by decide +kernel
theorem nd_Model_hour_74 : decode nC_Model_hour 74 = .ok (.aload_n 0, 1) := by decide +kernel
theorem nd_Model_hour_75 : decode nC_Model_hour 75 = .ok (.getfield 172, 3) := by decide +kernel
theorem nd_Model_hour_78 : decode nC_Model_hour 78 = .ok (.iconst 1, 1) := by decide +kernel
theorem nd_Model_hour_79 : decode nC_Model_hour 79 = .ok (.isub, 1) := by decide +kernel
theorem nd_Model_hour_80 : decode nC_Model_hour 80 = .ok (.ireturn, 1) := by decide +kernel
theorem nd_Model_degrees_0 : decode nC_Model_degrees 0 = .ok (.aload_n 0, 1) := by decide +kernel
theorem nd_Model_degrees_1 : decode nC_Model_degrees 1 = .ok (.iconst 0, 1) := by decide +kernel
theorem nd_Model_degrees_2 : decode nC_Model_degrees 2 = .ok (.putfield 96, 3) := by decide +kernel
theorem nd_Model_degrees_5 : decode nC_Model_degrees 5 = .ok (.aload_n 0, 1) := by decide +kernel
theorem nd_Model_degrees_6 : decode nC_Model_degrees 6 = .ok (.invokevirtual 129, 3) := by decide +kernel
theorem nd_Model_degrees_9 : decode nC_Model_degrees 9 = .ok (.l2i, 1) := by decide +kernel
theorem nd_Model_degrees_10 : decode nC_Model_degrees 10 = .ok (.ireturn, 1) := by decide +kernel
theorem nd_Model_damp_0 : decode nC_Model_damp 0 = .ok (.aload_n 0, 1) := by decide +kernel
theorem nd_Model_damp_1 : decode nC_Model_damp 1 = .ok (.iconst 0, 1) := by decide +kernel
theorem nd_Model_damp_2 : decode nC_Model_damp 2 = .ok (.putfield 96, 3) := by decide +kernel
theorem nd_Model_damp_5 : decode nC_Model_damp 5 = .ok (.aload_n 0, 1) := by decide +kernel
theorem nd_Model_damp_6 : decode nC_Model_damp 6 = .ok (.invokevirtual 135, 3) := by decide +kernel
theorem nd_Model_damp_9 : decode nC_Model_damp 9 = .ok (.l2i, 1) := by decide +kernel
theorem nd_Model_damp_10 : decode nC_Model_damp 10 = .ok (.ireturn, 1) := by decide +kernel
theorem nd_Model_isLayer_0 : decode nC_Model_isLayer 0 = .ok (.iload_n 1, 1) := by decide +kernel
theorem nd_Model_isLayer_1 : decode nC_Model_isLayer 1 = .ok (.iconst 0, 1) := by decide +kernel
theorem nd_Model_isLayer_2 : decode nC_Model_isLayer 2 = .ok (.aload_n 0, 1) := by decide +kernel
theorem nd_Model_isLayer_3 : decode nC_Model_isLayer 3 = .ok (.getfield 107, 3) := by decide +kernel
theorem nd_Model_isLayer_6 : decode nC_Model_isLayer 6 = .ok (.iconst 1, 1) := by decide +kernel
theorem nd_Model_isLayer_7 : decode nC_Model_isLayer 7 = .ok (.isub, 1) := by decide +kernel
theorem nd_Model_isLayer_8 : decode nC_Model_isLayer 8 = .ok (.invokestatic 99, 3) := by decide +kernel
theorem nd_Model_isLayer_11 : decode nC_Model_isLayer 11 = .ok (.ireturn, 1) := by decide +kernel
theorem nd_Model_layer_0 : decode nC_Model_layer 0 = .ok (.aload_n 0, 1) := by decide +kernel
theorem nd_Model_layer_1 : decode nC_Model_layer 1 = .ok (.aload_n 0, 1) := by decide +kernel
theorem nd_Model_layer_2 : decode nC_Model_layer 2 = .ok (.iload_n 1, 1) := by decide +kernel
theorem nd_Model_layer_3 : decode nC_Model_layer 3 = .ok (.invokevirtual 189, 3) := by decide +kernel
theorem nd_Model_layer_6 : decode nC_Model_layer 6 = .ok (.iconst 1, 1) := by decide +kernel
theorem nd_Model_layer_7 : decode nC_Model_layer 7 = .ok (.iconst 1, 1) := by decide +kernel
theorem nd_Model_layer_8 : decode nC_Model_layer 8 = .ok (.invokevirtual 103, 3) := by decide +kernel
theorem nd_Model_layer_11 : decode nC_Model_layer 11 = .ok (.ifCond .eq 12, 3) := by decide +kernel
theorem nd_Model_layer_14 : decode nC_Model_layer 14 = .ok (.aload_n 0, 1) := by decide +kernel
theorem nd_Model_layer_15 : decode nC_Model_layer 15 = .ok (.iload_n 1, 1) := by decide +kernel
theorem nd_Model_layer_16 : decode nC_Model_layer 16 = .ok (.invokevirtual 142, 3) := by decide +kernel
theorem nd_Model_layer_19 : decode nC_Model_layer 19 = .ok (.l2i, 1) := by decide +kernel
theorem nd_Model_layer_20 : decode nC_Model_layer 20 = .ok (.goto 4, 3) := by decide +kernel
theorem nd_Model_layer_23 : decode nC_Model_layer 23 = .ok (.iconst 0, 1) := by decide +kernel
theorem nd_Model_layer_24 : decode nC_Model_layer 24 = .ok (.ireturn, 1) := by decide +kernel
theorem nd_Model_held_0 : decode nC_Model_held 0 = .ok (.aload_n 0, 1) := by decide +kernel
theorem nd_Model_held_1 : decode nC_Model_held 1 = .ok (.iconst 0, 1) := by decide +kernel
theorem nd_Model_held_2 : decode nC_Model_held 2 = .ok (.putfield 96, 3) := by decide +kernel
theorem nd_Model_held_5 : decode nC_Model_held 5 = .ok (.aload_n 0, 1) := by decide +kernel
theorem nd_Model_held_6 : decode nC_Model_held 6 = .ok (.getfield 16, 3) := by decide +kernel
theorem nd_Model_held_9 : decode nC_Model_held 9 = .ok (.iconst 2, 1) := by decide +kernel
theorem nd_Model_held_10 : decode nC_Model_held 10 = .ok (.laload, 1) := by decide +kernel
theorem nd_Model_held_11 : decode nC_Model_held 11 = .ok (.l2i, 1) := by decide +kernel
theorem nd_Model_held_12 : decode nC_Model_held 12 = .ok (.ireturn, 1) := by decide +kernel
theorem nd_Model_on_0 : decode nC_Model_on 0 = .ok (.aload_n 0, 1) := by decide +kernel
theorem nd_Model_on_1 : decode nC_Model_on 1 = .ok (.iload_n 1, 1) := by decide +kernel
theorem nd_Model_on_2 : decode nC_Model_on 2 = .ok (.iconst 0, 1) := by decide +kernel
theorem nd_Model_on_3 : decode nC_Model_on 3 = .ok (.iconst 3, 1) := by decide +kernel
theorem nd_Model_on_4 : decode nC_Model_on 4 = .ok (.invokestatic 99, 3) := by decide +kernel
theorem nd_Model_on_7 : decode nC_Model_on 7 = .ok (.iconst 1, 1) := by decide +kernel
theorem nd_Model_on_8 : decode nC_Model_on 8 = .ok (.iconst 1, 1) := by decide +kernel
theorem nd_Model_on_9 : decode nC_Model_on 9 = .ok (.invokevirtual 103, 3) := by decide +kernel
theorem nd_Model_on_12 : decode nC_Model_on 12 = .ok (.ifCond .eq 21, 3) := by decide +kernel
theorem nd_Model_on_15 : decode nC_Model_on 15 = .ok (.aload_n 0, 1) := by decide +kernel
theorem nd_Model_on_16 : decode nC_Model_on 16 = .ok (.getfield 16, 3) := by decide +kernel
theorem nd_Model_on_19 : decode nC_Model_on 19 = .ok (.bipush 8, 2) := by decide +kernel
theorem nd_Model_on_21 : decode nC_Model_on 21 = .ok (.iload_n 1, 1) := by decide +kernel
theorem nd_Model_on_22 : decode nC_Model_on 22 = .ok (.iadd, 1) := by decide +kernel
theorem nd_Model_on_23 : decode nC_Model_on 23 = .ok (.laload, 1) := by decide +kernel
theorem nd_Model_on_24 : decode nC_Model_on 24 = .ok (.lconst 1, 1) := by decide +kernel
theorem nd_Model_on_25 : decode nC_Model_on 25 = .ok (.lcmp, 1) := by decide +kernel
theorem nd_Model_on_26 : decode nC_Model_on 26 = .ok (.ifCond .ne 7, 3) := by decide +kernel
theorem nd_Model_on_29 : decode nC_Model_on 29 = .ok (.iconst 1, 1) := by decide +kernel
theorem nd_Model_on_30 : decode nC_Model_on 30 = .ok (.goto 4, 3) := by decide +kernel
theorem nd_Model_on_33 : decode nC_Model_on 33 = .ok (.iconst 0, 1) := by decide +kernel
theorem nd_Model_on_34 : decode nC_Model_on 34 = .ok (.ireturn, 1) := by decide +kernel
theorem nd_Model_book_0 : decode nC_Model_book 0 = .ok (.aload_n 0, 1) := by decide +kernel
theorem nd_Model_book_1 : decode nC_Model_book 1 = .ok (.iload_n 1, 1) := by decide +kernel
theorem nd_Model_book_2 : decode nC_Model_book 2 = .ok (.iconst (-1), 1) := by decide +kernel
theorem nd_Model_book_3 : decode nC_Model_book 3 = .ok (.iconst 4, 1) := by decide +kernel
theorem nd_Model_book_4 : decode nC_Model_book 4 = .ok (.invokestatic 99, 3) := by decide +kernel
theorem nd_Model_book_7 : decode nC_Model_book 7 = .ok (.ifCond .eq 16, 3) := by decide +kernel
theorem nd_Model_book_10 : decode nC_Model_book 10 = .ok (.iload_n 2, 1) := by decide +kernel
theorem nd_Model_book_11 : decode nC_Model_book 11 = .ok (.iconst 0, 1) := by decide +kernel
theorem nd_Model_book_12 : decode nC_Model_book 12 = .ok (.iconst 1, 1) := by decide +kernel
theorem nd_Model_book_13 : decode nC_Model_book 13 = .ok (.invokestatic 99, 3) := by decide +kernel
theorem nd_Model_book_16 : decode nC_Model_book 16 = .ok (.ifCond .eq 7, 3) := by decide +kernel
theorem nd_Model_book_19 : decode nC_Model_book 19 = .ok (.iconst 1, 1) := by decide +kernel
theorem nd_Model_book_20 : decode nC_Model_book 20 = .ok (.goto 4, 3) := by decide +kernel
theorem nd_Model_book_23 : decode nC_Model_book 23 = .ok (.iconst 0, 1) := by decide +kernel
theorem nd_Model_book_24 : decode nC_Model_book 24 = .ok (.iconst 1, 1) := by decide +kernel
theorem nd_Model_book_25 : decode nC_Model_book 25 = .ok (.iconst 1, 1) := by decide +kernel
theorem nd_Model_book_26 : decode nC_Model_book 26 = .ok (.invokevirtual 103, 3) := by decide +kernel
theorem nd_Model_book_29 : decode nC_Model_book 29 = .ok (.ifCond .ne 5, 3) := by decide +kernel
theorem nd_Model_book_32 : decode nC_Model_book 32 = .ok (.lconst 0, 1) := by decide +kernel
theorem nd_Model_book_33 : decode nC_Model_book 33 = .ok (.lreturn, 1) := by decide +kernel
theorem nd_Model_book_34 : decode nC_Model_book 34 = .ok (.iload_n 1, 1) := by decide +kernel
theorem nd_Model_book_35 : decode nC_Model_book 35 = .ok (.iconst (-1), 1) := by decide +kernel
theorem nd_Model_book_36 : decode nC_Model_book 36 = .ok (.if_icmp .ne 12, 3) := by decide +kernel
theorem nd_Model_book_39 : decode nC_Model_book 39 = .ok (.aload_n 0, 1) := by decide +kernel
theorem nd_Model_book_40 : decode nC_Model_book 40 = .ok (.getfield 16, 3) := by decide +kernel
theorem nd_Model_book_43 : decode nC_Model_book 43 = .ok (.iload_n 2, 1) := by decide +kernel
theorem nd_Model_book_44 : decode nC_Model_book 44 = .ok (.laload, 1) := by decide +kernel
theorem nd_Model_book_45 : decode nC_Model_book 45 = .ok (.goto 13, 3) := by decide +kernel
theorem nd_Model_book_48 : decode nC_Model_book 48 = .ok (.aload_n 0, 1) := by decide +kernel
theorem nd_Model_book_49 : decode nC_Model_book 49 = .ok (.getfield 23, 3) := by decide +kernel
theorem nd_Model_book_52 : decode nC_Model_book 52 = .ok (.iconst 5, 1) := by decide +kernel
theorem nd_Model_book_53 : decode nC_Model_book 53 = .ok (.iload_n 2, 1) := by decide +kernel
theorem nd_Model_book_54 : decode nC_Model_book 54 = .ok (.imul, 1) := by decide +kernel
theorem nd_Model_book_55 : decode nC_Model_book 55 = .ok (.iload_n 1, 1) := by decide +kernel
theorem nd_Model_book_56 : decode nC_Model_book 56 = .ok (.iadd, 1) := by decide +kernel
theorem nd_Model_book_57 : decode nC_Model_book 57 = .ok (.laload, 1) := by decide +kernel
theorem nd_Model_book_58 : decode nC_Model_book 58 = .ok (.lreturn, 1) := by decide +kernel
theorem nd_Model_dew_0 : decode nC_Model_dew 0 = .ok (.aload_n 0, 1) := by decide +kernel
theorem nd_Model_dew_1 : decode nC_Model_dew 1 = .ok (.aload_n 0, 1) := by decide +kernel
theorem nd_Model_dew_2 : decode nC_Model_dew 2 = .ok (.iload_n 1, 1) := by decide +kernel
theorem nd_Model_dew_3 : decode nC_Model_dew 3 = .ok (.invokevirtual 189, 3) := by decide +kernel
theorem nd_Model_dew_6 : decode nC_Model_dew 6 = .ok (.iconst 1, 1) := by decide +kernel
theorem nd_Model_dew_7 : decode nC_Model_dew 7 = .ok (.iconst 1, 1) := by decide +kernel
theorem nd_Model_dew_8 : decode nC_Model_dew 8 = .ok (.invokevirtual 103, 3) := by decide +kernel
theorem nd_Model_dew_11 : decode nC_Model_dew 11 = .ok (.ifCond .ne 5, 3) := by decide +kernel
theorem nd_Model_dew_14 : decode nC_Model_dew 14 = .ok (.iconst 0, 1) := by decide +kernel
theorem nd_Model_dew_15 : decode nC_Model_dew 15 = .ok (.ireturn, 1) := by decide +kernel
theorem nd_Model_dew_16 : decode nC_Model_dew 16 = .ok (.aload_n 0, 1) := by decide +kernel
theorem nd_Model_dew_17 : decode nC_Model_dew 17 = .ok (.iload_n 1, 1) := by decide +kernel
theorem nd_Model_dew_18 : decode nC_Model_dew 18 = .ok (.invokevirtual 142, 3) := by decide +kernel
theorem nd_Model_dew_21 : decode nC_Model_dew 21 = .ok (.lconst 0, 1) := by decide +kernel
theorem nd_Model_dew_22 : decode nC_Model_dew 22 = .ok (.lcmp, 1) := by decide +kernel
theorem nd_Model_dew_23 : decode nC_Model_dew 23 = .ok (.ifCond .ge 7, 3) := by decide +kernel
theorem nd_Model_dew_26 : decode nC_Model_dew 26 = .ok (.lconst 0, 1) := by decide +kernel
theorem nd_Model_dew_27 : decode nC_Model_dew 27 = .ok (.goto 8, 3) := by decide +kernel
theorem nd_Model_dew_30 : decode nC_Model_dew 30 = .ok (.aload_n 0, 1) := by decide +kernel
theorem nd_Model_dew_31 : decode nC_Model_dew 31 = .ok (.iload_n 1, 1) := by decide +kernel
theorem nd_Model_dew_32 : decode nC_Model_dew 32 = .ok (.invokevirtual 142, 3) := by decide +kernel
theorem nd_Model_dew_35 : decode nC_Model_dew 35 = .ok (.lstore_n 2, 1) := by decide +kernel
theorem nd_Model_dew_36 : decode nC_Model_dew 36 = .ok (.aload_n 0, 1) := by decide +kernel
theorem nd_Model_dew_37 : decode nC_Model_dew 37 = .ok (.invokevirtual 135, 3) := by decide +kernel
theorem nd_Model_dew_40 : decode nC_Model_dew 40 = .ok (.lload_n 2, 1) := by decide +kernel
theorem nd_Model_dew_41 : decode nC_Model_dew 41 = .ok (.lcmp, 1) := by decide +kernel
theorem nd_Model_dew_42 : decode nC_Model_dew 42 = .ok (.ifCond .le 7, 3) := by decide +kernel
theorem nd_Model_dew_45 : decode nC_Model_dew 45 = .ok (.iconst 1, 1) := by decide +kernel
theorem nd_Model_dew_46 : decode nC_Model_dew 46 = .ok (.goto 4, 3) := by decide +kernel
theorem nd_Model_dew_49 : decode nC_Model_dew 49 = .ok (.iconst 0, 1) := by decide +kernel
theorem nd_Model_dew_50 : decode nC_Model_dew 50 = .ok (.ireturn, 1) := by decide +kernel
theorem nd_Model_risk_0 : decode nC_Model_risk 0 = .ok (.iload_n 1, 1) := by decide +kernel
theorem nd_Model_risk_1 : decode nC_Model_risk 1 = .ok (.iconst 0, 1) := by decide +kernel
theorem nd_Model_risk_2 : decode nC_Model_risk 2 = .ok (.iconst 3, 1) := by decide +kernel
theorem nd_Model_risk_3 : decode nC_Model_risk 3 = .ok (.invokestatic 99, 3) := by decide +kernel
theorem nd_Model_risk_6 : decode nC_Model_risk 6 = .ok (.istore 4, 2) := by decide +kernel
theorem nd_Model_risk_8 : decode nC_Model_risk 8 = .ok (.iload 4, 2) := by decide +kernel
theorem nd_Model_risk_10 : decode nC_Model_risk 10 = .ok (.ifCond .eq 12, 3) := by decide +kernel
theorem nd_Model_risk_13 : decode nC_Model_risk 13 = .ok (.aload_n 0, 1) := by decide +kernel
theorem nd_Model_risk_14 : decode nC_Model_risk 14 = .ok (.getfield 55, 3) := by decide +kernel
theorem nd_Model_risk_17 : decode nC_Model_risk 17 = .ok (.iload_n 1, 1) := by decide +kernel
theorem nd_Model_risk_18 : decode nC_Model_risk 18 = .ok (.iaload, 1) := by decide +kernel
theorem nd_Model_risk_19 : decode nC_Model_risk 19 = .ok (.goto 4, 3) := by decide +kernel
theorem nd_Model_risk_22 : decode nC_Model_risk 22 = .ok (.iconst 0, 1) := by decide +kernel
theorem nd_Model_risk_23 : decode nC_Model_risk 23 = .ok (.istore 5, 2) := by decide +kernel
theorem nd_Model_risk_25 : decode nC_Model_risk 25 = .ok (.iload 5, 2) := by decide +kernel
