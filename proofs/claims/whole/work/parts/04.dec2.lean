theorem nd_Machines_copyFrom_53 : decode nC_Machines_copyFrom 53 = .ok (.baload, 1) := by decide +kernel
theorem nd_Machines_copyFrom_54 : decode nC_Machines_copyFrom 54 = .ok (.bastore, 1) := by decide +kernel
theorem nd_Machines_copyFrom_55 : decode nC_Machines_copyFrom 55 = .ok (.aload_n 0, 1) := by decide +kernel
theorem nd_Machines_copyFrom_56 : decode nC_Machines_copyFrom 56 = .ok (.getfield 25, 3) := by decide +kernel
theorem nd_Machines_copyFrom_59 : decode nC_Machines_copyFrom 59 = .ok (.iload_n 2, 1) := by decide +kernel
theorem nd_Machines_copyFrom_60 : decode nC_Machines_copyFrom 60 = .ok (.aload_n 1, 1) := by decide +kernel
theorem nd_Machines_copyFrom_61 : decode nC_Machines_copyFrom 61 = .ok (.getfield 25, 3) := by decide +kernel
theorem nd_Machines_copyFrom_64 : decode nC_Machines_copyFrom 64 = .ok (.iload_n 2, 1) := by decide +kernel
theorem nd_Machines_copyFrom_65 : decode nC_Machines_copyFrom 65 = .ok (.baload, 1) := by decide +kernel
theorem nd_Machines_copyFrom_66 : decode nC_Machines_copyFrom 66 = .ok (.bastore, 1) := by decide +kernel
theorem nd_Machines_copyFrom_67 : decode nC_Machines_copyFrom 67 = .ok (.iinc 2 1, 3) := by decide +kernel
theorem nd_Machines_copyFrom_70 : decode nC_Machines_copyFrom 70 = .ok (.goto (-68), 3) := by decide +kernel
theorem nd_Machines_copyFrom_73 : decode nC_Machines_copyFrom 73 = .ok (.return_, 1) := by decide +kernel
theorem nd_House_copyFrom_0 : decode nC_House_copyFrom 0 = .ok (.aload_n 0, 1) := by decide +kernel
theorem nd_House_copyFrom_1 : decode nC_House_copyFrom 1 = .ok (.getfield 10, 3) := by decide +kernel
theorem nd_House_copyFrom_4 : decode nC_House_copyFrom 4 = .ok (.aload_n 1, 1) := by decide +kernel
theorem nd_House_copyFrom_5 : decode nC_House_copyFrom 5 = .ok (.getfield 10, 3) := by decide +kernel
theorem nd_House_copyFrom_8 : decode nC_House_copyFrom 8 = .ok (.invokevirtual 58, 3) := by decide +kernel
theorem nd_House_copyFrom_11 : decode nC_House_copyFrom 11 = .ok (.aload_n 0, 1) := by decide +kernel
theorem nd_House_copyFrom_12 : decode nC_House_copyFrom 12 = .ok (.getfield 19, 3) := by decide +kernel
theorem nd_House_copyFrom_15 : decode nC_House_copyFrom 15 = .ok (.aload_n 1, 1) := by decide +kernel
theorem nd_House_copyFrom_16 : decode nC_House_copyFrom 16 = .ok (.getfield 19, 3) := by decide +kernel
theorem nd_House_copyFrom_19 : decode nC_House_copyFrom 19 = .ok (.invokevirtual 61, 3) := by decide +kernel
theorem nd_House_copyFrom_22 : decode nC_House_copyFrom 22 = .ok (.aload_n 0, 1) := by decide +kernel
theorem nd_House_copyFrom_23 : decode nC_House_copyFrom 23 = .ok (.getfield 35, 3) := by decide +kernel
theorem nd_House_copyFrom_26 : decode nC_House_copyFrom 26 = .ok (.aload_n 1, 1) := by decide +kernel
theorem nd_House_copyFrom_27 : decode nC_House_copyFrom 27 = .ok (.getfield 35, 3) := by decide +kernel
theorem nd_House_copyFrom_30 : decode nC_House_copyFrom 30 = .ok (.invokevirtual 64, 3) := by decide +kernel
theorem nd_House_copyFrom_33 : decode nC_House_copyFrom 33 = .ok (.aload_n 0, 1) := by decide +kernel
theorem nd_House_copyFrom_34 : decode nC_House_copyFrom 34 = .ok (.getfield 26, 3) := by decide +kernel
theorem nd_House_copyFrom_37 : decode nC_House_copyFrom 37 = .ok (.aload_n 1, 1) := by decide +kernel
theorem nd_House_copyFrom_38 : decode nC_House_copyFrom 38 = .ok (.getfield 26, 3) := by decide +kernel
theorem nd_House_copyFrom_41 : decode nC_House_copyFrom 41 = .ok (.invokevirtual 67, 3) := by decide +kernel
theorem nd_House_copyFrom_44 : decode nC_House_copyFrom 44 = .ok (.return_, 1) := by decide +kernel
theorem nd_Machines_install_0 : decode nC_Machines_install 0 = .ok (.aload_n 0, 1) := by decide +kernel
theorem nd_Machines_install_1 : decode nC_Machines_install 1 = .ok (.getfield 9, 3) := by decide +kernel
theorem nd_Machines_install_4 : decode nC_Machines_install 4 = .ok (.iload_n 1, 1) := by decide +kernel
theorem nd_Machines_install_5 : decode nC_Machines_install 5 = .ok (.iload_n 2, 1) := by decide +kernel
theorem nd_Machines_install_6 : decode nC_Machines_install 6 = .ok (.iastore, 1) := by decide +kernel
theorem nd_Machines_install_7 : decode nC_Machines_install 7 = .ok (.aload_n 0, 1) := by decide +kernel
theorem nd_Machines_install_8 : decode nC_Machines_install 8 = .ok (.getfield 15, 3) := by decide +kernel
theorem nd_Machines_install_11 : decode nC_Machines_install 11 = .ok (.iload_n 1, 1) := by decide +kernel
theorem nd_Machines_install_12 : decode nC_Machines_install 12 = .ok (.iload_n 3, 1) := by decide +kernel
theorem nd_Machines_install_13 : decode nC_Machines_install 13 = .ok (.iastore, 1) := by decide +kernel
theorem nd_Machines_install_14 : decode nC_Machines_install 14 = .ok (.aload_n 0, 1) := by decide +kernel
theorem nd_Machines_install_15 : decode nC_Machines_install 15 = .ok (.getfield 18, 3) := by decide +kernel
theorem nd_Machines_install_18 : decode nC_Machines_install 18 = .ok (.iload_n 1, 1) := by decide +kernel
theorem nd_Machines_install_19 : decode nC_Machines_install 19 = .ok (.iload 4, 2) := by decide +kernel
theorem nd_Machines_install_21 : decode nC_Machines_install 21 = .ok (.iastore, 1) := by decide +kernel
theorem nd_Machines_install_22 : decode nC_Machines_install 22 = .ok (.aload_n 0, 1) := by decide +kernel
theorem nd_Machines_install_23 : decode nC_Machines_install 23 = .ok (.getfield 21, 3) := by decide +kernel
theorem nd_Machines_install_26 : decode nC_Machines_install 26 = .ok (.iload_n 1, 1) := by decide +kernel
theorem nd_Machines_install_27 : decode nC_Machines_install 27 = .ok (.iconst 1, 1) := by decide +kernel
theorem nd_Machines_install_28 : decode nC_Machines_install 28 = .ok (.bastore, 1) := by decide +kernel
theorem nd_Machines_install_29 : decode nC_Machines_install 29 = .ok (.aload_n 0, 1) := by decide +kernel
theorem nd_Machines_install_30 : decode nC_Machines_install 30 = .ok (.getfield 25, 3) := by decide +kernel
theorem nd_Machines_install_33 : decode nC_Machines_install 33 = .ok (.iload_n 1, 1) := by decide +kernel
theorem nd_Machines_install_34 : decode nC_Machines_install 34 = .ok (.iconst 0, 1) := by decide +kernel
theorem nd_Machines_install_35 : decode nC_Machines_install 35 = .ok (.bastore, 1) := by decide +kernel
theorem nd_Machines_install_36 : decode nC_Machines_install 36 = .ok (.return_, 1) := by decide +kernel
theorem nd_Machines_rateOr_0 : decode nC_Machines_rateOr 0 = .ok (.aload_n 0, 1) := by decide +kernel
theorem nd_Machines_rateOr_1 : decode nC_Machines_rateOr 1 = .ok (.getfield 21, 3) := by decide +kernel
theorem nd_Machines_rateOr_4 : decode nC_Machines_rateOr 4 = .ok (.iload_n 1, 1) := by decide +kernel
theorem nd_Machines_rateOr_5 : decode nC_Machines_rateOr 5 = .ok (.baload, 1) := by decide +kernel
theorem nd_Machines_rateOr_6 : decode nC_Machines_rateOr 6 = .ok (.ifCond .eq 12, 3) := by decide +kernel
theorem nd_Machines_rateOr_9 : decode nC_Machines_rateOr 9 = .ok (.aload_n 0, 1) := by decide +kernel
theorem nd_Machines_rateOr_10 : decode nC_Machines_rateOr 10 = .ok (.getfield 18, 3) := by decide +kernel
theorem nd_Machines_rateOr_13 : decode nC_Machines_rateOr 13 = .ok (.iload_n 1, 1) := by decide +kernel
theorem nd_Machines_rateOr_14 : decode nC_Machines_rateOr 14 = .ok (.iaload, 1) := by decide +kernel
theorem nd_Machines_rateOr_15 : decode nC_Machines_rateOr 15 = .ok (.goto 4, 3) := by decide +kernel
theorem nd_Machines_rateOr_18 : decode nC_Machines_rateOr 18 = .ok (.iload_n 2, 1) := by decide +kernel
theorem nd_Machines_rateOr_19 : decode nC_Machines_rateOr 19 = .ok (.ireturn, 1) := by decide +kernel
theorem nd_Rules_append_0 : decode nC_Rules_append 0 = .ok (.aload_n 0, 1) := by decide +kernel
theorem nd_Rules_append_1 : decode nC_Rules_append 1 = .ok (.getfield 9, 3) := by decide +kernel
theorem nd_Rules_append_4 : decode nC_Rules_append 4 = .ok (.aload_n 0, 1) := by decide +kernel
theorem nd_Rules_append_5 : decode nC_Rules_append 5 = .ok (.getfield 29, 3) := by decide +kernel
theorem nd_Rules_append_8 : decode nC_Rules_append 8 = .ok (.iload_n 1, 1) := by decide +kernel
theorem nd_Rules_append_9 : decode nC_Rules_append 9 = .ok (.iastore, 1) := by decide +kernel
theorem nd_Rules_append_10 : decode nC_Rules_append 10 = .ok (.aload_n 0, 1) := by decide +kernel
theorem nd_Rules_append_11 : decode nC_Rules_append 11 = .ok (.getfield 15, 3) := by decide +kernel
theorem nd_Rules_append_14 : decode nC_Rules_append 14 = .ok (.aload_n 0, 1) := by decide +kernel
theorem nd_Rules_append_15 : decode nC_Rules_append 15 = .ok (.getfield 29, 3) := by decide +kernel
theorem nd_Rules_append_18 : decode nC_Rules_append 18 = .ok (.iload_n 2, 1) := by decide +kernel
theorem nd_Rules_append_19 : decode nC_Rules_append 19 = .ok (.iastore, 1) := by decide +kernel
theorem nd_Rules_append_20 : decode nC_Rules_append 20 = .ok (.aload_n 0, 1) := by decide +kernel
theorem nd_Rules_append_21 : decode nC_Rules_append 21 = .ok (.getfield 18, 3) := by decide +kernel
theorem nd_Rules_append_24 : decode nC_Rules_append 24 = .ok (.aload_n 0, 1) := by decide +kernel
theorem nd_Rules_append_25 : decode nC_Rules_append 25 = .ok (.getfield 29, 3) := by decide +kernel
theorem nd_Rules_append_28 : decode nC_Rules_append 28 = .ok (.iload_n 3, 1) := by decide +kernel
theorem nd_Rules_append_29 : decode nC_Rules_append 29 = .ok (.iastore, 1) := by decide +kernel
theorem nd_Rules_append_30 : decode nC_Rules_append 30 = .ok (.aload_n 0, 1) := by decide +kernel
theorem nd_Rules_append_31 : decode nC_Rules_append 31 = .ok (.dup, 1) := by decide +kernel
theorem nd_Rules_append_32 : decode nC_Rules_append 32 = .ok (.getfield 29, 3) := by decide +kernel
theorem nd_Rules_append_35 : decode nC_Rules_append 35 = .ok (.iconst 1, 1) := by decide +kernel
theorem nd_Rules_append_36 : decode nC_Rules_append 36 = .ok (.iadd, 1) := by decide +kernel
theorem nd_Rules_append_37 : decode nC_Rules_append 37 = .ok (.putfield 29, 3) := by decide +kernel
theorem nd_Rules_append_40 : decode nC_Rules_append 40 = .ok (.aload_n 0, 1) := by decide +kernel
theorem nd_Rules_append_41 : decode nC_Rules_append 41 = .ok (.getfield 29, 3) := by decide +kernel
theorem nd_Rules_append_44 : decode nC_Rules_append 44 = .ok (.iconst 1, 1) := by decide +kernel
theorem nd_Rules_append_45 : decode nC_Rules_append 45 = .ok (.isub, 1) := by decide +kernel
theorem nd_Rules_append_46 : decode nC_Rules_append 46 = .ok (.ireturn, 1) := by decide +kernel
theorem nd_Rules_isBroken_0 : decode nC_Rules_isBroken 0 = .ok (.aload_n 0, 1) := by decide +kernel
theorem nd_Rules_isBroken_1 : decode nC_Rules_isBroken 1 = .ok (.getfield 9, 3) := by decide +kernel
theorem nd_Rules_isBroken_4 : decode nC_Rules_isBroken 4 = .ok (.iload_n 1, 1) := by decide +kernel
theorem nd_Rules_isBroken_5 : decode nC_Rules_isBroken 5 = .ok (.iaload, 1) := by decide +kernel
theorem nd_Rules_isBroken_6 : decode nC_Rules_isBroken 6 = .ok (.tableswitch 114 0 3 #[30, 51, 72, 93], 30) := by decide +kernel
theorem nd_Rules_isBroken_36 : decode nC_Rules_isBroken 36 = .ok (.aload_n 2, 1) := by decide +kernel
theorem nd_Rules_isBroken_37 : decode nC_Rules_isBroken 37 = .ok (.invokevirtual 41, 3) := by decide +kernel
theorem nd_Rules_isBroken_40 : decode nC_Rules_isBroken 40 = .ok (.aload_n 0, 1) := by decide +kernel
theorem nd_Rules_isBroken_41 : decode nC_Rules_isBroken 41 = .ok (.getfield 15, 3) := by decide +kernel
theorem nd_Rules_isBroken_44 : decode nC_Rules_isBroken 44 = .ok (.iload_n 1, 1) := by decide +kernel
theorem nd_Rules_isBroken_45 : decode nC_Rules_isBroken 45 = .ok (.iaload, 1) := by decide +kernel
theorem nd_Rules_isBroken_46 : decode nC_Rules_isBroken 46 = .ok (.i2l, 1) := by decide +kernel
theorem nd_Rules_isBroken_47 : decode nC_Rules_isBroken 47 = .ok (.lcmp, 1) := by decide +kernel
theorem nd_Rules_isBroken_48 : decode nC_Rules_isBroken 48 = .ok (.ifCond .le 7, 3) := by decide +kernel
theorem nd_Rules_isBroken_51 : decode nC_Rules_isBroken 51 = .ok (.iconst 1, 1) := by decide +kernel
theorem nd_Rules_isBroken_52 : decode nC_Rules_isBroken 52 = .ok (.goto 4, 3) := by decide +kernel
theorem nd_Rules_isBroken_55 : decode nC_Rules_isBroken 55 = .ok (.iconst 0, 1) := by decide +kernel
theorem nd_Rules_isBroken_56 : decode nC_Rules_isBroken 56 = .ok (.ireturn, 1) := by decide +kernel
theorem nd_Rules_isBroken_57 : decode nC_Rules_isBroken 57 = .ok (.aload_n 2, 1) := by decide +kernel
theorem nd_Rules_isBroken_58 : decode nC_Rules_isBroken 58 = .ok (.invokevirtual 41, 3) := by decide +kernel
theorem nd_Rules_isBroken_61 : decode nC_Rules_isBroken 61 = .ok (.aload_n 0, 1) := by decide +kernel
theorem nd_Rules_isBroken_62 : decode nC_Rules_isBroken 62 = .ok (.getfield 15, 3) := by decide +kernel
theorem nd_Rules_isBroken_65 : decode nC_Rules_isBroken 65 = .ok (.iload_n 1, 1) := by decide +kernel
theorem nd_Rules_isBroken_66 : decode nC_Rules_isBroken 66 = .ok (.iaload, 1) := by decide +kernel
theorem nd_Rules_isBroken_67 : decode nC_Rules_isBroken 67 = .ok (.i2l, 1) := by decide +kernel
theorem nd_Rules_isBroken_68 : decode nC_Rules_isBroken 68 = .ok (.lcmp, 1) := by decide +kernel
theorem nd_Rules_isBroken_69 : decode nC_Rules_isBroken 69 = .ok (.ifCond .ge 7, 3) := by decide +kernel
theorem nd_Rules_isBroken_72 : decode nC_Rules_isBroken 72 = .ok (.iconst 1, 1) := by decide +kernel
theorem nd_Rules_isBroken_73 : decode nC_Rules_isBroken 73 = .ok (.goto 4, 3) := by decide +kernel
theorem nd_Rules_isBroken_76 : decode nC_Rules_isBroken 76 = .ok (.iconst 0, 1) := by decide +kernel
theorem nd_Rules_isBroken_77 : decode nC_Rules_isBroken 77 = .ok (.ireturn, 1) := by decide +kernel
theorem nd_Rules_isBroken_78 : decode nC_Rules_isBroken 78 = .ok (.aload_n 2, 1) := by decide +kernel
theorem nd_Rules_isBroken_79 : decode nC_Rules_isBroken 79 = .ok (.invokevirtual 47, 3) := by decide +kernel
theorem nd_Rules_isBroken_82 : decode nC_Rules_isBroken 82 = .ok (.aload_n 0, 1) := by decide +kernel
theorem nd_Rules_isBroken_83 : decode nC_Rules_isBroken 83 = .ok (.getfield 15, 3) := by decide +kernel
theorem nd_Rules_isBroken_86 : decode nC_Rules_isBroken 86 = .ok (.iload_n 1, 1) := by decide +kernel
theorem nd_Rules_isBroken_87 : decode nC_Rules_isBroken 87 = .ok (.iaload, 1) := by decide +kernel
theorem nd_Rules_isBroken_88 : decode nC_Rules_isBroken 88 = .ok (.i2l, 1) := by decide +kernel
theorem nd_Rules_isBroken_89 : decode nC_Rules_isBroken 89 = .ok (.lcmp, 1) := by decide +kernel
theorem nd_Rules_isBroken_90 : decode nC_Rules_isBroken 90 = .ok (.ifCond .le 7, 3) := by decide +kernel
theorem nd_Rules_isBroken_93 : decode nC_Rules_isBroken 93 = .ok (.iconst 1, 1) := by decide +kernel
theorem nd_Rules_isBroken_94 : decode nC_Rules_isBroken 94 = .ok (.goto 4, 3) := by decide +kernel
theorem nd_Rules_isBroken_97 : decode nC_Rules_isBroken 97 = .ok (.iconst 0, 1) := by decide +kernel
theorem nd_Rules_isBroken_98 : decode nC_Rules_isBroken 98 = .ok (.ireturn, 1) := by decide +kernel
theorem nd_Rules_isBroken_99 : decode nC_Rules_isBroken 99 = .ok (.aload_n 2, 1) := by decide +kernel
theorem nd_Rules_isBroken_100 : decode nC_Rules_isBroken 100 = .ok (.invokevirtual 47, 3) := by decide +kernel
theorem nd_Rules_isBroken_103 : decode nC_Rules_isBroken 103 = .ok (.aload_n 0, 1) := by decide +kernel
theorem nd_Rules_isBroken_104 : decode nC_Rules_isBroken 104 = .ok (.getfield 15, 3) := by decide +kernel
theorem nd_Rules_isBroken_107 : decode nC_Rules_isBroken 107 = .ok (.iload_n 1, 1) := by decide +kernel
theorem nd_Rules_isBroken_108 : decode nC_Rules_isBroken 108 = .ok (.iaload, 1) := by decide +kernel
theorem nd_Rules_isBroken_109 : decode nC_Rules_isBroken 109 = .ok (.i2l, 1) := by decide +kernel
theorem nd_Rules_isBroken_110 : decode nC_Rules_isBroken 110 = .ok (.lcmp, 1) := by decide +kernel
theorem nd_Rules_isBroken_111 : decode nC_Rules_isBroken 111 = .ok (.ifCond .ge 7, 3) := by decide +kernel
theorem nd_Rules_isBroken_114 : decode nC_Rules_isBroken 114 = .ok (.iconst 1, 1) := by decide +kernel
theorem nd_Rules_isBroken_115 : decode nC_Rules_isBroken 115 = .ok (.goto 4, 3) := by decide +kernel
theorem nd_Rules_isBroken_118 : decode nC_Rules_isBroken 118 = .ok (.iconst 0, 1) := by decide +kernel
theorem nd_Rules_isBroken_119 : decode nC_Rules_isBroken 119 = .ok (.ireturn, 1) := by decide +kernel
theorem nd_Rules_isBroken_120 : decode nC_Rules_isBroken 120 = .ok (.iconst 0, 1) := by decide +kernel
theorem nd_Rules_isBroken_121 : decode nC_Rules_isBroken 121 = .ok (.ireturn, 1) := by decide +kernel
theorem nd_Rules_isHeld_0 : decode nC_Rules_isHeld 0 = .ok (.aload_n 0, 1) := by decide +kernel
theorem nd_Rules_isHeld_1 : decode nC_Rules_isHeld 1 = .ok (.getfield 21, 3) := by decide +kernel
theorem nd_Rules_isHeld_4 : decode nC_Rules_isHeld 4 = .ok (.iload_n 1, 1) := by decide +kernel
theorem nd_Rules_isHeld_5 : decode nC_Rules_isHeld 5 = .ok (.iaload, 1) := by decide +kernel
theorem nd_Rules_isHeld_6 : decode nC_Rules_isHeld 6 = .ok (.istore_n 3, 1) := by decide +kernel
theorem nd_Rules_isHeld_7 : decode nC_Rules_isHeld 7 = .ok (.iload_n 3, 1) := by decide +kernel
theorem nd_Rules_isHeld_8 : decode nC_Rules_isHeld 8 = .ok (.ifCond .le 28, 3) := by decide +kernel
theorem nd_Rules_isHeld_11 : decode nC_Rules_isHeld 11 = .ok (.iload_n 2, 1) := by decide +kernel
theorem nd_Rules_isHeld_12 : decode nC_Rules_isHeld 12 = .ok (.aload_n 0, 1) := by decide +kernel
theorem nd_Rules_isHeld_13 : decode nC_Rules_isHeld 13 = .ok (.getfield 26, 3) := by decide +kernel
theorem nd_Rules_isHeld_16 : decode nC_Rules_isHeld 16 = .ok (.iload_n 1, 1) := by decide +kernel
theorem nd_Rules_isHeld_17 : decode nC_Rules_isHeld 17 = .ok (.aaload, 1) := by decide +kernel
theorem nd_Rules_isHeld_18 : decode nC_Rules_isHeld 18 = .ok (.iload_n 3, 1) := by decide +kernel
theorem nd_Rules_isHeld_19 : decode nC_Rules_isHeld 19 = .ok (.iconst 1, 1) := by decide +kernel
theorem nd_Rules_isHeld_20 : decode nC_Rules_isHeld 20 = .ok (.isub, 1) := by decide +kernel
theorem nd_Rules_isHeld_21 : decode nC_Rules_isHeld 21 = .ok (.iaload, 1) := by decide +kernel
theorem nd_Rules_isHeld_22 : decode nC_Rules_isHeld 22 = .ok (.isub, 1) := by decide +kernel
theorem nd_Rules_isHeld_23 : decode nC_Rules_isHeld 23 = .ok (.aload_n 0, 1) := by decide +kernel
theorem nd_Rules_isHeld_24 : decode nC_Rules_isHeld 24 = .ok (.getfield 18, 3) := by decide +kernel
theorem nd_Rules_isHeld_27 : decode nC_Rules_isHeld 27 = .ok (.iload_n 1, 1) := by decide +kernel
theorem nd_Rules_isHeld_28 : decode nC_Rules_isHeld 28 = .ok (.iaload, 1) := by decide +kernel
theorem nd_Rules_isHeld_29 : decode nC_Rules_isHeld 29 = .ok (.if_icmp .ge 7, 3) := by decide +kernel
theorem nd_Rules_isHeld_32 : decode nC_Rules_isHeld 32 = .ok (.iconst 1, 1) := by decide +kernel
theorem nd_Rules_isHeld_33 : decode nC_Rules_isHeld 33 = .ok (.goto 4, 3) := by decide +kernel
theorem nd_Rules_isHeld_36 : decode nC_Rules_isHeld 36 = .ok (.iconst 0, 1) := by decide +kernel
theorem nd_Rules_isHeld_37 : decode nC_Rules_isHeld 37 = .ok (.ireturn, 1) := by decide +kernel
theorem nd_Rules_tell_0 : decode nC_Rules_tell 0 = .ok (.iconst 0, 1) := by decide +kernel
theorem nd_Rules_tell_1 : decode nC_Rules_tell 1 = .ok (.istore_n 3, 1) := by decide +kernel
theorem nd_Rules_tell_2 : decode nC_Rules_tell 2 = .ok (.iload_n 3, 1) := by decide +kernel
theorem nd_Rules_tell_3 : decode nC_Rules_tell 3 = .ok (.aload_n 0, 1) := by decide +kernel
theorem nd_Rules_tell_4 : decode nC_Rules_tell 4 = .ok (.getfield 29, 3) := by decide +kernel
theorem nd_Rules_tell_7 : decode nC_Rules_tell 7 = .ok (.if_icmp .ge 51, 3) := by decide +kernel
theorem nd_Rules_tell_10 : decode nC_Rules_tell 10 = .ok (.aload_n 0, 1) := by decide +kernel
theorem nd_Rules_tell_11 : decode nC_Rules_tell 11 = .ok (.iload_n 3, 1) := by decide +kernel
theorem nd_Rules_tell_12 : decode nC_Rules_tell 12 = .ok (.aload_n 2, 1) := by decide +kernel
theorem nd_Rules_tell_13 : decode nC_Rules_tell 13 = .ok (.invokevirtual 33, 3) := by decide +kernel
theorem nd_Rules_tell_16 : decode nC_Rules_tell 16 = .ok (.ifCond .eq 36, 3) := by decide +kernel
theorem nd_Rules_tell_19 : decode nC_Rules_tell 19 = .ok (.aload_n 0, 1) := by decide +kernel
theorem nd_Rules_tell_20 : decode nC_Rules_tell 20 = .ok (.iload_n 3, 1) := by decide +kernel
theorem nd_Rules_tell_21 : decode nC_Rules_tell 21 = .ok (.iload_n 1, 1) := by decide +kernel
theorem nd_Rules_tell_22 : decode nC_Rules_tell 22 = .ok (.invokevirtual 37, 3) := by decide +kernel
theorem nd_Rules_tell_25 : decode nC_Rules_tell 25 = .ok (.ifCond .ne 27, 3) := by decide +kernel
theorem nd_Rules_tell_28 : decode nC_Rules_tell 28 = .ok (.aload_n 0, 1) := by decide +kernel
theorem nd_Rules_tell_29 : decode nC_Rules_tell 29 = .ok (.getfield 26, 3) := by decide +kernel
theorem nd_Rules_tell_32 : decode nC_Rules_tell 32 = .ok (.iload_n 3, 1) := by decide +kernel
theorem nd_Rules_tell_33 : decode nC_Rules_tell 33 = .ok (.aaload, 1) := by decide +kernel
theorem nd_Rules_tell_34 : decode nC_Rules_tell 34 = .ok (.aload_n 0, 1) := by decide +kernel
theorem nd_Rules_tell_35 : decode nC_Rules_tell 35 = .ok (.getfield 21, 3) := by decide +kernel
theorem nd_Rules_tell_38 : decode nC_Rules_tell 38 = .ok (.iload_n 3, 1) := by decide +kernel
theorem nd_Rules_tell_39 : decode nC_Rules_tell 39 = .ok (.iaload, 1) := by decide +kernel
theorem nd_Rules_tell_40 : decode nC_Rules_tell 40 = .ok (.iload_n 1, 1) := by decide +kernel
theorem nd_Rules_tell_41 : decode nC_Rules_tell 41 = .ok (.iastore, 1) := by decide +kernel
theorem nd_Rules_tell_42 : decode nC_Rules_tell 42 = .ok (.aload_n 0, 1) := by decide +kernel
theorem nd_Rules_tell_43 : decode nC_Rules_tell 43 = .ok (.getfield 21, 3) := by decide +kernel
theorem nd_Rules_tell_46 : decode nC_Rules_tell 46 = .ok (.iload_n 3, 1) := by decide +kernel
theorem nd_Rules_tell_47 : decode nC_Rules_tell 47 = .ok (.dup2, 1) := by decide +kernel
theorem nd_Rules_tell_48 : decode nC_Rules_tell 48 = .ok (.iaload, 1) := by decide +kernel
theorem nd_Rules_tell_49 : decode nC_Rules_tell 49 = .ok (.iconst 1, 1) := by decide +kernel
theorem nd_Rules_tell_50 : decode nC_Rules_tell 50 = .ok (.iadd, 1) := by decide +kernel
theorem nd_Rules_tell_51 : decode nC_Rules_tell 51 = .ok (.iastore, 1) := by decide +kernel
theorem nd_Rules_tell_52 : decode nC_Rules_tell 52 = .ok (.iinc 3 1, 3) := by decide +kernel
theorem nd_Rules_tell_55 : decode nC_Rules_tell 55 = .ok (.goto (-53), 3) := by decide +kernel
theorem nd_Rules_tell_58 : decode nC_Rules_tell 58 = .ok (.return_, 1) := by decide +kernel
theorem nd_Steps_wouldRise_0 : decode nC_Steps_wouldRise 0 = .ok (.aload_n 0, 1) := by decide +kernel
theorem nd_Steps_wouldRise_1 : decode nC_Steps_wouldRise 1 = .ok (.getfield 16, 3) := by decide +kernel
theorem nd_Steps_wouldRise_4 : decode nC_Steps_wouldRise 4 = .ok (.ifCond .eq 18, 3) := by decide +kernel
theorem nd_Steps_wouldRise_7 : decode nC_Steps_wouldRise 7 = .ok (.iload_n 1, 1) := by decide +kernel
theorem nd_Steps_wouldRise_8 : decode nC_Steps_wouldRise 8 = .ok (.aload_n 0, 1) := by decide +kernel
theorem nd_Steps_wouldRise_9 : decode nC_Steps_wouldRise 9 = .ok (.getfield 7, 3) := by decide +kernel
theorem nd_Steps_wouldRise_12 : decode nC_Steps_wouldRise 12 = .ok (.aload_n 0, 1) := by decide +kernel
theorem nd_Steps_wouldRise_13 : decode nC_Steps_wouldRise 13 = .ok (.getfield 16, 3) := by decide +kernel
theorem nd_Steps_wouldRise_16 : decode nC_Steps_wouldRise 16 = .ok (.iconst 1, 1) := by decide +kernel
theorem nd_Steps_wouldRise_17 : decode nC_Steps_wouldRise 17 = .ok (.isub, 1) := by decide +kernel
theorem nd_Steps_wouldRise_18 : decode nC_Steps_wouldRise 18 = .ok (.iaload, 1) := by decide +kernel
theorem nd_Steps_wouldRise_19 : decode nC_Steps_wouldRise 19 = .ok (.if_icmp .le 7, 3) := by decide +kernel
theorem nd_Steps_wouldRise_22 : decode nC_Steps_wouldRise 22 = .ok (.iconst 1, 1) := by decide +kernel
theorem nd_Steps_wouldRise_23 : decode nC_Steps_wouldRise 23 = .ok (.goto 4, 3) := by decide +kernel
theorem nd_Steps_wouldRise_26 : decode nC_Steps_wouldRise 26 = .ok (.iconst 0, 1) := by decide +kernel
theorem nd_Steps_wouldRise_27 : decode nC_Steps_wouldRise 27 = .ok (.ireturn, 1) := by decide +kernel
theorem nd_Steps_append_0 : decode nC_Steps_append 0 = .ok (.aload_n 0, 1) := by decide +kernel
theorem nd_Steps_append_1 : decode nC_Steps_append 1 = .ok (.getfield 7, 3) := by decide +kernel
theorem nd_Steps_append_4 : decode nC_Steps_append 4 = .ok (.aload_n 0, 1) := by decide +kernel
theorem nd_Steps_append_5 : decode nC_Steps_append 5 = .ok (.getfield 16, 3) := by decide +kernel
theorem nd_Steps_append_8 : decode nC_Steps_append 8 = .ok (.iload_n 1, 1) := by decide +kernel
theorem nd_Steps_append_9 : decode nC_Steps_append 9 = .ok (.iastore, 1) := by decide +kernel
theorem nd_Steps_append_10 : decode nC_Steps_append 10 = .ok (.aload_n 0, 1) := by decide +kernel
theorem nd_Steps_append_11 : decode nC_Steps_append 11 = .ok (.getfield 13, 3) := by decide +kernel
theorem nd_Steps_append_14 : decode nC_Steps_append 14 = .ok (.aload_n 0, 1) := by decide +kernel
theorem nd_Steps_append_15 : decode nC_Steps_append 15 = .ok (.getfield 16, 3) := by decide +kernel
theorem nd_Steps_append_18 : decode nC_Steps_append 18 = .ok (.iload_n 2, 1) := by decide +kernel
theorem nd_Steps_append_19 : decode nC_Steps_append 19 = .ok (.iastore, 1) := by decide +kernel
theorem nd_Steps_append_20 : decode nC_Steps_append 20 = .ok (.aload_n 0, 1) := by decide +kernel
theorem nd_Steps_append_21 : decode nC_Steps_append 21 = .ok (.dup, 1) := by decide +kernel
theorem nd_Steps_append_22 : decode nC_Steps_append 22 = .ok (.getfield 16, 3) := by decide +kernel
theorem nd_Steps_append_25 : decode nC_Steps_append 25 = .ok (.iconst 1, 1) := by decide +kernel
theorem nd_Steps_append_26 : decode nC_Steps_append 26 = .ok (.iadd, 1) := by decide +kernel
theorem nd_Steps_append_27 : decode nC_Steps_append 27 = .ok (.putfield 16, 3) := by decide +kernel
theorem nd_Steps_append_30 : decode nC_Steps_append 30 = .ok (.aload_n 0, 1) := by decide +kernel
theorem nd_Steps_append_31 : decode nC_Steps_append 31 = .ok (.getfield 16, 3) := by decide +kernel
theorem nd_Steps_append_34 : decode nC_Steps_append 34 = .ok (.iconst 1, 1) := by decide +kernel
theorem nd_Steps_append_35 : decode nC_Steps_append 35 = .ok (.isub, 1) := by decide +kernel
theorem nd_Steps_append_36 : decode nC_Steps_append 36 = .ok (.ireturn, 1) := by decide +kernel
theorem nd_Steps_amountFrom_0 : decode nC_Steps_amountFrom 0 = .ok (.iconst 0, 1) := by decide +kernel
theorem nd_Steps_amountFrom_1 : decode nC_Steps_amountFrom 1 = .ok (.istore_n 3, 1) := by decide +kernel
theorem nd_Steps_amountFrom_2 : decode nC_Steps_amountFrom 2 = .ok (.iconst 0, 1) := by decide +kernel
theorem nd_Steps_amountFrom_3 : decode nC_Steps_amountFrom 3 = .ok (.istore 4, 2) := by decide +kernel
theorem nd_Steps_amountFrom_5 : decode nC_Steps_amountFrom 5 = .ok (.iload 4, 2) := by decide +kernel
theorem nd_Steps_amountFrom_7 : decode nC_Steps_amountFrom 7 = .ok (.aload_n 0, 1) := by decide +kernel
theorem nd_Steps_amountFrom_8 : decode nC_Steps_amountFrom 8 = .ok (.getfield 16, 3) := by decide +kernel
theorem nd_Steps_amountFrom_11 : decode nC_Steps_amountFrom 11 = .ok (.if_icmp .ge 30, 3) := by decide +kernel
theorem nd_Steps_amountFrom_14 : decode nC_Steps_amountFrom 14 = .ok (.aload_n 0, 1) := by decide +kernel
theorem nd_Steps_amountFrom_15 : decode nC_Steps_amountFrom 15 = .ok (.getfield 7, 3) := by decide +kernel
theorem nd_Steps_amountFrom_18 : decode nC_Steps_amountFrom 18 = .ok (.iload 4, 2) := by decide +kernel
theorem nd_Steps_amountFrom_20 : decode nC_Steps_amountFrom 20 = .ok (.iaload, 1) := by decide +kernel
theorem nd_Steps_amountFrom_21 : decode nC_Steps_amountFrom 21 = .ok (.i2l, 1) := by decide +kernel
theorem nd_Steps_amountFrom_22 : decode nC_Steps_amountFrom 22 = .ok (.lload_n 1, 1) := by decide +kernel
theorem nd_Steps_amountFrom_23 : decode nC_Steps_amountFrom 23 = .ok (.lcmp, 1) := by decide +kernel
theorem nd_Steps_amountFrom_24 : decode nC_Steps_amountFrom 24 = .ok (.ifCond .gt 17, 3) := by decide +kernel
theorem nd_Steps_amountFrom_27 : decode nC_Steps_amountFrom 27 = .ok (.aload_n 0, 1) := by decide +kernel
theorem nd_Steps_amountFrom_28 : decode nC_Steps_amountFrom 28 = .ok (.getfield 13, 3) := by decide +kernel
theorem nd_Steps_amountFrom_31 : decode nC_Steps_amountFrom 31 = .ok (.iload 4, 2) := by decide +kernel
theorem nd_Steps_amountFrom_33 : decode nC_Steps_amountFrom 33 = .ok (.iaload, 1) := by decide +kernel
theorem nd_Steps_amountFrom_34 : decode nC_Steps_amountFrom 34 = .ok (.istore_n 3, 1) := by decide +kernel
theorem nd_Steps_amountFrom_35 : decode nC_Steps_amountFrom 35 = .ok (.iinc 4 1, 3) := by decide +kernel
theorem nd_Steps_amountFrom_38 : decode nC_Steps_amountFrom 38 = .ok (.goto (-33), 3) := by decide +kernel
theorem nd_Steps_amountFrom_41 : decode nC_Steps_amountFrom 41 = .ok (.iload_n 3, 1) := by decide +kernel
theorem nd_Steps_amountFrom_42 : decode nC_Steps_amountFrom 42 = .ok (.ireturn, 1) := by decide +kernel
theorem nd_Walls_append_0 : decode nC_Walls_append 0 = .ok (.aload_n 0, 1) := by decide +kernel
theorem nd_Walls_append_1 : decode nC_Walls_append 1 = .ok (.getfield 9, 3) := by decide +kernel
theorem nd_Walls_append_4 : decode nC_Walls_append 4 = .ok (.aload_n 0, 1) := by decide +kernel
theorem nd_Walls_append_5 : decode nC_Walls_append 5 = .ok (.getfield 22, 3) := by decide +kernel
theorem nd_Walls_append_8 : decode nC_Walls_append 8 = .ok (.iload_n 1, 1) := by decide +kernel
theorem nd_Walls_append_9 : decode nC_Walls_append 9 = .ok (.iastore, 1) := by decide +kernel
theorem nd_Walls_append_10 : decode nC_Walls_append 10 = .ok (.aload_n 0, 1) := by decide +kernel
theorem nd_Walls_append_11 : decode nC_Walls_append 11 = .ok (.getfield 15, 3) := by decide +kernel
theorem nd_Walls_append_14 : decode nC_Walls_append 14 = .ok (.aload_n 0, 1) := by decide +kernel
theorem nd_Walls_append_15 : decode nC_Walls_append 15 = .ok (.getfield 22, 3) := by decide +kernel
theorem nd_Walls_append_18 : decode nC_Walls_append 18 = .ok (.iload_n 2, 1) := by decide +kernel
theorem nd_Walls_append_19 : decode nC_Walls_append 19 = .ok (.iastore, 1) := by decide +kernel
theorem nd_Walls_append_20 : decode nC_Walls_append 20 = .ok (.aload_n 0, 1) := by decide +kernel
theorem nd_Walls_append_21 : decode nC_Walls_append 21 = .ok (.getfield 18, 3) := by decide +kernel
theorem nd_Walls_append_24 : decode nC_Walls_append 24 = .ok (.aload_n 0, 1) := by decide +kernel
theorem nd_Walls_append_25 : decode nC_Walls_append 25 = .ok (.getfield 22, 3) := by decide +kernel
theorem nd_Walls_append_28 : decode nC_Walls_append 28 = .ok (.iload_n 2, 1) := by decide +kernel
theorem nd_Walls_append_29 : decode nC_Walls_append 29 = .ok (.i2l, 1) := by decide +kernel
theorem nd_Walls_append_30 : decode nC_Walls_append 30 = .ok (.ldc2_w 26, 3) := by decide +kernel
theorem nd_Walls_append_33 : decode nC_Walls_append 33 = .ok (.lmul, 1) := by decide +kernel
theorem nd_Walls_append_34 : decode nC_Walls_append 34 = .ok (.lastore, 1) := by decide +kernel
theorem nd_Walls_append_35 : decode nC_Walls_append 35 = .ok (.aload_n 0, 1) := by decide +kernel
theorem nd_Walls_append_36 : decode nC_Walls_append 36 = .ok (.dup, 1) := by decide +kernel
theorem nd_Walls_append_37 : decode nC_Walls_append 37 = .ok (.getfield 22, 3) := by decide +kernel
theorem nd_Walls_append_40 : decode nC_Walls_append 40 = .ok (.iconst 1, 1) := by decide +kernel
theorem nd_Walls_append_41 : decode nC_Walls_append 41 = .ok (.iadd, 1) := by decide +kernel
theorem nd_Walls_append_42 : decode nC_Walls_append 42 = .ok (.putfield 22, 3) := by decide +kernel
theorem nd_Walls_append_45 : decode nC_Walls_append 45 = .ok (.aload_n 0, 1) := by decide +kernel
theorem nd_Walls_append_46 : decode nC_Walls_append 46 = .ok (.getfield 22, 3) := by decide +kernel
theorem nd_Walls_append_49 : decode nC_Walls_append 49 = .ok (.iconst 1, 1) := by decide +kernel
theorem nd_Walls_append_50 : decode nC_Walls_append 50 = .ok (.isub, 1) := by decide +kernel
theorem nd_Walls_append_51 : decode nC_Walls_append 51 = .ok (.ireturn, 1) := by decide +kernel
theorem nd_Room_requireWithin_0 : decode nC_Room_requireWithin 0 = .ok (.iload_n 0, 1) := by decide +kernel
theorem nd_Room_requireWithin_1 : decode nC_Room_requireWithin 1 = .ok (.iload_n 1, 1) := by decide +kernel
theorem nd_Room_requireWithin_2 : decode nC_Room_requireWithin 2 = .ok (.if_icmp .lt 8, 3) := by decide +kernel
theorem nd_Room_requireWithin_5 : decode nC_Room_requireWithin 5 = .ok (.iload_n 0, 1) := by decide +kernel
theorem nd_Room_requireWithin_6 : decode nC_Room_requireWithin 6 = .ok (.iload_n 2, 1) := by decide +kernel
theorem nd_Room_requireWithin_7 : decode nC_Room_requireWithin 7 = .ok (.if_icmp .le 13, 3) := by decide +kernel
theorem nd_Room_requireWithin_10 : decode nC_Room_requireWithin 10 = .ok (.new 250, 3) := by decide +kernel
theorem nd_Room_requireWithin_13 : decode nC_Room_requireWithin 13 = .ok (.dup, 1) := by decide +kernel
theorem nd_Room_requireWithin_14 : decode nC_Room_requireWithin 14 = .ok (.ldc 252, 2) := by decide +kernel
theorem nd_Room_requireWithin_16 : decode nC_Room_requireWithin 16 = .ok (.invokespecial 254, 3) := by decide +kernel
theorem nd_Room_requireWithin_19 : decode nC_Room_requireWithin 19 = .ok (.athrow, 1) := by decide +kernel
theorem nd_Room_requireWithin_20 : decode nC_Room_requireWithin 20 = .ok (.return_, 1) := by decide +kernel
theorem nd_Room_room_0 : decode nC_Room_room 0 = .ok (.iload_n 1, 1) := by decide +kernel
theorem nd_Room_room_1 : decode nC_Room_room 1 = .ok (.iconst 1, 1) := by decide +kernel
theorem nd_Room_room_2 : decode nC_Room_room 2 = .ok (.sipush 1000, 3) := by decide +kernel
theorem nd_Room_room_5 : decode nC_Room_room 5 = .ok (.invokestatic 52, 3) := by decide +kernel
theorem nd_Room_room_8 : decode nC_Room_room 8 = .ok (.iload_n 2, 1) := by decide +kernel
theorem nd_Room_room_9 : decode nC_Room_room 9 = .ok (.iconst 0, 1) := by decide +kernel
theorem nd_Room_room_10 : decode nC_Room_room 10 = .ok (.sipush 1000, 3) := by decide +kernel
theorem nd_Room_room_13 : decode nC_Room_room 13 = .ok (.invokestatic 52, 3) := by decide +kernel
theorem nd_Room_room_16 : decode nC_Room_room 16 = .ok (.aload_n 0, 1) := by decide +kernel
theorem nd_Room_room_17 : decode nC_Room_room 17 = .ok (.getfield 19, 3) := by decide +kernel
theorem nd_Room_room_20 : decode nC_Room_room 20 = .ok (.getfield 56, 3) := by decide +kernel
theorem nd_Room_room_23 : decode nC_Room_room 23 = .ok (.iload_n 1, 1) := by decide +kernel
theorem nd_Room_room_24 : decode nC_Room_room 24 = .ok (.putfield 60, 3) := by decide +kernel
theorem nd_Room_room_27 : decode nC_Room_room 27 = .ok (.aload_n 0, 1) := by decide +kernel
theorem nd_Room_room_28 : decode nC_Room_room 28 = .ok (.getfield 19, 3) := by decide +kernel
theorem nd_Room_room_31 : decode nC_Room_room 31 = .ok (.getfield 56, 3) := by decide +kernel
theorem nd_Room_room_34 : decode nC_Room_room 34 = .ok (.iload_n 2, 1) := by decide +kernel
theorem nd_Room_room_35 : decode nC_Room_room 35 = .ok (.putfield 65, 3) := by decide +kernel
theorem nd_Room_room_38 : decode nC_Room_room 38 = .ok (.return_, 1) := by decide +kernel
theorem nd_Room_requireSpace_0 : decode nC_Room_requireSpace 0 = .ok (.iload_n 0, 1) := by decide +kernel
theorem nd_Room_requireSpace_1 : decode nC_Room_requireSpace 1 = .ok (.iload_n 1, 1) := by decide +kernel
theorem nd_Room_requireSpace_2 : decode nC_Room_requireSpace 2 = .ok (.if_icmp .lt 13, 3) := by decide +kernel
theorem nd_Room_requireSpace_5 : decode nC_Room_requireSpace 5 = .ok (.new 194, 3) := by decide +kernel
theorem nd_Room_requireSpace_8 : decode nC_Room_requireSpace 8 = .ok (.dup, 1) := by decide +kernel
theorem nd_Room_requireSpace_9 : decode nC_Room_requireSpace 9 = .ok (.ldc 248, 2) := by decide +kernel
theorem nd_Room_requireSpace_11 : decode nC_Room_requireSpace 11 = .ok (.invokespecial 198, 3) := by decide +kernel
theorem nd_Room_requireSpace_14 : decode nC_Room_requireSpace 14 = .ok (.athrow, 1) := by decide +kernel
theorem nd_Room_requireSpace_15 : decode nC_Room_requireSpace 15 = .ok (.return_, 1) := by decide +kernel
theorem nd_Room_wall_0 : decode nC_Room_wall 0 = .ok (.aload_n 0, 1) := by decide +kernel
theorem nd_Room_wall_1 : decode nC_Room_wall 1 = .ok (.getfield 19, 3) := by decide +kernel
theorem nd_Room_wall_4 : decode nC_Room_wall 4 = .ok (.getfield 68, 3) := by decide +kernel
theorem nd_Room_wall_7 : decode nC_Room_wall 7 = .ok (.getfield 72, 3) := by decide +kernel
theorem nd_Room_wall_10 : decode nC_Room_wall 10 = .ok (.iconst 5, 1) := by decide +kernel
theorem nd_Room_wall_11 : decode nC_Room_wall 11 = .ok (.invokestatic 77, 3) := by decide +kernel
theorem nd_Room_wall_14 : decode nC_Room_wall 14 = .ok (.iload_n 1, 1) := by decide +kernel
theorem nd_Room_wall_15 : decode nC_Room_wall 15 = .ok (.iconst 0, 1) := by decide +kernel
theorem nd_Room_wall_16 : decode nC_Room_wall 16 = .ok (.bipush 100, 2) := by decide +kernel
theorem nd_Room_wall_18 : decode nC_Room_wall 18 = .ok (.invokestatic 52, 3) := by decide +kernel
theorem nd_Room_wall_21 : decode nC_Room_wall 21 = .ok (.iload_n 2, 1) := by decide +kernel
theorem nd_Room_wall_22 : decode nC_Room_wall 22 = .ok (.iconst 1, 1) := by decide +kernel
theorem nd_Room_wall_23 : decode nC_Room_wall 23 = .ok (.sipush 1000, 3) := by decide +kernel
theorem nd_Room_wall_26 : decode nC_Room_wall 26 = .ok (.invokestatic 52, 3) := by decide +kernel
theorem nd_Room_wall_29 : decode nC_Room_wall 29 = .ok (.aload_n 0, 1) := by decide +kernel
theorem nd_Room_wall_30 : decode nC_Room_wall 30 = .ok (.getfield 19, 3) := by decide +kernel
theorem nd_Room_wall_33 : decode nC_Room_wall 33 = .ok (.getfield 68, 3) := by decide +kernel
theorem nd_Room_wall_36 : decode nC_Room_wall 36 = .ok (.iload_n 1, 1) := by decide +kernel
theorem nd_Room_wall_37 : decode nC_Room_wall 37 = .ok (.iload_n 2, 1) := by decide +kernel
theorem nd_Room_wall_38 : decode nC_Room_wall 38 = .ok (.invokevirtual 81, 3) := by decide +kernel
theorem nd_Room_wall_41 : decode nC_Room_wall 41 = .ok (.ireturn, 1) := by decide +kernel
theorem nd_Room_goods_0 : decode nC_Room_goods 0 = .ok (.iload_n 1, 1) := by decide +kernel
theorem nd_Room_goods_1 : decode nC_Room_goods 1 = .ok (.iconst 0, 1) := by decide +kernel
theorem nd_Room_goods_2 : decode nC_Room_goods 2 = .ok (.sipush 1000, 3) := by decide +kernel
theorem nd_Room_goods_5 : decode nC_Room_goods 5 = .ok (.invokestatic 52, 3) := by decide +kernel
theorem nd_Room_goods_8 : decode nC_Room_goods 8 = .ok (.aload_n 0, 1) := by decide +kernel
theorem nd_Room_goods_9 : decode nC_Room_goods 9 = .ok (.getfield 19, 3) := by decide +kernel
theorem nd_Room_goods_12 : decode nC_Room_goods 12 = .ok (.getfield 85, 3) := by decide +kernel
theorem nd_Room_goods_15 : decode nC_Room_goods 15 = .ok (.getfield 89, 3) := by decide +kernel
theorem nd_Room_goods_18 : decode nC_Room_goods 18 = .ok (.istore_n 2, 1) := by decide +kernel
theorem nd_Room_goods_19 : decode nC_Room_goods 19 = .ok (.aload_n 0, 1) := by decide +kernel
theorem nd_Room_goods_20 : decode nC_Room_goods 20 = .ok (.getfield 19, 3) := by decide +kernel
theorem nd_Room_goods_23 : decode nC_Room_goods 23 = .ok (.getfield 85, 3) := by decide +kernel
theorem nd_Room_goods_26 : decode nC_Room_goods 26 = .ok (.iload_n 1, 1) := by decide +kernel
theorem nd_Room_goods_27 : decode nC_Room_goods 27 = .ok (.putfield 89, 3) := by decide +kernel
theorem nd_Room_goods_30 : decode nC_Room_goods 30 = .ok (.iload_n 2, 1) := by decide +kernel
theorem nd_Room_goods_31 : decode nC_Room_goods 31 = .ok (.ireturn, 1) := by decide +kernel
theorem nd_Room_requireRise_0 : decode nC_Room_requireRise 0 = .ok (.aload_n 0, 1) := by decide +kernel
theorem nd_Room_requireRise_1 : decode nC_Room_requireRise 1 = .ok (.iload_n 1, 1) := by decide +kernel
theorem nd_Room_requireRise_2 : decode nC_Room_requireRise 2 = .ok (.invokevirtual 255, 3) := by decide +kernel
theorem nd_Room_requireRise_5 : decode nC_Room_requireRise 5 = .ok (.ifCond .ne 14, 3) := by decide +kernel
theorem nd_Room_requireRise_8 : decode nC_Room_requireRise 8 = .ok (.new 250, 3) := by decide +kernel
theorem nd_Room_requireRise_11 : decode nC_Room_requireRise 11 = .ok (.dup, 1) := by decide +kernel
theorem nd_Room_requireRise_12 : decode nC_Room_requireRise 12 = .ok (.ldc_w 259, 3) := by decide +kernel
theorem nd_Room_requireRise_15 : decode nC_Room_requireRise 15 = .ok (.invokespecial 254, 3) := by decide +kernel
theorem nd_Room_requireRise_18 : decode nC_Room_requireRise 18 = .ok (.athrow, 1) := by decide +kernel
theorem nd_Room_requireRise_19 : decode nC_Room_requireRise 19 = .ok (.return_, 1) := by decide +kernel
theorem nd_Room_row_0 : decode nC_Room_row 0 = .ok (.aload_n 0, 1) := by decide +kernel
theorem nd_Room_row_1 : decode nC_Room_row 1 = .ok (.getfield 19, 3) := by decide +kernel
theorem nd_Room_row_4 : decode nC_Room_row 4 = .ok (.getfield 85, 3) := by decide +kernel
theorem nd_Room_row_7 : decode nC_Room_row 7 = .ok (.getfield 94, 3) := by decide +kernel
theorem nd_Room_row_10 : decode nC_Room_row 10 = .ok (.astore_n 3, 1) := by decide +kernel
theorem nd_Room_row_11 : decode nC_Room_row 11 = .ok (.aload_n 3, 1) := by decide +kernel
theorem nd_Room_row_12 : decode nC_Room_row 12 = .ok (.getfield 98, 3) := by decide +kernel
theorem nd_Room_row_15 : decode nC_Room_row 15 = .ok (.bipush 6, 2) := by decide +kernel
theorem nd_Room_row_17 : decode nC_Room_row 17 = .ok (.invokestatic 77, 3) := by decide +kernel
theorem nd_Room_row_20 : decode nC_Room_row 20 = .ok (.iload_n 1, 1) := by decide +kernel
theorem nd_Room_row_21 : decode nC_Room_row 21 = .ok (.iconst 0, 1) := by decide +kernel
theorem nd_Room_row_22 : decode nC_Room_row 22 = .ok (.ldc 101, 2) := by decide +kernel
theorem nd_Room_row_24 : decode nC_Room_row 24 = .ok (.invokestatic 52, 3) := by decide +kernel
theorem nd_Room_row_27 : decode nC_Room_row 27 = .ok (.iload_n 2, 1) := by decide +kernel
theorem nd_Room_row_28 : decode nC_Room_row 28 = .ok (.iconst 0, 1) := by decide +kernel
theorem nd_Room_row_29 : decode nC_Room_row 29 = .ok (.sipush 10000, 3) := by decide +kernel
theorem nd_Room_row_32 : decode nC_Room_row 32 = .ok (.invokestatic 52, 3) := by decide +kernel
theorem nd_Room_row_35 : decode nC_Room_row 35 = .ok (.aload_n 3, 1) := by decide +kernel
theorem nd_Room_row_36 : decode nC_Room_row 36 = .ok (.iload_n 1, 1) := by decide +kernel
theorem nd_Room_row_37 : decode nC_Room_row 37 = .ok (.invokestatic 102, 3) := by decide +kernel
theorem nd_Room_row_40 : decode nC_Room_row 40 = .ok (.aload_n 3, 1) := by decide +kernel
theorem nd_Room_row_41 : decode nC_Room_row 41 = .ok (.iload_n 1, 1) := by decide +kernel
theorem nd_Room_row_42 : decode nC_Room_row 42 = .ok (.iload_n 2, 1) := by decide +kernel
theorem nd_Room_row_43 : decode nC_Room_row 43 = .ok (.invokevirtual 106, 3) := by decide +kernel
theorem nd_Room_row_46 : decode nC_Room_row 46 = .ok (.ireturn, 1) := by decide +kernel
theorem nd_Room_requireIndex_0 : decode nC_Room_requireIndex 0 = .ok (.iload_n 0, 1) := by decide +kernel
theorem nd_Room_requireIndex_1 : decode nC_Room_requireIndex 1 = .ok (.ifCond .lt 8, 3) := by decide +kernel
theorem nd_Room_requireIndex_4 : decode nC_Room_requireIndex 4 = .ok (.iload_n 0, 1) := by decide +kernel
theorem nd_Room_requireIndex_5 : decode nC_Room_requireIndex 5 = .ok (.iload_n 1, 1) := by decide +kernel
theorem nd_Room_requireIndex_6 : decode nC_Room_requireIndex 6 = .ok (.if_icmp .lt 13, 3) := by decide +kernel
theorem nd_Room_requireIndex_9 : decode nC_Room_requireIndex 9 = .ok (.new 173, 3) := by decide +kernel
theorem nd_Room_requireIndex_12 : decode nC_Room_requireIndex 12 = .ok (.dup, 1) := by decide +kernel
theorem nd_Room_requireIndex_13 : decode nC_Room_requireIndex 13 = .ok (.ldc 246, 2) := by decide +kernel
theorem nd_Room_requireIndex_15 : decode nC_Room_requireIndex 15 = .ok (.invokespecial 177, 3) := by decide +kernel
theorem nd_Room_requireIndex_18 : decode nC_Room_requireIndex 18 = .ok (.athrow, 1) := by decide +kernel
theorem nd_Room_requireIndex_19 : decode nC_Room_requireIndex 19 = .ok (.return_, 1) := by decide +kernel
theorem nd_Room_machine_0 : decode nC_Room_machine 0 = .ok (.iload_n 1, 1) := by decide +kernel
theorem nd_Room_machine_1 : decode nC_Room_machine 1 = .ok (.iconst 4, 1) := by decide +kernel
theorem nd_Room_machine_2 : decode nC_Room_machine 2 = .ok (.invokestatic 107, 3) := by decide +kernel
theorem nd_Room_machine_5 : decode nC_Room_machine 5 = .ok (.iload_n 2, 1) := by decide +kernel
theorem nd_Room_machine_6 : decode nC_Room_machine 6 = .ok (.ldc 110, 2) := by decide +kernel
theorem nd_Room_machine_8 : decode nC_Room_machine 8 = .ok (.ldc 101, 2) := by decide +kernel
theorem nd_Room_machine_10 : decode nC_Room_machine 10 = .ok (.invokestatic 52, 3) := by decide +kernel
theorem nd_Room_machine_13 : decode nC_Room_machine 13 = .ok (.iload_n 3, 1) := by decide +kernel
theorem nd_Room_machine_14 : decode nC_Room_machine 14 = .ok (.iload_n 2, 1) := by decide +kernel
theorem nd_Room_machine_15 : decode nC_Room_machine 15 = .ok (.ldc 101, 2) := by decide +kernel
theorem nd_Room_machine_17 : decode nC_Room_machine 17 = .ok (.invokestatic 52, 3) := by decide +kernel
theorem nd_Room_machine_20 : decode nC_Room_machine 20 = .ok (.iload 4, 2) := by decide +kernel
theorem nd_Room_machine_22 : decode nC_Room_machine 22 = .ok (.iconst 0, 1) := by decide +kernel
theorem nd_Room_machine_23 : decode nC_Room_machine 23 = .ok (.ldc 111, 2) := by decide +kernel
theorem nd_Room_machine_25 : decode nC_Room_machine 25 = .ok (.invokestatic 52, 3) := by decide +kernel
theorem nd_Room_machine_28 : decode nC_Room_machine 28 = .ok (.aload_n 0, 1) := by decide +kernel
theorem nd_Room_machine_29 : decode nC_Room_machine 29 = .ok (.getfield 19, 3) := by decide +kernel
theorem nd_Room_machine_32 : decode nC_Room_machine 32 = .ok (.getfield 112, 3) := by decide +kernel
theorem nd_Room_machine_35 : decode nC_Room_machine 35 = .ok (.iload_n 1, 1) := by decide +kernel
theorem nd_Room_machine_36 : decode nC_Room_machine 36 = .ok (.iload_n 2, 1) := by decide +kernel
theorem nd_Room_machine_37 : decode nC_Room_machine 37 = .ok (.iload_n 3, 1) := by decide +kernel
theorem nd_Room_machine_38 : decode nC_Room_machine 38 = .ok (.iload 4, 2) := by decide +kernel
theorem nd_Room_machine_40 : decode nC_Room_machine 40 = .ok (.invokevirtual 116, 3) := by decide +kernel
theorem nd_Room_machine_43 : decode nC_Room_machine 43 = .ok (.return_, 1) := by decide +kernel
theorem nd_Room_addRiskPoints_0 : decode nC_Room_addRiskPoints 0 = .ok (.iconst 0, 1) := by decide +kernel
theorem nd_Room_addRiskPoints_1 : decode nC_Room_addRiskPoints 1 = .ok (.istore_n 1, 1) := by decide +kernel
theorem nd_Room_addRiskPoints_2 : decode nC_Room_addRiskPoints 2 = .ok (.iload_n 1, 1) := by decide +kernel
theorem nd_Room_addRiskPoints_3 : decode nC_Room_addRiskPoints 3 = .ok (.iconst 4, 1) := by decide +kernel
theorem nd_Room_addRiskPoints_4 : decode nC_Room_addRiskPoints 4 = .ok (.if_icmp .ge 67, 3) := by decide +kernel
theorem nd_Room_addRiskPoints_7 : decode nC_Room_addRiskPoints 7 = .ok (.iload_n 1, 1) := by decide +kernel
theorem nd_Room_addRiskPoints_8 : decode nC_Room_addRiskPoints 8 = .ok (.iconst 2, 1) := by decide +kernel
theorem nd_Room_addRiskPoints_9 : decode nC_Room_addRiskPoints 9 = .ok (.if_icmp .lt 7, 3) := by decide +kernel
theorem nd_Room_addRiskPoints_12 : decode nC_Room_addRiskPoints 12 = .ok (.iconst 1, 1) := by decide +kernel
theorem nd_Room_addRiskPoints_13 : decode nC_Room_addRiskPoints 13 = .ok (.goto 4, 3) := by decide +kernel
theorem nd_Room_addRiskPoints_16 : decode nC_Room_addRiskPoints 16 = .ok (.iconst 0, 1) := by decide +kernel
theorem nd_Room_addRiskPoints_17 : decode nC_Room_addRiskPoints 17 = .ok (.istore_n 2, 1) := by decide +kernel
theorem nd_Room_addRiskPoints_18 : decode nC_Room_addRiskPoints 18 = .ok (.iload_n 2, 1) := by decide +kernel
theorem nd_Room_addRiskPoints_19 : decode nC_Room_addRiskPoints 19 = .ok (.ifCond .eq 16, 3) := by decide +kernel
theorem nd_Room_addRiskPoints_22 : decode nC_Room_addRiskPoints 22 = .ok (.aload_n 0, 1) := by decide +kernel
theorem nd_Room_addRiskPoints_23 : decode nC_Room_addRiskPoints 23 = .ok (.getfield 19, 3) := by decide +kernel
theorem nd_Room_addRiskPoints_26 : decode nC_Room_addRiskPoints 26 = .ok (.getfield 56, 3) := by decide +kernel
theorem nd_Room_addRiskPoints_29 : decode nC_Room_addRiskPoints 29 = .ok (.invokevirtual 132, 3) := by decide +kernel
theorem nd_Room_addRiskPoints_32 : decode nC_Room_addRiskPoints 32 = .ok (.goto 13, 3) := by decide +kernel
theorem nd_Room_addRiskPoints_35 : decode nC_Room_addRiskPoints 35 = .ok (.aload_n 0, 1) := by decide +kernel
theorem nd_Room_addRiskPoints_36 : decode nC_Room_addRiskPoints 36 = .ok (.getfield 19, 3) := by decide +kernel
theorem nd_Room_addRiskPoints_39 : decode nC_Room_addRiskPoints 39 = .ok (.getfield 56, 3) := by decide +kernel
theorem nd_Room_addRiskPoints_42 : decode nC_Room_addRiskPoints 42 = .ok (.invokevirtual 136, 3) := by decide +kernel
theorem nd_Room_addRiskPoints_45 : decode nC_Room_addRiskPoints 45 = .ok (.lstore_n 3, 1) := by decide +kernel
theorem nd_Room_addRiskPoints_46 : decode nC_Room_addRiskPoints 46 = .ok (.aload_n 0, 1) := by decide +kernel
theorem nd_Room_addRiskPoints_47 : decode nC_Room_addRiskPoints 47 = .ok (.getfield 30, 3) := by decide +kernel
theorem nd_Room_addRiskPoints_50 : decode nC_Room_addRiskPoints 50 = .ok (.iload_n 1, 1) := by decide +kernel
theorem nd_Room_addRiskPoints_51 : decode nC_Room_addRiskPoints 51 = .ok (.dup2, 1) := by decide +kernel
theorem nd_Room_addRiskPoints_52 : decode nC_Room_addRiskPoints 52 = .ok (.iaload, 1) := by decide +kernel
theorem nd_Room_addRiskPoints_53 : decode nC_Room_addRiskPoints 53 = .ok (.aload_n 0, 1) := by decide +kernel
theorem nd_Room_addRiskPoints_54 : decode nC_Room_addRiskPoints 54 = .ok (.getfield 26, 3) := by decide +kernel
theorem nd_Room_addRiskPoints_57 : decode nC_Room_addRiskPoints 57 = .ok (.iload_n 1, 1) := by decide +kernel
theorem nd_Room_addRiskPoints_58 : decode nC_Room_addRiskPoints 58 = .ok (.aaload, 1) := by decide +kernel
theorem nd_Room_addRiskPoints_59 : decode nC_Room_addRiskPoints 59 = .ok (.lload_n 3, 1) := by decide +kernel
theorem nd_Room_addRiskPoints_60 : decode nC_Room_addRiskPoints 60 = .ok (.invokevirtual 221, 3) := by decide +kernel
theorem nd_Room_addRiskPoints_63 : decode nC_Room_addRiskPoints 63 = .ok (.iadd, 1) := by decide +kernel
theorem nd_Room_addRiskPoints_64 : decode nC_Room_addRiskPoints 64 = .ok (.iastore, 1) := by decide +kernel
theorem nd_Room_addRiskPoints_65 : decode nC_Room_addRiskPoints 65 = .ok (.iinc 1 1, 3) := by decide +kernel
theorem nd_Room_addRiskPoints_68 : decode nC_Room_addRiskPoints 68 = .ok (.goto (-66), 3) := by decide +kernel
theorem nd_Room_addRiskPoints_71 : decode nC_Room_addRiskPoints 71 = .ok (.return_, 1) := by decide +kernel
theorem nd_Room_hour_0 : decode nC_Room_hour 0 = .ok (.aload_n 0, 1) := by decide +kernel
theorem nd_Room_hour_1 : decode nC_Room_hour 1 = .ok (.getfield 48, 3) := by decide +kernel
theorem nd_Room_hour_4 : decode nC_Room_hour 4 = .ok (.sipush 300, 3) := by decide +kernel
theorem nd_Room_hour_7 : decode nC_Room_hour 7 = .ok (.invokestatic 77, 3) := by decide +kernel
theorem nd_Room_hour_10 : decode nC_Room_hour 10 = .ok (.iload_n 1, 1) := by decide +kernel
theorem nd_Room_hour_11 : decode nC_Room_hour 11 = .ok (.ldc 110, 2) := by decide +kernel
theorem nd_Room_hour_13 : decode nC_Room_hour 13 = .ok (.ldc 101, 2) := by decide +kernel
theorem nd_Room_hour_15 : decode nC_Room_hour 15 = .ok (.invokestatic 52, 3) := by decide +kernel
theorem nd_Room_hour_18 : decode nC_Room_hour 18 = .ok (.iload_n 2, 1) := by decide +kernel
theorem nd_Room_hour_19 : decode nC_Room_hour 19 = .ok (.iconst 0, 1) := by decide +kernel
theorem nd_Room_hour_20 : decode nC_Room_hour 20 = .ok (.ldc 101, 2) := by decide +kernel
theorem nd_Room_hour_22 : decode nC_Room_hour 22 = .ok (.invokestatic 52, 3) := by decide +kernel
theorem nd_Room_hour_25 : decode nC_Room_hour 25 = .ok (.iload_n 3, 1) := by decide +kernel
theorem nd_Room_hour_26 : decode nC_Room_hour 26 = .ok (.iconst 0, 1) := by decide +kernel
theorem nd_Room_hour_27 : decode nC_Room_hour 27 = .ok (.bipush 99, 2) := by decide +kernel
theorem nd_Room_hour_29 : decode nC_Room_hour 29 = .ok (.invokestatic 52, 3) := by decide +kernel
theorem nd_Room_hour_32 : decode nC_Room_hour 32 = .ok (.aload_n 0, 1) := by decide +kernel
theorem nd_Room_hour_33 : decode nC_Room_hour 33 = .ok (.getfield 19, 3) := by decide +kernel
theorem nd_Room_hour_36 : decode nC_Room_hour 36 = .ok (.iload_n 1, 1) := by decide +kernel
theorem nd_Room_hour_37 : decode nC_Room_hour 37 = .ok (.iload_n 2, 1) := by decide +kernel
theorem nd_Room_hour_38 : decode nC_Room_hour 38 = .ok (.iload_n 3, 1) := by decide +kernel
theorem nd_Room_hour_39 : decode nC_Room_hour 39 = .ok (.invokevirtual 122, 3) := by decide +kernel
theorem nd_Room_hour_42 : decode nC_Room_hour 42 = .ok (.aload_n 0, 1) := by decide +kernel
theorem nd_Room_hour_43 : decode nC_Room_hour 43 = .ok (.invokevirtual 125, 3) := by decide +kernel
theorem nd_Room_hour_46 : decode nC_Room_hour 46 = .ok (.aload_n 0, 1) := by decide +kernel
theorem nd_Room_hour_47 : decode nC_Room_hour 47 = .ok (.getfield 37, 3) := by decide +kernel
theorem nd_Room_hour_50 : decode nC_Room_hour 50 = .ok (.aload_n 0, 1) := by decide +kernel
theorem nd_Room_hour_51 : decode nC_Room_hour 51 = .ok (.getfield 48, 3) := by decide +kernel
theorem nd_Room_hour_54 : decode nC_Room_hour 54 = .ok (.aload_n 0, 1) := by decide +kernel
theorem nd_Room_hour_55 : decode nC_Room_hour 55 = .ok (.getfield 19, 3) := by decide +kernel
theorem nd_Room_hour_58 : decode nC_Room_hour 58 = .ok (.getfield 56, 3) := by decide +kernel
theorem nd_Room_hour_61 : decode nC_Room_hour 61 = .ok (.invokevirtual 128, 3) := by decide +kernel
theorem nd_Room_hour_64 : decode nC_Room_hour 64 = .ok (.aload_n 0, 1) := by decide +kernel
theorem nd_Room_hour_65 : decode nC_Room_hour 65 = .ok (.dup, 1) := by decide +kernel
theorem nd_Room_hour_66 : decode nC_Room_hour 66 = .ok (.getfield 48, 3) := by decide +kernel
theorem nd_Room_hour_69 : decode nC_Room_hour 69 = .ok (.iconst 1, 1) := by decide +kernel
theorem nd_Room_hour_70 : decode nC_Room_hour 70 = .ok (.iadd, 1) := by decide +kernel
theorem nd_Room_hour_71 : decode nC_Room_hour 71 = .ok (.putfield 48, 3) := by decide +kernel
theorem nd_Room_hour_74 : decode nC_Room_hour 74 = .ok (.aload_n 0, 1) := by decide +kernel
theorem nd_Room_hour_75 : decode nC_Room_hour 75 = .ok (.getfield 48, 3) := by decide +kernel
theorem nd_Room_hour_78 : decode nC_Room_hour 78 = .ok (.iconst 1, 1) := by decide +kernel
theorem nd_Room_hour_79 : decode nC_Room_hour 79 = .ok (.isub, 1) := by decide +kernel
theorem nd_Room_hour_80 : decode nC_Room_hour 80 = .ok (.ireturn, 1) := by decide +kernel
theorem nd_Room_degrees_0 : decode nC_Room_degrees 0 = .ok (.aload_n 0, 1) := by decide +kernel
theorem nd_Room_degrees_1 : decode nC_Room_degrees 1 = .ok (.getfield 19, 3) := by decide +kernel
theorem nd_Room_degrees_4 : decode nC_Room_degrees 4 = .ok (.getfield 56, 3) := by decide +kernel
theorem nd_Room_degrees_7 : decode nC_Room_degrees 7 = .ok (.invokevirtual 132, 3) := by decide +kernel
theorem nd_Room_degrees_10 : decode nC_Room_degrees 10 = .ok (.l2i, 1) := by decide +kernel
theorem nd_Room_degrees_11 : decode nC_Room_degrees 11 = .ok (.ireturn, 1) := by decide +kernel
theorem nd_Room_damp_0 : decode nC_Room_damp 0 = .ok (.aload_n 0, 1) := by decide +kernel
theorem nd_Room_damp_1 : decode nC_Room_damp 1 = .ok (.getfield 19, 3) := by decide +kernel
theorem nd_Room_damp_4 : decode nC_Room_damp 4 = .ok (.getfield 56, 3) := by decide +kernel
theorem nd_Room_damp_7 : decode nC_Room_damp 7 = .ok (.invokevirtual 136, 3) := by decide +kernel
theorem nd_Room_damp_10 : decode nC_Room_damp 10 = .ok (.l2i, 1) := by decide +kernel
theorem nd_Room_damp_11 : decode nC_Room_damp 11 = .ok (.ireturn, 1) := by decide +kernel
theorem nd_Room_layer_0 : decode nC_Room_layer 0 = .ok (.iload_n 1, 1) := by decide +kernel
theorem nd_Room_layer_1 : decode nC_Room_layer 1 = .ok (.aload_n 0, 1) := by decide +kernel
theorem nd_Room_layer_2 : decode nC_Room_layer 2 = .ok (.getfield 19, 3) := by decide +kernel
theorem nd_Room_layer_5 : decode nC_Room_layer 5 = .ok (.getfield 68, 3) := by decide +kernel
theorem nd_Room_layer_8 : decode nC_Room_layer 8 = .ok (.getfield 72, 3) := by decide +kernel
theorem nd_Room_layer_11 : decode nC_Room_layer 11 = .ok (.invokestatic 107, 3) := by decide +kernel
theorem nd_Room_layer_14 : decode nC_Room_layer 14 = .ok (.aload_n 0, 1) := by decide +kernel
theorem nd_Room_layer_15 : decode nC_Room_layer 15 = .ok (.getfield 19, 3) := by decide +kernel
theorem nd_Room_layer_18 : decode nC_Room_layer 18 = .ok (.getfield 68, 3) := by decide +kernel
theorem nd_Room_layer_21 : decode nC_Room_layer 21 = .ok (.iload_n 1, 1) := by decide +kernel
theorem nd_Room_layer_22 : decode nC_Room_layer 22 = .ok (.invokevirtual 139, 3) := by decide +kernel
theorem nd_Room_layer_25 : decode nC_Room_layer 25 = .ok (.l2i, 1) := by decide +kernel
theorem nd_Room_layer_26 : decode nC_Room_layer 26 = .ok (.ireturn, 1) := by decide +kernel
theorem nd_Room_held_0 : decode nC_Room_held 0 = .ok (.aload_n 0, 1) := by decide +kernel
theorem nd_Room_held_1 : decode nC_Room_held 1 = .ok (.getfield 19, 3) := by decide +kernel
theorem nd_Room_held_4 : decode nC_Room_held 4 = .ok (.getfield 85, 3) := by decide +kernel
theorem nd_Room_held_7 : decode nC_Room_held 7 = .ok (.getfield 142, 3) := by decide +kernel
theorem nd_Room_held_10 : decode nC_Room_held 10 = .ok (.l2i, 1) := by decide +kernel
theorem nd_Room_held_11 : decode nC_Room_held 11 = .ok (.ireturn, 1) := by decide +kernel
theorem nd_Room_on_0 : decode nC_Room_on 0 = .ok (.iload_n 1, 1) := by decide +kernel
theorem nd_Room_on_1 : decode nC_Room_on 1 = .ok (.iconst 4, 1) := by decide +kernel
theorem nd_Room_on_2 : decode nC_Room_on 2 = .ok (.invokestatic 107, 3) := by decide +kernel
theorem nd_Room_on_5 : decode nC_Room_on 5 = .ok (.aload_n 0, 1) := by decide +kernel
theorem nd_Room_on_6 : decode nC_Room_on 6 = .ok (.getfield 19, 3) := by decide +kernel
theorem nd_Room_on_9 : decode nC_Room_on 9 = .ok (.getfield 112, 3) := by decide +kernel
theorem nd_Room_on_12 : decode nC_Room_on 12 = .ok (.getfield 146, 3) := by decide +kernel
theorem nd_Room_on_15 : decode nC_Room_on 15 = .ok (.iload_n 1, 1) := by decide +kernel
theorem nd_Room_on_16 : decode nC_Room_on 16 = .ok (.baload, 1) := by decide +kernel
theorem nd_Room_on_17 : decode nC_Room_on 17 = .ok (.ireturn, 1) := by decide +kernel
theorem nd_Room_book_0 : decode nC_Room_book 0 = .ok (.iload_n 2, 1) := by decide +kernel
theorem nd_Room_book_1 : decode nC_Room_book 1 = .ok (.iconst 2, 1) := by decide +kernel
theorem nd_Room_book_2 : decode nC_Room_book 2 = .ok (.invokestatic 107, 3) := by decide +kernel
theorem nd_Room_book_5 : decode nC_Room_book 5 = .ok (.iload_n 1, 1) := by decide +kernel
theorem nd_Room_book_6 : decode nC_Room_book 6 = .ok (.iconst (-1), 1) := by decide +kernel
theorem nd_Room_book_7 : decode nC_Room_book 7 = .ok (.if_icmp .ne 31, 3) := by decide +kernel
theorem nd_Room_book_10 : decode nC_Room_book 10 = .ok (.iload_n 2, 1) := by decide +kernel
theorem nd_Room_book_11 : decode nC_Room_book 11 = .ok (.ifCond .ne 16, 3) := by decide +kernel
theorem nd_Room_book_14 : decode nC_Room_book 14 = .ok (.aload_n 0, 1) := by decide +kernel
theorem nd_Room_book_15 : decode nC_Room_book 15 = .ok (.getfield 19, 3) := by decide +kernel
theorem nd_Room_book_18 : decode nC_Room_book 18 = .ok (.getfield 56, 3) := by decide +kernel
theorem nd_Room_book_21 : decode nC_Room_book 21 = .ok (.getfield 150, 3) := by decide +kernel
theorem nd_Room_book_24 : decode nC_Room_book 24 = .ok (.goto 13, 3) := by decide +kernel
theorem nd_Room_book_27 : decode nC_Room_book 27 = .ok (.aload_n 0, 1) := by decide +kernel
theorem nd_Room_book_28 : decode nC_Room_book 28 = .ok (.getfield 19, 3) := by decide +kernel
theorem nd_Room_book_31 : decode nC_Room_book 31 = .ok (.getfield 56, 3) := by decide +kernel
theorem nd_Room_book_34 : decode nC_Room_book 34 = .ok (.getfield 153, 3) := by decide +kernel
theorem nd_Room_book_37 : decode nC_Room_book 37 = .ok (.lreturn, 1) := by decide +kernel
theorem nd_Room_book_38 : decode nC_Room_book 38 = .ok (.iload_n 1, 1) := by decide +kernel
theorem nd_Room_book_39 : decode nC_Room_book 39 = .ok (.iconst 5, 1) := by decide +kernel
theorem nd_Room_book_40 : decode nC_Room_book 40 = .ok (.invokestatic 107, 3) := by decide +kernel
theorem nd_Room_book_43 : decode nC_Room_book 43 = .ok (.iload_n 2, 1) := by decide +kernel
theorem nd_Room_book_44 : decode nC_Room_book 44 = .ok (.ifCond .ne 18, 3) := by decide +kernel
theorem nd_Room_book_47 : decode nC_Room_book 47 = .ok (.aload_n 0, 1) := by decide +kernel
theorem nd_Room_book_48 : decode nC_Room_book 48 = .ok (.getfield 19, 3) := by decide +kernel
theorem nd_Room_book_51 : decode nC_Room_book 51 = .ok (.getfield 56, 3) := by decide +kernel
theorem nd_Room_book_54 : decode nC_Room_book 54 = .ok (.getfield 156, 3) := by decide +kernel
theorem nd_Room_book_57 : decode nC_Room_book 57 = .ok (.iload_n 1, 1) := by decide +kernel
theorem nd_Room_book_58 : decode nC_Room_book 58 = .ok (.laload, 1) := by decide +kernel
theorem nd_Room_book_59 : decode nC_Room_book 59 = .ok (.goto 15, 3) := by decide +kernel
theorem nd_Room_book_62 : decode nC_Room_book 62 = .ok (.aload_n 0, 1) := by decide +kernel
theorem nd_Room_book_63 : decode nC_Room_book 63 = .ok (.getfield 19, 3) := by decide +kernel
theorem nd_Room_book_66 : decode nC_Room_book 66 = .ok (.getfield 56, 3) := by decide +kernel
theorem nd_Room_book_69 : decode nC_Room_book 69 = .ok (.getfield 160, 3) := by decide +kernel
theorem nd_Room_book_72 : decode nC_Room_book 72 = .ok (.iload_n 1, 1) := by decide +kernel
theorem nd_Room_book_73 : decode nC_Room_book 73 = .ok (.laload, 1) := by decide +kernel
theorem nd_Room_book_74 : decode nC_Room_book 74 = .ok (.lreturn, 1) := by decide +kernel
theorem nd_Room_dew_0 : decode nC_Room_dew 0 = .ok (.iload_n 1, 1) := by decide +kernel
theorem nd_Room_dew_1 : decode nC_Room_dew 1 = .ok (.aload_n 0, 1) := by decide +kernel
theorem nd_Room_dew_2 : decode nC_Room_dew 2 = .ok (.getfield 19, 3) := by decide +kernel
theorem nd_Room_dew_5 : decode nC_Room_dew 5 = .ok (.getfield 68, 3) := by decide +kernel
theorem nd_Room_dew_8 : decode nC_Room_dew 8 = .ok (.getfield 72, 3) := by decide +kernel
theorem nd_Room_dew_11 : decode nC_Room_dew 11 = .ok (.invokestatic 107, 3) := by decide +kernel
theorem nd_Room_dew_14 : decode nC_Room_dew 14 = .ok (.aload_n 0, 1) := by decide +kernel
theorem nd_Room_dew_15 : decode nC_Room_dew 15 = .ok (.getfield 19, 3) := by decide +kernel
theorem nd_Room_dew_18 : decode nC_Room_dew 18 = .ok (.getfield 56, 3) := by decide +kernel
theorem nd_Room_dew_21 : decode nC_Room_dew 21 = .ok (.invokevirtual 136, 3) := by decide +kernel
theorem nd_Room_dew_24 : decode nC_Room_dew 24 = .ok (.aload_n 0, 1) := by decide +kernel
theorem nd_Room_dew_25 : decode nC_Room_dew 25 = .ok (.getfield 19, 3) := by decide +kernel
theorem nd_Room_dew_28 : decode nC_Room_dew 28 = .ok (.getfield 68, 3) := by decide +kernel
theorem nd_Room_dew_31 : decode nC_Room_dew 31 = .ok (.iload_n 1, 1) := by decide +kernel
theorem nd_Room_dew_32 : decode nC_Room_dew 32 = .ok (.invokevirtual 139, 3) := by decide +kernel
theorem nd_Room_dew_35 : decode nC_Room_dew 35 = .ok (.lconst 0, 1) := by decide +kernel
theorem nd_Room_dew_36 : decode nC_Room_dew 36 = .ok (.invokestatic 163, 3) := by decide +kernel
theorem nd_Room_dew_39 : decode nC_Room_dew 39 = .ok (.lcmp, 1) := by decide +kernel
theorem nd_Room_dew_40 : decode nC_Room_dew 40 = .ok (.ifCond .le 7, 3) := by decide +kernel
theorem nd_Room_dew_43 : decode nC_Room_dew 43 = .ok (.iconst 1, 1) := by decide +kernel
theorem nd_Room_dew_44 : decode nC_Room_dew 44 = .ok (.goto 4, 3) := by decide +kernel
theorem nd_Room_dew_47 : decode nC_Room_dew 47 = .ok (.iconst 0, 1) := by decide +kernel
theorem nd_Room_dew_48 : decode nC_Room_dew 48 = .ok (.ireturn, 1) := by decide +kernel
theorem nd_Room_risk_0 : decode nC_Room_risk 0 = .ok (.iload_n 1, 1) := by decide +kernel
theorem nd_Room_risk_1 : decode nC_Room_risk 1 = .ok (.iconst 4, 1) := by decide +kernel
theorem nd_Room_risk_2 : decode nC_Room_risk 2 = .ok (.invokestatic 107, 3) := by decide +kernel
theorem nd_Room_risk_5 : decode nC_Room_risk 5 = .ok (.aload_n 0, 1) := by decide +kernel
theorem nd_Room_risk_6 : decode nC_Room_risk 6 = .ok (.getfield 26, 3) := by decide +kernel
theorem nd_Room_risk_9 : decode nC_Room_risk 9 = .ok (.iload_n 1, 1) := by decide +kernel
theorem nd_Room_risk_10 : decode nC_Room_risk 10 = .ok (.aaload, 1) := by decide +kernel
theorem nd_Room_risk_11 : decode nC_Room_risk 11 = .ok (.getfield 98, 3) := by decide +kernel
theorem nd_Room_risk_14 : decode nC_Room_risk 14 = .ok (.iconst 5, 1) := by decide +kernel
theorem nd_Room_risk_15 : decode nC_Room_risk 15 = .ok (.invokestatic 77, 3) := by decide +kernel
theorem nd_Room_risk_18 : decode nC_Room_risk 18 = .ok (.iload_n 2, 1) := by decide +kernel
theorem nd_Room_risk_19 : decode nC_Room_risk 19 = .ok (.ldc 110, 2) := by decide +kernel
theorem nd_Room_risk_21 : decode nC_Room_risk 21 = .ok (.ldc 101, 2) := by decide +kernel
theorem nd_Room_risk_23 : decode nC_Room_risk 23 = .ok (.invokestatic 52, 3) := by decide +kernel
theorem nd_Room_risk_26 : decode nC_Room_risk 26 = .ok (.aload_n 0, 1) := by decide +kernel
theorem nd_Room_risk_27 : decode nC_Room_risk 27 = .ok (.getfield 26, 3) := by decide +kernel
theorem nd_Room_risk_30 : decode nC_Room_risk 30 = .ok (.iload_n 1, 1) := by decide +kernel
theorem nd_Room_risk_31 : decode nC_Room_risk 31 = .ok (.aaload, 1) := by decide +kernel
theorem nd_Room_risk_32 : decode nC_Room_risk 32 = .ok (.iload_n 2, 1) := by decide +kernel
theorem nd_Room_risk_33 : decode nC_Room_risk 33 = .ok (.invokestatic 102, 3) := by decide +kernel
theorem nd_Room_risk_36 : decode nC_Room_risk 36 = .ok (.iload_n 3, 1) := by decide +kernel
theorem nd_Room_risk_37 : decode nC_Room_risk 37 = .ok (.iconst 0, 1) := by decide +kernel
theorem nd_Room_risk_38 : decode nC_Room_risk 38 = .ok (.sipush 1000, 3) := by decide +kernel
theorem nd_Room_risk_41 : decode nC_Room_risk 41 = .ok (.invokestatic 52, 3) := by decide +kernel
theorem nd_Room_risk_44 : decode nC_Room_risk 44 = .ok (.aload_n 0, 1) := by decide +kernel
theorem nd_Room_risk_45 : decode nC_Room_risk 45 = .ok (.getfield 26, 3) := by decide +kernel
theorem nd_Room_risk_48 : decode nC_Room_risk 48 = .ok (.iload_n 1, 1) := by decide +kernel
theorem nd_Room_risk_49 : decode nC_Room_risk 49 = .ok (.aaload, 1) := by decide +kernel
theorem nd_Room_risk_50 : decode nC_Room_risk 50 = .ok (.iload_n 2, 1) := by decide +kernel
theorem nd_Room_risk_51 : decode nC_Room_risk 51 = .ok (.iload_n 3, 1) := by decide +kernel
theorem nd_Room_risk_52 : decode nC_Room_risk 52 = .ok (.invokevirtual 106, 3) := by decide +kernel
theorem nd_Room_risk_55 : decode nC_Room_risk 55 = .ok (.ireturn, 1) := by decide +kernel
theorem nd_Room_points_0 : decode nC_Room_points 0 = .ok (.iload_n 1, 1) := by decide +kernel
theorem nd_Room_points_1 : decode nC_Room_points 1 = .ok (.iconst 4, 1) := by decide +kernel
theorem nd_Room_points_2 : decode nC_Room_points 2 = .ok (.invokestatic 107, 3) := by decide +kernel
theorem nd_Room_points_5 : decode nC_Room_points 5 = .ok (.aload_n 0, 1) := by decide +kernel
theorem nd_Room_points_6 : decode nC_Room_points 6 = .ok (.getfield 30, 3) := by decide +kernel
theorem nd_Room_points_9 : decode nC_Room_points 9 = .ok (.iload_n 1, 1) := by decide +kernel
theorem nd_Room_points_10 : decode nC_Room_points 10 = .ok (.iaload, 1) := by decide +kernel
theorem nd_Room_points_11 : decode nC_Room_points 11 = .ok (.ireturn, 1) := by decide +kernel
theorem nd_Room_rule_0 : decode nC_Room_rule 0 = .ok (.aload_n 0, 1) := by decide +kernel
theorem nd_Room_rule_1 : decode nC_Room_rule 1 = .ok (.getfield 37, 3) := by decide +kernel
theorem nd_Room_rule_4 : decode nC_Room_rule 4 = .ok (.getfield 169, 3) := by decide +kernel
theorem nd_Room_rule_7 : decode nC_Room_rule 7 = .ok (.iconst 4, 1) := by decide +kernel
theorem nd_Room_rule_8 : decode nC_Room_rule 8 = .ok (.invokestatic 77, 3) := by decide +kernel
theorem nd_Room_rule_11 : decode nC_Room_rule 11 = .ok (.iload_n 1, 1) := by decide +kernel
theorem nd_Room_rule_12 : decode nC_Room_rule 12 = .ok (.iconst 0, 1) := by decide +kernel
theorem nd_Room_rule_13 : decode nC_Room_rule 13 = .ok (.iconst 3, 1) := by decide +kernel
theorem nd_Room_rule_14 : decode nC_Room_rule 14 = .ok (.invokestatic 52, 3) := by decide +kernel
theorem nd_Room_rule_17 : decode nC_Room_rule 17 = .ok (.iload_n 2, 1) := by decide +kernel
