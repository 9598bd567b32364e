theorem nd_Math_floorDiv_0 : decode nC_Math_floorDiv 0 = .ok (.lload_n 0, 1) := by decide +kernel
theorem nd_Math_floorDiv_1 : decode nC_Math_floorDiv 1 = .ok (.lload_n 2, 1) := by decide +kernel
theorem nd_Math_floorDiv_2 : decode nC_Math_floorDiv 2 = .ok (.ldiv, 1) := by decide +kernel
theorem nd_Math_floorDiv_3 : decode nC_Math_floorDiv 3 = .ok (.lstore 4, 2) := by decide +kernel
theorem nd_Math_floorDiv_5 : decode nC_Math_floorDiv 5 = .ok (.lload_n 0, 1) := by decide +kernel
theorem nd_Math_floorDiv_6 : decode nC_Math_floorDiv 6 = .ok (.lload_n 2, 1) := by decide +kernel
theorem nd_Math_floorDiv_7 : decode nC_Math_floorDiv 7 = .ok (.lxor, 1) := by decide +kernel
theorem nd_Math_floorDiv_8 : decode nC_Math_floorDiv 8 = .ok (.lconst 0, 1) := by decide +kernel
theorem nd_Math_floorDiv_9 : decode nC_Math_floorDiv 9 = .ok (.lcmp, 1) := by decide +kernel
theorem nd_Math_floorDiv_10 : decode nC_Math_floorDiv 10 = .ok (.ifCond .ge 17, 3) := by decide +kernel
theorem nd_Math_floorDiv_13 : decode nC_Math_floorDiv 13 = .ok (.lload 4, 2) := by decide +kernel
theorem nd_Math_floorDiv_15 : decode nC_Math_floorDiv 15 = .ok (.lload_n 2, 1) := by decide +kernel
theorem nd_Math_floorDiv_16 : decode nC_Math_floorDiv 16 = .ok (.lmul, 1) := by decide +kernel
theorem nd_Math_floorDiv_17 : decode nC_Math_floorDiv 17 = .ok (.lload_n 0, 1) := by decide +kernel
theorem nd_Math_floorDiv_18 : decode nC_Math_floorDiv 18 = .ok (.lcmp, 1) := by decide +kernel
theorem nd_Math_floorDiv_19 : decode nC_Math_floorDiv 19 = .ok (.ifCond .eq 8, 3) := by decide +kernel
theorem nd_Math_floorDiv_22 : decode nC_Math_floorDiv 22 = .ok (.lload 4, 2) := by decide +kernel
theorem nd_Math_floorDiv_24 : decode nC_Math_floorDiv 24 = .ok (.lconst 1, 1) := by decide +kernel
theorem nd_Math_floorDiv_25 : decode nC_Math_floorDiv 25 = .ok (.lsub, 1) := by decide +kernel
theorem nd_Math_floorDiv_26 : decode nC_Math_floorDiv 26 = .ok (.lreturn, 1) := by decide +kernel
theorem nd_Math_floorDiv_27 : decode nC_Math_floorDiv 27 = .ok (.lload 4, 2) := by decide +kernel
theorem nd_Math_floorDiv_29 : decode nC_Math_floorDiv 29 = .ok (.lreturn, 1) := by decide +kernel
theorem nd_Room_by_0 : decode nC_Room_by 0 = .ok (.lload_n 2, 1) := by decide +kernel
theorem nd_Room_by_1 : decode nC_Room_by 1 = .ok (.lconst 0, 1) := by decide +kernel
theorem nd_Room_by_2 : decode nC_Room_by 2 = .ok (.lcmp, 1) := by decide +kernel
theorem nd_Room_by_3 : decode nC_Room_by 3 = .ok (.ifCond .le 11, 3) := by decide +kernel
theorem nd_Room_by_6 : decode nC_Room_by 6 = .ok (.lload_n 0, 1) := by decide +kernel
theorem nd_Room_by_7 : decode nC_Room_by 7 = .ok (.lload_n 2, 1) := by decide +kernel
theorem nd_Room_by_8 : decode nC_Room_by 8 = .ok (.invokestatic 261, 3) := by decide +kernel
theorem nd_Room_by_11 : decode nC_Room_by 11 = .ok (.goto 4, 3) := by decide +kernel
theorem nd_Room_by_14 : decode nC_Room_by 14 = .ok (.lconst 0, 1) := by decide +kernel
theorem nd_Room_by_15 : decode nC_Room_by 15 = .ok (.lreturn, 1) := by decide +kernel
theorem nd_Interior_warmth_0 : decode nC_Interior_warmth 0 = .ok (.aload_n 0, 1) := by decide +kernel
theorem nd_Interior_warmth_1 : decode nC_Interior_warmth 1 = .ok (.getfield 27, 3) := by decide +kernel
theorem nd_Interior_warmth_4 : decode nC_Interior_warmth 4 = .ok (.aload_n 0, 1) := by decide +kernel
theorem nd_Interior_warmth_5 : decode nC_Interior_warmth 5 = .ok (.getfield 18, 3) := by decide +kernel
theorem nd_Interior_warmth_8 : decode nC_Interior_warmth 8 = .ok (.i2l, 1) := by decide +kernel
theorem nd_Interior_warmth_9 : decode nC_Interior_warmth 9 = .ok (.invokestatic 36, 3) := by decide +kernel
theorem nd_Interior_warmth_12 : decode nC_Interior_warmth 12 = .ok (.lreturn, 1) := by decide +kernel
theorem nd_Interior_gainHeat_0 : decode nC_Interior_gainHeat 0 = .ok (.aload_n 0, 1) := by decide +kernel
theorem nd_Interior_gainHeat_1 : decode nC_Interior_gainHeat 1 = .ok (.dup, 1) := by decide +kernel
theorem nd_Interior_gainHeat_2 : decode nC_Interior_gainHeat 2 = .ok (.getfield 27, 3) := by decide +kernel
theorem nd_Interior_gainHeat_5 : decode nC_Interior_gainHeat 5 = .ok (.lload_n 2, 1) := by decide +kernel
theorem nd_Interior_gainHeat_6 : decode nC_Interior_gainHeat 6 = .ok (.ladd, 1) := by decide +kernel
theorem nd_Interior_gainHeat_7 : decode nC_Interior_gainHeat 7 = .ok (.putfield 27, 3) := by decide +kernel
theorem nd_Interior_gainHeat_10 : decode nC_Interior_gainHeat 10 = .ok (.aload_n 0, 1) := by decide +kernel
theorem nd_Interior_gainHeat_11 : decode nC_Interior_gainHeat 11 = .ok (.getfield 9, 3) := by decide +kernel
theorem nd_Interior_gainHeat_14 : decode nC_Interior_gainHeat 14 = .ok (.iload_n 1, 1) := by decide +kernel
theorem nd_Interior_gainHeat_15 : decode nC_Interior_gainHeat 15 = .ok (.dup2, 1) := by decide +kernel
theorem nd_Interior_gainHeat_16 : decode nC_Interior_gainHeat 16 = .ok (.laload, 1) := by decide +kernel
theorem nd_Interior_gainHeat_17 : decode nC_Interior_gainHeat 17 = .ok (.lload_n 2, 1) := by decide +kernel
theorem nd_Interior_gainHeat_18 : decode nC_Interior_gainHeat 18 = .ok (.ladd, 1) := by decide +kernel
theorem nd_Interior_gainHeat_19 : decode nC_Interior_gainHeat 19 = .ok (.lastore, 1) := by decide +kernel
theorem nd_Interior_gainHeat_20 : decode nC_Interior_gainHeat 20 = .ok (.return_, 1) := by decide +kernel
theorem nd_Interior_moisture_0 : decode nC_Interior_moisture 0 = .ok (.aload_n 0, 1) := by decide +kernel
theorem nd_Interior_moisture_1 : decode nC_Interior_moisture 1 = .ok (.getfield 33, 3) := by decide +kernel
theorem nd_Interior_moisture_4 : decode nC_Interior_moisture 4 = .ok (.aload_n 0, 1) := by decide +kernel
theorem nd_Interior_moisture_5 : decode nC_Interior_moisture 5 = .ok (.getfield 18, 3) := by decide +kernel
theorem nd_Interior_moisture_8 : decode nC_Interior_moisture 8 = .ok (.i2l, 1) := by decide +kernel
theorem nd_Interior_moisture_9 : decode nC_Interior_moisture 9 = .ok (.invokestatic 36, 3) := by decide +kernel
theorem nd_Interior_moisture_12 : decode nC_Interior_moisture 12 = .ok (.lreturn, 1) := by decide +kernel
theorem nd_Interior_gainWater_0 : decode nC_Interior_gainWater 0 = .ok (.aload_n 0, 1) := by decide +kernel
theorem nd_Interior_gainWater_1 : decode nC_Interior_gainWater 1 = .ok (.dup, 1) := by decide +kernel
theorem nd_Interior_gainWater_2 : decode nC_Interior_gainWater 2 = .ok (.getfield 33, 3) := by decide +kernel
theorem nd_Interior_gainWater_5 : decode nC_Interior_gainWater 5 = .ok (.lload_n 2, 1) := by decide +kernel
theorem nd_Interior_gainWater_6 : decode nC_Interior_gainWater 6 = .ok (.ladd, 1) := by decide +kernel
theorem nd_Interior_gainWater_7 : decode nC_Interior_gainWater 7 = .ok (.putfield 33, 3) := by decide +kernel
theorem nd_Interior_gainWater_10 : decode nC_Interior_gainWater 10 = .ok (.aload_n 0, 1) := by decide +kernel
theorem nd_Interior_gainWater_11 : decode nC_Interior_gainWater 11 = .ok (.getfield 15, 3) := by decide +kernel
theorem nd_Interior_gainWater_14 : decode nC_Interior_gainWater 14 = .ok (.iload_n 1, 1) := by decide +kernel
theorem nd_Interior_gainWater_15 : decode nC_Interior_gainWater 15 = .ok (.dup2, 1) := by decide +kernel
theorem nd_Interior_gainWater_16 : decode nC_Interior_gainWater 16 = .ok (.laload, 1) := by decide +kernel
theorem nd_Interior_gainWater_17 : decode nC_Interior_gainWater 17 = .ok (.lload_n 2, 1) := by decide +kernel
theorem nd_Interior_gainWater_18 : decode nC_Interior_gainWater 18 = .ok (.ladd, 1) := by decide +kernel
theorem nd_Interior_gainWater_19 : decode nC_Interior_gainWater 19 = .ok (.lastore, 1) := by decide +kernel
theorem nd_Interior_gainWater_20 : decode nC_Interior_gainWater 20 = .ok (.return_, 1) := by decide +kernel
theorem nd_Interior_exchangeAir_0 : decode nC_Interior_exchangeAir 0 = .ok (.aload_n 0, 1) := by decide +kernel
theorem nd_Interior_exchangeAir_1 : decode nC_Interior_exchangeAir 1 = .ok (.iconst 0, 1) := by decide +kernel
theorem nd_Interior_exchangeAir_2 : decode nC_Interior_exchangeAir 2 = .ok (.aload_n 0, 1) := by decide +kernel
theorem nd_Interior_exchangeAir_3 : decode nC_Interior_exchangeAir 3 = .ok (.getfield 22, 3) := by decide +kernel
theorem nd_Interior_exchangeAir_6 : decode nC_Interior_exchangeAir 6 = .ok (.i2l, 1) := by decide +kernel
theorem nd_Interior_exchangeAir_7 : decode nC_Interior_exchangeAir 7 = .ok (.iload_n 1, 1) := by decide +kernel
theorem nd_Interior_exchangeAir_8 : decode nC_Interior_exchangeAir 8 = .ok (.i2l, 1) := by decide +kernel
theorem nd_Interior_exchangeAir_9 : decode nC_Interior_exchangeAir 9 = .ok (.aload_n 0, 1) := by decide +kernel
theorem nd_Interior_exchangeAir_10 : decode nC_Interior_exchangeAir 10 = .ok (.invokevirtual 40, 3) := by decide +kernel
theorem nd_Interior_exchangeAir_13 : decode nC_Interior_exchangeAir 13 = .ok (.lsub, 1) := by decide +kernel
theorem nd_Interior_exchangeAir_14 : decode nC_Interior_exchangeAir 14 = .ok (.lmul, 1) := by decide +kernel
theorem nd_Interior_exchangeAir_15 : decode nC_Interior_exchangeAir 15 = .ok (.aload_n 0, 1) := by decide +kernel
theorem nd_Interior_exchangeAir_16 : decode nC_Interior_exchangeAir 16 = .ok (.getfield 18, 3) := by decide +kernel
theorem nd_Interior_exchangeAir_19 : decode nC_Interior_exchangeAir 19 = .ok (.i2l, 1) := by decide +kernel
theorem nd_Interior_exchangeAir_20 : decode nC_Interior_exchangeAir 20 = .ok (.lmul, 1) := by decide +kernel
theorem nd_Interior_exchangeAir_21 : decode nC_Interior_exchangeAir 21 = .ok (.ldc2_w 44, 3) := by decide +kernel
theorem nd_Interior_exchangeAir_24 : decode nC_Interior_exchangeAir 24 = .ok (.invokestatic 36, 3) := by decide +kernel
theorem nd_Interior_exchangeAir_27 : decode nC_Interior_exchangeAir 27 = .ok (.invokevirtual 46, 3) := by decide +kernel
theorem nd_Interior_exchangeAir_30 : decode nC_Interior_exchangeAir 30 = .ok (.aload_n 0, 1) := by decide +kernel
theorem nd_Interior_exchangeAir_31 : decode nC_Interior_exchangeAir 31 = .ok (.iconst 0, 1) := by decide +kernel
theorem nd_Interior_exchangeAir_32 : decode nC_Interior_exchangeAir 32 = .ok (.aload_n 0, 1) := by decide +kernel
theorem nd_Interior_exchangeAir_33 : decode nC_Interior_exchangeAir 33 = .ok (.getfield 22, 3) := by decide +kernel
theorem nd_Interior_exchangeAir_36 : decode nC_Interior_exchangeAir 36 = .ok (.i2l, 1) := by decide +kernel
theorem nd_Interior_exchangeAir_37 : decode nC_Interior_exchangeAir 37 = .ok (.iload_n 2, 1) := by decide +kernel
theorem nd_Interior_exchangeAir_38 : decode nC_Interior_exchangeAir 38 = .ok (.i2l, 1) := by decide +kernel
theorem nd_Interior_exchangeAir_39 : decode nC_Interior_exchangeAir 39 = .ok (.aload_n 0, 1) := by decide +kernel
theorem nd_Interior_exchangeAir_40 : decode nC_Interior_exchangeAir 40 = .ok (.invokevirtual 50, 3) := by decide +kernel
theorem nd_Interior_exchangeAir_43 : decode nC_Interior_exchangeAir 43 = .ok (.lsub, 1) := by decide +kernel
theorem nd_Interior_exchangeAir_44 : decode nC_Interior_exchangeAir 44 = .ok (.lmul, 1) := by decide +kernel
theorem nd_Interior_exchangeAir_45 : decode nC_Interior_exchangeAir 45 = .ok (.aload_n 0, 1) := by decide +kernel
theorem nd_Interior_exchangeAir_46 : decode nC_Interior_exchangeAir 46 = .ok (.getfield 18, 3) := by decide +kernel
theorem nd_Interior_exchangeAir_49 : decode nC_Interior_exchangeAir 49 = .ok (.i2l, 1) := by decide +kernel
theorem nd_Interior_exchangeAir_50 : decode nC_Interior_exchangeAir 50 = .ok (.lmul, 1) := by decide +kernel
theorem nd_Interior_exchangeAir_51 : decode nC_Interior_exchangeAir 51 = .ok (.ldc2_w 44, 3) := by decide +kernel
theorem nd_Interior_exchangeAir_54 : decode nC_Interior_exchangeAir 54 = .ok (.invokestatic 36, 3) := by decide +kernel
theorem nd_Interior_exchangeAir_57 : decode nC_Interior_exchangeAir 57 = .ok (.invokevirtual 53, 3) := by decide +kernel
theorem nd_Interior_exchangeAir_60 : decode nC_Interior_exchangeAir 60 = .ok (.return_, 1) := by decide +kernel
theorem nd_Steps_amountUpTo_0 : decode nC_Steps_amountUpTo 0 = .ok (.iconst 0, 1) := by decide +kernel
theorem nd_Steps_amountUpTo_1 : decode nC_Steps_amountUpTo 1 = .ok (.istore_n 3, 1) := by decide +kernel
theorem nd_Steps_amountUpTo_2 : decode nC_Steps_amountUpTo 2 = .ok (.iload_n 3, 1) := by decide +kernel
theorem nd_Steps_amountUpTo_3 : decode nC_Steps_amountUpTo 3 = .ok (.aload_n 0, 1) := by decide +kernel
theorem nd_Steps_amountUpTo_4 : decode nC_Steps_amountUpTo 4 = .ok (.getfield 16, 3) := by decide +kernel
theorem nd_Steps_amountUpTo_7 : decode nC_Steps_amountUpTo 7 = .ok (.if_icmp .ge 28, 3) := by decide +kernel
theorem nd_Steps_amountUpTo_10 : decode nC_Steps_amountUpTo 10 = .ok (.aload_n 0, 1) := by decide +kernel
theorem nd_Steps_amountUpTo_11 : decode nC_Steps_amountUpTo 11 = .ok (.getfield 7, 3) := by decide +kernel
theorem nd_Steps_amountUpTo_14 : decode nC_Steps_amountUpTo 14 = .ok (.iload_n 3, 1) := by decide +kernel
theorem nd_Steps_amountUpTo_15 : decode nC_Steps_amountUpTo 15 = .ok (.iaload, 1) := by decide +kernel
theorem nd_Steps_amountUpTo_16 : decode nC_Steps_amountUpTo 16 = .ok (.i2l, 1) := by decide +kernel
theorem nd_Steps_amountUpTo_17 : decode nC_Steps_amountUpTo 17 = .ok (.lload_n 1, 1) := by decide +kernel
theorem nd_Steps_amountUpTo_18 : decode nC_Steps_amountUpTo 18 = .ok (.lcmp, 1) := by decide +kernel
theorem nd_Steps_amountUpTo_19 : decode nC_Steps_amountUpTo 19 = .ok (.ifCond .lt 10, 3) := by decide +kernel
theorem nd_Steps_amountUpTo_22 : decode nC_Steps_amountUpTo 22 = .ok (.aload_n 0, 1) := by decide +kernel
theorem nd_Steps_amountUpTo_23 : decode nC_Steps_amountUpTo 23 = .ok (.getfield 13, 3) := by decide +kernel
theorem nd_Steps_amountUpTo_26 : decode nC_Steps_amountUpTo 26 = .ok (.iload_n 3, 1) := by decide +kernel
theorem nd_Steps_amountUpTo_27 : decode nC_Steps_amountUpTo 27 = .ok (.iaload, 1) := by decide +kernel
theorem nd_Steps_amountUpTo_28 : decode nC_Steps_amountUpTo 28 = .ok (.ireturn, 1) := by decide +kernel
theorem nd_Steps_amountUpTo_29 : decode nC_Steps_amountUpTo 29 = .ok (.iinc 3 1, 3) := by decide +kernel
theorem nd_Steps_amountUpTo_32 : decode nC_Steps_amountUpTo 32 = .ok (.goto (-30), 3) := by decide +kernel
theorem nd_Steps_amountUpTo_35 : decode nC_Steps_amountUpTo 35 = .ok (.aload_n 0, 1) := by decide +kernel
theorem nd_Steps_amountUpTo_36 : decode nC_Steps_amountUpTo 36 = .ok (.getfield 16, 3) := by decide +kernel
theorem nd_Steps_amountUpTo_39 : decode nC_Steps_amountUpTo 39 = .ok (.ifCond .le 17, 3) := by decide +kernel
theorem nd_Steps_amountUpTo_42 : decode nC_Steps_amountUpTo 42 = .ok (.aload_n 0, 1) := by decide +kernel
theorem nd_Steps_amountUpTo_43 : decode nC_Steps_amountUpTo 43 = .ok (.getfield 13, 3) := by decide +kernel
theorem nd_Steps_amountUpTo_46 : decode nC_Steps_amountUpTo 46 = .ok (.aload_n 0, 1) := by decide +kernel
theorem nd_Steps_amountUpTo_47 : decode nC_Steps_amountUpTo 47 = .ok (.getfield 16, 3) := by decide +kernel
theorem nd_Steps_amountUpTo_50 : decode nC_Steps_amountUpTo 50 = .ok (.iconst 1, 1) := by decide +kernel
theorem nd_Steps_amountUpTo_51 : decode nC_Steps_amountUpTo 51 = .ok (.isub, 1) := by decide +kernel
theorem nd_Steps_amountUpTo_52 : decode nC_Steps_amountUpTo 52 = .ok (.iaload, 1) := by decide +kernel
theorem nd_Steps_amountUpTo_53 : decode nC_Steps_amountUpTo 53 = .ok (.goto 4, 3) := by decide +kernel
theorem nd_Steps_amountUpTo_56 : decode nC_Steps_amountUpTo 56 = .ok (.iconst 0, 1) := by decide +kernel
theorem nd_Steps_amountUpTo_57 : decode nC_Steps_amountUpTo 57 = .ok (.ireturn, 1) := by decide +kernel
