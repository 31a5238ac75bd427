theorem dR_init_0 : decode cR_init 0 = .ok (.aload_n 0, 1) := by decide +kernel
theorem dR_init_1 : decode cR_init 1 = .ok (.invokespecial 3, 3) := by decide +kernel
theorem dR_init_4 : decode cR_init 4 = .ok (.aload_n 0, 1) := by decide +kernel
theorem dR_init_5 : decode cR_init 5 = .ok (.sipush 130, 3) := by decide +kernel
theorem dR_init_8 : decode cR_init 8 = .ok (.newarray .int, 2) := by decide +kernel
theorem dR_init_10 : decode cR_init 10 = .ok (.putfield 9, 3) := by decide +kernel
theorem dR_init_13 : decode cR_init 13 = .ok (.aload_n 0, 1) := by decide +kernel
theorem dR_init_14 : decode cR_init 14 = .ok (.iconst 0, 1) := by decide +kernel
theorem dR_init_15 : decode cR_init 15 = .ok (.putfield 15, 3) := by decide +kernel
theorem dR_init_18 : decode cR_init 18 = .ok (.return_, 1) := by decide +kernel
theorem dR_digitAt_0 : decode cR_digitAt 0 = .ok (.iload_n 1, 1) := by decide +kernel
theorem dR_digitAt_1 : decode cR_digitAt 1 = .ok (.ifCond .lt 19, 3) := by decide +kernel
theorem dR_digitAt_4 : decode cR_digitAt 4 = .ok (.iload_n 1, 1) := by decide +kernel
theorem dR_digitAt_5 : decode cR_digitAt 5 = .ok (.sipush 130, 3) := by decide +kernel
theorem dR_digitAt_8 : decode cR_digitAt 8 = .ok (.if_icmp .ge 12, 3) := by decide +kernel
theorem dR_digitAt_11 : decode cR_digitAt 11 = .ok (.aload_n 0, 1) := by decide +kernel
theorem dR_digitAt_12 : decode cR_digitAt 12 = .ok (.getfield 9, 3) := by decide +kernel
theorem dR_digitAt_15 : decode cR_digitAt 15 = .ok (.iload_n 1, 1) := by decide +kernel
theorem dR_digitAt_16 : decode cR_digitAt 16 = .ok (.iaload, 1) := by decide +kernel
theorem dR_digitAt_17 : decode cR_digitAt 17 = .ok (.goto 4, 3) := by decide +kernel
theorem dR_digitAt_20 : decode cR_digitAt 20 = .ok (.iconst 0, 1) := by decide +kernel
theorem dR_digitAt_21 : decode cR_digitAt 21 = .ok (.ireturn, 1) := by decide +kernel
theorem dR_setDigit_0 : decode cR_setDigit 0 = .ok (.iload_n 1, 1) := by decide +kernel
theorem dR_setDigit_1 : decode cR_setDigit 1 = .ok (.ifCond .lt 17, 3) := by decide +kernel
theorem dR_setDigit_4 : decode cR_setDigit 4 = .ok (.iload_n 1, 1) := by decide +kernel
theorem dR_setDigit_5 : decode cR_setDigit 5 = .ok (.sipush 130, 3) := by decide +kernel
theorem dR_setDigit_8 : decode cR_setDigit 8 = .ok (.if_icmp .ge 10, 3) := by decide +kernel
theorem dR_setDigit_11 : decode cR_setDigit 11 = .ok (.aload_n 0, 1) := by decide +kernel
theorem dR_setDigit_12 : decode cR_setDigit 12 = .ok (.getfield 9, 3) := by decide +kernel
theorem dR_setDigit_15 : decode cR_setDigit 15 = .ok (.iload_n 1, 1) := by decide +kernel
theorem dR_setDigit_16 : decode cR_setDigit 16 = .ok (.iload_n 2, 1) := by decide +kernel
theorem dR_setDigit_17 : decode cR_setDigit 17 = .ok (.iastore, 1) := by decide +kernel
theorem dR_setDigit_18 : decode cR_setDigit 18 = .ok (.return_, 1) := by decide +kernel
theorem dR_clear_0 : decode cR_clear 0 = .ok (.aload_n 0, 1) := by decide +kernel
theorem dR_clear_1 : decode cR_clear 1 = .ok (.getfield 9, 3) := by decide +kernel
theorem dR_clear_4 : decode cR_clear 4 = .ok (.iconst 0, 1) := by decide +kernel
theorem dR_clear_5 : decode cR_clear 5 = .ok (.invokestatic 19, 3) := by decide +kernel
theorem dR_clear_8 : decode cR_clear 8 = .ok (.aload_n 0, 1) := by decide +kernel
theorem dR_clear_9 : decode cR_clear 9 = .ok (.iconst 0, 1) := by decide +kernel
theorem dR_clear_10 : decode cR_clear 10 = .ok (.putfield 15, 3) := by decide +kernel
theorem dR_clear_13 : decode cR_clear 13 = .ok (.return_, 1) := by decide +kernel
theorem dR_setSign_0 : decode cR_setSign 0 = .ok (.aload_n 0, 1) := by decide +kernel
theorem dR_setSign_1 : decode cR_setSign 1 = .ok (.iload_n 1, 1) := by decide +kernel
theorem dR_setSign_2 : decode cR_setSign 2 = .ok (.ifCond .eq 14, 3) := by decide +kernel
theorem dR_setSign_5 : decode cR_setSign 5 = .ok (.aload_n 0, 1) := by decide +kernel
theorem dR_setSign_6 : decode cR_setSign 6 = .ok (.invokevirtual 25, 3) := by decide +kernel
theorem dR_setSign_9 : decode cR_setSign 9 = .ok (.ifCond .ne 7, 3) := by decide +kernel
theorem dR_setSign_12 : decode cR_setSign 12 = .ok (.iconst 1, 1) := by decide +kernel
theorem dR_setSign_13 : decode cR_setSign 13 = .ok (.goto 4, 3) := by decide +kernel
theorem dR_setSign_16 : decode cR_setSign 16 = .ok (.iconst 0, 1) := by decide +kernel
theorem dR_setSign_17 : decode cR_setSign 17 = .ok (.putfield 15, 3) := by decide +kernel
theorem dR_setSign_20 : decode cR_setSign 20 = .ok (.return_, 1) := by decide +kernel
theorem dR_isZero_0 : decode cR_isZero 0 = .ok (.aload_n 0, 1) := by decide +kernel
theorem dR_isZero_1 : decode cR_isZero 1 = .ok (.iconst 0, 1) := by decide +kernel
theorem dR_isZero_2 : decode cR_isZero 2 = .ok (.sipush 130, 3) := by decide +kernel
theorem dR_isZero_5 : decode cR_isZero 5 = .ok (.invokevirtual 29, 3) := by decide +kernel
theorem dR_isZero_8 : decode cR_isZero 8 = .ok (.ifCond .ne 7, 3) := by decide +kernel
theorem dR_isZero_11 : decode cR_isZero 11 = .ok (.iconst 1, 1) := by decide +kernel
theorem dR_isZero_12 : decode cR_isZero 12 = .ok (.goto 4, 3) := by decide +kernel
theorem dR_isZero_15 : decode cR_isZero 15 = .ok (.iconst 0, 1) := by decide +kernel
theorem dR_isZero_16 : decode cR_isZero 16 = .ok (.ireturn, 1) := by decide +kernel
theorem dR_hasDigit_0 : decode cR_hasDigit 0 = .ok (.iload_n 1, 1) := by decide +kernel
theorem dR_hasDigit_1 : decode cR_hasDigit 1 = .ok (.istore_n 3, 1) := by decide +kernel
theorem dR_hasDigit_2 : decode cR_hasDigit 2 = .ok (.iload_n 3, 1) := by decide +kernel
theorem dR_hasDigit_3 : decode cR_hasDigit 3 = .ok (.iload_n 2, 1) := by decide +kernel
theorem dR_hasDigit_4 : decode cR_hasDigit 4 = .ok (.if_icmp .ge 19, 3) := by decide +kernel
theorem dR_hasDigit_7 : decode cR_hasDigit 7 = .ok (.aload_n 0, 1) := by decide +kernel
theorem dR_hasDigit_8 : decode cR_hasDigit 8 = .ok (.iload_n 3, 1) := by decide +kernel
theorem dR_hasDigit_9 : decode cR_hasDigit 9 = .ok (.invokevirtual 33, 3) := by decide +kernel
theorem dR_hasDigit_12 : decode cR_hasDigit 12 = .ok (.ifCond .eq 5, 3) := by decide +kernel
theorem dR_hasDigit_15 : decode cR_hasDigit 15 = .ok (.iconst 1, 1) := by decide +kernel
theorem dR_hasDigit_16 : decode cR_hasDigit 16 = .ok (.ireturn, 1) := by decide +kernel
theorem dR_hasDigit_17 : decode cR_hasDigit 17 = .ok (.iinc 3 1, 3) := by decide +kernel
theorem dR_hasDigit_20 : decode cR_hasDigit 20 = .ok (.goto (-18), 3) := by decide +kernel
theorem dR_hasDigit_23 : decode cR_hasDigit 23 = .ok (.iconst 0, 1) := by decide +kernel
theorem dR_hasDigit_24 : decode cR_hasDigit 24 = .ok (.ireturn, 1) := by decide +kernel
theorem dR_flagsOfLowest_0 : decode cR_flagsOfLowest 0 = .ok (.iconst 0, 1) := by decide +kernel
theorem dR_flagsOfLowest_1 : decode cR_flagsOfLowest 1 = .ok (.istore_n 2, 1) := by decide +kernel
theorem dR_flagsOfLowest_2 : decode cR_flagsOfLowest 2 = .ok (.aload_n 0, 1) := by decide +kernel
theorem dR_flagsOfLowest_3 : decode cR_flagsOfLowest 3 = .ok (.iconst 0, 1) := by decide +kernel
theorem dR_flagsOfLowest_4 : decode cR_flagsOfLowest 4 = .ok (.iload_n 1, 1) := by decide +kernel
theorem dR_flagsOfLowest_5 : decode cR_flagsOfLowest 5 = .ok (.invokevirtual 29, 3) := by decide +kernel
theorem dR_flagsOfLowest_8 : decode cR_flagsOfLowest 8 = .ok (.ifCond .ne 8, 3) := by decide +kernel
theorem dR_flagsOfLowest_11 : decode cR_flagsOfLowest 11 = .ok (.iconst 4, 1) := by decide +kernel
theorem dR_flagsOfLowest_12 : decode cR_flagsOfLowest 12 = .ok (.istore_n 2, 1) := by decide +kernel
theorem dR_flagsOfLowest_13 : decode cR_flagsOfLowest 13 = .ok (.goto 13, 3) := by decide +kernel
theorem dR_flagsOfLowest_16 : decode cR_flagsOfLowest 16 = .ok (.aload_n 0, 1) := by decide +kernel
theorem dR_flagsOfLowest_17 : decode cR_flagsOfLowest 17 = .ok (.getfield 15, 3) := by decide +kernel
theorem dR_flagsOfLowest_20 : decode cR_flagsOfLowest 20 = .ok (.ifCond .eq 6, 3) := by decide +kernel
theorem dR_flagsOfLowest_23 : decode cR_flagsOfLowest 23 = .ok (.bipush 8, 2) := by decide +kernel
theorem dR_flagsOfLowest_25 : decode cR_flagsOfLowest 25 = .ok (.istore_n 2, 1) := by decide +kernel
theorem dR_flagsOfLowest_26 : decode cR_flagsOfLowest 26 = .ok (.aload_n 0, 1) := by decide +kernel
theorem dR_flagsOfLowest_27 : decode cR_flagsOfLowest 27 = .ok (.iload_n 1, 1) := by decide +kernel
theorem dR_flagsOfLowest_28 : decode cR_flagsOfLowest 28 = .ok (.sipush 130, 3) := by decide +kernel
theorem dR_flagsOfLowest_31 : decode cR_flagsOfLowest 31 = .ok (.invokevirtual 29, 3) := by decide +kernel
theorem dR_flagsOfLowest_34 : decode cR_flagsOfLowest 34 = .ok (.ifCond .eq 9, 3) := by decide +kernel
theorem dR_flagsOfLowest_37 : decode cR_flagsOfLowest 37 = .ok (.iload_n 2, 1) := by decide +kernel
theorem dR_flagsOfLowest_38 : decode cR_flagsOfLowest 38 = .ok (.iconst 2, 1) := by decide +kernel
theorem dR_flagsOfLowest_39 : decode cR_flagsOfLowest 39 = .ok (.ior, 1) := by decide +kernel
theorem dR_flagsOfLowest_40 : decode cR_flagsOfLowest 40 = .ok (.goto 4, 3) := by decide +kernel
theorem dR_flagsOfLowest_43 : decode cR_flagsOfLowest 43 = .ok (.iload_n 2, 1) := by decide +kernel
theorem dR_flagsOfLowest_44 : decode cR_flagsOfLowest 44 = .ok (.ireturn, 1) := by decide +kernel
theorem dR_take_0 : decode cR_take 0 = .ok (.aload_n 0, 1) := by decide +kernel
theorem dR_take_1 : decode cR_take 1 = .ok (.invokevirtual 37, 3) := by decide +kernel
theorem dR_take_4 : decode cR_take 4 = .ok (.iload_n 1, 1) := by decide +kernel
theorem dR_take_5 : decode cR_take 5 = .ok (.i2l, 1) := by decide +kernel
theorem dR_take_6 : decode cR_take 6 = .ok (.invokestatic 40, 3) := by decide +kernel
theorem dR_take_9 : decode cR_take 9 = .ok (.lstore_n 2, 1) := by decide +kernel
theorem dR_take_10 : decode cR_take 10 = .ok (.iconst 0, 1) := by decide +kernel
theorem dR_take_11 : decode cR_take 11 = .ok (.istore 4, 2) := by decide +kernel
theorem dR_take_13 : decode cR_take 13 = .ok (.iload 4, 2) := by decide +kernel
theorem dR_take_15 : decode cR_take 15 = .ok (.bipush 31, 2) := by decide +kernel
theorem dR_take_17 : decode cR_take 17 = .ok (.if_icmp .ge 27, 3) := by decide +kernel
theorem dR_take_20 : decode cR_take 20 = .ok (.aload_n 0, 1) := by decide +kernel
theorem dR_take_21 : decode cR_take 21 = .ok (.iload 4, 2) := by decide +kernel
theorem dR_take_23 : decode cR_take 23 = .ok (.lload_n 2, 1) := by decide +kernel
theorem dR_take_24 : decode cR_take 24 = .ok (.ldc2_w 46, 3) := by decide +kernel
theorem dR_take_27 : decode cR_take 27 = .ok (.lrem, 1) := by decide +kernel
theorem dR_take_28 : decode cR_take 28 = .ok (.l2i, 1) := by decide +kernel
theorem dR_take_29 : decode cR_take 29 = .ok (.invokevirtual 48, 3) := by decide +kernel
theorem dR_take_32 : decode cR_take 32 = .ok (.lload_n 2, 1) := by decide +kernel
theorem dR_take_33 : decode cR_take 33 = .ok (.ldc2_w 46, 3) := by decide +kernel
theorem dR_take_36 : decode cR_take 36 = .ok (.ldiv, 1) := by decide +kernel
theorem dR_take_37 : decode cR_take 37 = .ok (.lstore_n 2, 1) := by decide +kernel
theorem dR_take_38 : decode cR_take 38 = .ok (.iinc 4 1, 3) := by decide +kernel
theorem dR_take_41 : decode cR_take 41 = .ok (.goto (-28), 3) := by decide +kernel
theorem dR_take_44 : decode cR_take 44 = .ok (.aload_n 0, 1) := by decide +kernel
theorem dR_take_45 : decode cR_take 45 = .ok (.iload_n 1, 1) := by decide +kernel
theorem dR_take_46 : decode cR_take 46 = .ok (.ifCond .ge 7, 3) := by decide +kernel
theorem dR_take_49 : decode cR_take 49 = .ok (.iconst 1, 1) := by decide +kernel
theorem dR_take_50 : decode cR_take 50 = .ok (.goto 4, 3) := by decide +kernel
theorem dR_take_53 : decode cR_take 53 = .ok (.iconst 0, 1) := by decide +kernel
theorem dR_take_54 : decode cR_take 54 = .ok (.putfield 15, 3) := by decide +kernel
theorem dR_take_57 : decode cR_take 57 = .ok (.return_, 1) := by decide +kernel
theorem dR_lowestBits_0 : decode cR_lowestBits 0 = .ok (.lconst 0, 1) := by decide +kernel
theorem dR_lowestBits_1 : decode cR_lowestBits 1 = .ok (.lstore_n 1, 1) := by decide +kernel
theorem dR_lowestBits_2 : decode cR_lowestBits 2 = .ok (.bipush 30, 2) := by decide +kernel
theorem dR_lowestBits_4 : decode cR_lowestBits 4 = .ok (.istore_n 3, 1) := by decide +kernel
theorem dR_lowestBits_5 : decode cR_lowestBits 5 = .ok (.iload_n 3, 1) := by decide +kernel
theorem dR_lowestBits_6 : decode cR_lowestBits 6 = .ok (.ifCond .lt 22, 3) := by decide +kernel
theorem dR_lowestBits_9 : decode cR_lowestBits 9 = .ok (.lload_n 1, 1) := by decide +kernel
theorem dR_lowestBits_10 : decode cR_lowestBits 10 = .ok (.ldc2_w 46, 3) := by decide +kernel
theorem dR_lowestBits_13 : decode cR_lowestBits 13 = .ok (.lmul, 1) := by decide +kernel
theorem dR_lowestBits_14 : decode cR_lowestBits 14 = .ok (.aload_n 0, 1) := by decide +kernel
theorem dR_lowestBits_15 : decode cR_lowestBits 15 = .ok (.iload_n 3, 1) := by decide +kernel
theorem dR_lowestBits_16 : decode cR_lowestBits 16 = .ok (.invokevirtual 33, 3) := by decide +kernel
theorem dR_lowestBits_19 : decode cR_lowestBits 19 = .ok (.i2l, 1) := by decide +kernel
theorem dR_lowestBits_20 : decode cR_lowestBits 20 = .ok (.ladd, 1) := by decide +kernel
theorem dR_lowestBits_21 : decode cR_lowestBits 21 = .ok (.lstore_n 1, 1) := by decide +kernel
theorem dR_lowestBits_22 : decode cR_lowestBits 22 = .ok (.iinc 3 (-1), 3) := by decide +kernel
theorem dR_lowestBits_25 : decode cR_lowestBits 25 = .ok (.goto (-20), 3) := by decide +kernel
theorem dR_lowestBits_28 : decode cR_lowestBits 28 = .ok (.aload_n 0, 1) := by decide +kernel
theorem dR_lowestBits_29 : decode cR_lowestBits 29 = .ok (.getfield 15, 3) := by decide +kernel
theorem dR_lowestBits_32 : decode cR_lowestBits 32 = .ok (.ifCond .eq 8, 3) := by decide +kernel
theorem dR_lowestBits_35 : decode cR_lowestBits 35 = .ok (.lload_n 1, 1) := by decide +kernel
theorem dR_lowestBits_36 : decode cR_lowestBits 36 = .ok (.lneg, 1) := by decide +kernel
theorem dR_lowestBits_37 : decode cR_lowestBits 37 = .ok (.goto 4, 3) := by decide +kernel
theorem dR_lowestBits_40 : decode cR_lowestBits 40 = .ok (.lload_n 1, 1) := by decide +kernel
theorem dR_lowestBits_41 : decode cR_lowestBits 41 = .ok (.lreturn, 1) := by decide +kernel
theorem dR_orderOfSizes_0 : decode cR_orderOfSizes 0 = .ok (.bipush 31, 2) := by decide +kernel
theorem dR_orderOfSizes_2 : decode cR_orderOfSizes 2 = .ok (.istore_n 2, 1) := by decide +kernel
theorem dR_orderOfSizes_3 : decode cR_orderOfSizes 3 = .ok (.iload_n 2, 1) := by decide +kernel
theorem dR_orderOfSizes_4 : decode cR_orderOfSizes 4 = .ok (.ifCond .lt 41, 3) := by decide +kernel
theorem dR_orderOfSizes_7 : decode cR_orderOfSizes 7 = .ok (.aload_n 0, 1) := by decide +kernel
theorem dR_orderOfSizes_8 : decode cR_orderOfSizes 8 = .ok (.iload_n 2, 1) := by decide +kernel
theorem dR_orderOfSizes_9 : decode cR_orderOfSizes 9 = .ok (.invokevirtual 33, 3) := by decide +kernel
theorem dR_orderOfSizes_12 : decode cR_orderOfSizes 12 = .ok (.aload_n 1, 1) := by decide +kernel
theorem dR_orderOfSizes_13 : decode cR_orderOfSizes 13 = .ok (.iload_n 2, 1) := by decide +kernel
theorem dR_orderOfSizes_14 : decode cR_orderOfSizes 14 = .ok (.invokevirtual 33, 3) := by decide +kernel
theorem dR_orderOfSizes_17 : decode cR_orderOfSizes 17 = .ok (.if_icmp .eq 22, 3) := by decide +kernel
theorem dR_orderOfSizes_20 : decode cR_orderOfSizes 20 = .ok (.aload_n 0, 1) := by decide +kernel
theorem dR_orderOfSizes_21 : decode cR_orderOfSizes 21 = .ok (.iload_n 2, 1) := by decide +kernel
theorem dR_orderOfSizes_22 : decode cR_orderOfSizes 22 = .ok (.invokevirtual 33, 3) := by decide +kernel
theorem dR_orderOfSizes_25 : decode cR_orderOfSizes 25 = .ok (.aload_n 1, 1) := by decide +kernel
theorem dR_orderOfSizes_26 : decode cR_orderOfSizes 26 = .ok (.iload_n 2, 1) := by decide +kernel
theorem dR_orderOfSizes_27 : decode cR_orderOfSizes 27 = .ok (.invokevirtual 33, 3) := by decide +kernel
theorem dR_orderOfSizes_30 : decode cR_orderOfSizes 30 = .ok (.if_icmp .ge 7, 3) := by decide +kernel
theorem dR_orderOfSizes_33 : decode cR_orderOfSizes 33 = .ok (.iconst (-1), 1) := by decide +kernel
theorem dR_orderOfSizes_34 : decode cR_orderOfSizes 34 = .ok (.goto 4, 3) := by decide +kernel
theorem dR_orderOfSizes_37 : decode cR_orderOfSizes 37 = .ok (.iconst 1, 1) := by decide +kernel
theorem dR_orderOfSizes_38 : decode cR_orderOfSizes 38 = .ok (.ireturn, 1) := by decide +kernel
theorem dR_orderOfSizes_39 : decode cR_orderOfSizes 39 = .ok (.iinc 2 (-1), 3) := by decide +kernel
theorem dR_orderOfSizes_42 : decode cR_orderOfSizes 42 = .ok (.goto (-39), 3) := by decide +kernel
theorem dR_orderOfSizes_45 : decode cR_orderOfSizes 45 = .ok (.iconst 0, 1) := by decide +kernel
theorem dR_orderOfSizes_46 : decode cR_orderOfSizes 46 = .ok (.ireturn, 1) := by decide +kernel
theorem dR_orderSigned_0 : decode cR_orderSigned 0 = .ok (.aload_n 0, 1) := by decide +kernel
theorem dR_orderSigned_1 : decode cR_orderSigned 1 = .ok (.getfield 15, 3) := by decide +kernel
theorem dR_orderSigned_4 : decode cR_orderSigned 4 = .ok (.aload_n 1, 1) := by decide +kernel
theorem dR_orderSigned_5 : decode cR_orderSigned 5 = .ok (.getfield 15, 3) := by decide +kernel
theorem dR_orderSigned_8 : decode cR_orderSigned 8 = .ok (.if_icmp .eq 16, 3) := by decide +kernel
theorem dR_orderSigned_11 : decode cR_orderSigned 11 = .ok (.aload_n 0, 1) := by decide +kernel
theorem dR_orderSigned_12 : decode cR_orderSigned 12 = .ok (.getfield 15, 3) := by decide +kernel
theorem dR_orderSigned_15 : decode cR_orderSigned 15 = .ok (.ifCond .eq 7, 3) := by decide +kernel
theorem dR_orderSigned_18 : decode cR_orderSigned 18 = .ok (.iconst (-1), 1) := by decide +kernel
theorem dR_orderSigned_19 : decode cR_orderSigned 19 = .ok (.goto 4, 3) := by decide +kernel
theorem dR_orderSigned_22 : decode cR_orderSigned 22 = .ok (.iconst 1, 1) := by decide +kernel
theorem dR_orderSigned_23 : decode cR_orderSigned 23 = .ok (.ireturn, 1) := by decide +kernel
theorem dR_orderSigned_24 : decode cR_orderSigned 24 = .ok (.aload_n 0, 1) := by decide +kernel
theorem dR_orderSigned_25 : decode cR_orderSigned 25 = .ok (.aload_n 1, 1) := by decide +kernel
theorem dR_orderSigned_26 : decode cR_orderSigned 26 = .ok (.invokevirtual 52, 3) := by decide +kernel
theorem dR_orderSigned_29 : decode cR_orderSigned 29 = .ok (.istore_n 2, 1) := by decide +kernel
theorem dR_orderSigned_30 : decode cR_orderSigned 30 = .ok (.aload_n 0, 1) := by decide +kernel
theorem dR_orderSigned_31 : decode cR_orderSigned 31 = .ok (.getfield 15, 3) := by decide +kernel
theorem dR_orderSigned_34 : decode cR_orderSigned 34 = .ok (.ifCond .eq 8, 3) := by decide +kernel
theorem dR_orderSigned_37 : decode cR_orderSigned 37 = .ok (.iload_n 2, 1) := by decide +kernel
theorem dR_orderSigned_38 : decode cR_orderSigned 38 = .ok (.ineg, 1) := by decide +kernel
theorem dR_orderSigned_39 : decode cR_orderSigned 39 = .ok (.goto 4, 3) := by decide +kernel
theorem dR_orderSigned_42 : decode cR_orderSigned 42 = .ok (.iload_n 2, 1) := by decide +kernel
theorem dR_orderSigned_43 : decode cR_orderSigned 43 = .ok (.ireturn, 1) := by decide +kernel
theorem dR_addSigned_0 : decode cR_addSigned 0 = .ok (.aload_n 0, 1) := by decide +kernel
theorem dR_addSigned_1 : decode cR_addSigned 1 = .ok (.invokevirtual 37, 3) := by decide +kernel
theorem dR_addSigned_4 : decode cR_addSigned 4 = .ok (.aload_n 1, 1) := by decide +kernel
theorem dR_addSigned_5 : decode cR_addSigned 5 = .ok (.getfield 15, 3) := by decide +kernel
theorem dR_addSigned_8 : decode cR_addSigned 8 = .ok (.aload_n 2, 1) := by decide +kernel
theorem dR_addSigned_9 : decode cR_addSigned 9 = .ok (.getfield 15, 3) := by decide +kernel
theorem dR_addSigned_12 : decode cR_addSigned 12 = .ok (.if_icmp .ne 20, 3) := by decide +kernel
theorem dR_addSigned_15 : decode cR_addSigned 15 = .ok (.aload_n 0, 1) := by decide +kernel
theorem dR_addSigned_16 : decode cR_addSigned 16 = .ok (.aload_n 1, 1) := by decide +kernel
theorem dR_addSigned_17 : decode cR_addSigned 17 = .ok (.aload_n 2, 1) := by decide +kernel
theorem dR_addSigned_18 : decode cR_addSigned 18 = .ok (.invokevirtual 56, 3) := by decide +kernel
theorem dR_addSigned_21 : decode cR_addSigned 21 = .ok (.aload_n 0, 1) := by decide +kernel
theorem dR_addSigned_22 : decode cR_addSigned 22 = .ok (.aload_n 1, 1) := by decide +kernel
theorem dR_addSigned_23 : decode cR_addSigned 23 = .ok (.getfield 15, 3) := by decide +kernel
theorem dR_addSigned_26 : decode cR_addSigned 26 = .ok (.putfield 15, 3) := by decide +kernel
theorem dR_addSigned_29 : decode cR_addSigned 29 = .ok (.goto 42, 3) := by decide +kernel
theorem dR_addSigned_32 : decode cR_addSigned 32 = .ok (.aload_n 1, 1) := by decide +kernel
theorem dR_addSigned_33 : decode cR_addSigned 33 = .ok (.aload_n 2, 1) := by decide +kernel
theorem dR_addSigned_34 : decode cR_addSigned 34 = .ok (.invokevirtual 52, 3) := by decide +kernel
theorem dR_addSigned_37 : decode cR_addSigned 37 = .ok (.ifCond .lt 20, 3) := by decide +kernel
theorem dR_addSigned_40 : decode cR_addSigned 40 = .ok (.aload_n 0, 1) := by decide +kernel
theorem dR_addSigned_41 : decode cR_addSigned 41 = .ok (.aload_n 1, 1) := by decide +kernel
theorem dR_addSigned_42 : decode cR_addSigned 42 = .ok (.aload_n 2, 1) := by decide +kernel
theorem dR_addSigned_43 : decode cR_addSigned 43 = .ok (.invokevirtual 60, 3) := by decide +kernel
theorem dR_addSigned_46 : decode cR_addSigned 46 = .ok (.aload_n 0, 1) := by decide +kernel
theorem dR_addSigned_47 : decode cR_addSigned 47 = .ok (.aload_n 1, 1) := by decide +kernel
theorem dR_addSigned_48 : decode cR_addSigned 48 = .ok (.getfield 15, 3) := by decide +kernel
theorem dR_addSigned_51 : decode cR_addSigned 51 = .ok (.putfield 15, 3) := by decide +kernel
theorem dR_addSigned_54 : decode cR_addSigned 54 = .ok (.goto 17, 3) := by decide +kernel
theorem dR_addSigned_57 : decode cR_addSigned 57 = .ok (.aload_n 0, 1) := by decide +kernel
theorem dR_addSigned_58 : decode cR_addSigned 58 = .ok (.aload_n 2, 1) := by decide +kernel
theorem dR_addSigned_59 : decode cR_addSigned 59 = .ok (.aload_n 1, 1) := by decide +kernel
theorem dR_addSigned_60 : decode cR_addSigned 60 = .ok (.invokevirtual 60, 3) := by decide +kernel
theorem dR_addSigned_63 : decode cR_addSigned 63 = .ok (.aload_n 0, 1) := by decide +kernel
theorem dR_addSigned_64 : decode cR_addSigned 64 = .ok (.aload_n 2, 1) := by decide +kernel
theorem dR_addSigned_65 : decode cR_addSigned 65 = .ok (.getfield 15, 3) := by decide +kernel
theorem dR_addSigned_68 : decode cR_addSigned 68 = .ok (.putfield 15, 3) := by decide +kernel
theorem dR_addSigned_71 : decode cR_addSigned 71 = .ok (.return_, 1) := by decide +kernel
theorem dR_addSizes_0 : decode cR_addSizes 0 = .ok (.iconst 0, 1) := by decide +kernel
theorem dR_addSizes_1 : decode cR_addSizes 1 = .ok (.istore_n 3, 1) := by decide +kernel
theorem dR_addSizes_2 : decode cR_addSizes 2 = .ok (.iconst 0, 1) := by decide +kernel
theorem dR_addSizes_3 : decode cR_addSizes 3 = .ok (.istore 4, 2) := by decide +kernel
theorem dR_addSizes_5 : decode cR_addSizes 5 = .ok (.iload 4, 2) := by decide +kernel
theorem dR_addSizes_7 : decode cR_addSizes 7 = .ok (.bipush 32, 2) := by decide +kernel
theorem dR_addSizes_9 : decode cR_addSizes 9 = .ok (.if_icmp .ge 43, 3) := by decide +kernel
theorem dR_addSizes_12 : decode cR_addSizes 12 = .ok (.aload_n 1, 1) := by decide +kernel
theorem dR_addSizes_13 : decode cR_addSizes 13 = .ok (.iload 4, 2) := by decide +kernel
theorem dR_addSizes_15 : decode cR_addSizes 15 = .ok (.invokevirtual 33, 3) := by decide +kernel
theorem dR_addSizes_18 : decode cR_addSizes 18 = .ok (.aload_n 2, 1) := by decide +kernel
theorem dR_addSizes_19 : decode cR_addSizes 19 = .ok (.iload 4, 2) := by decide +kernel
theorem dR_addSizes_21 : decode cR_addSizes 21 = .ok (.invokevirtual 33, 3) := by decide +kernel
theorem dR_addSizes_24 : decode cR_addSizes 24 = .ok (.iadd, 1) := by decide +kernel
theorem dR_addSizes_25 : decode cR_addSizes 25 = .ok (.iload_n 3, 1) := by decide +kernel
theorem dR_addSizes_26 : decode cR_addSizes 26 = .ok (.iadd, 1) := by decide +kernel
theorem dR_addSizes_27 : decode cR_addSizes 27 = .ok (.istore 5, 2) := by decide +kernel
theorem dR_addSizes_29 : decode cR_addSizes 29 = .ok (.iload 5, 2) := by decide +kernel
theorem dR_addSizes_31 : decode cR_addSizes 31 = .ok (.bipush 10, 2) := by decide +kernel
theorem dR_addSizes_33 : decode cR_addSizes 33 = .ok (.idiv, 1) := by decide +kernel
theorem dR_addSizes_34 : decode cR_addSizes 34 = .ok (.istore_n 3, 1) := by decide +kernel
theorem dR_addSizes_35 : decode cR_addSizes 35 = .ok (.aload_n 0, 1) := by decide +kernel
theorem dR_addSizes_36 : decode cR_addSizes 36 = .ok (.iload 4, 2) := by decide +kernel
theorem dR_addSizes_38 : decode cR_addSizes 38 = .ok (.iload 5, 2) := by decide +kernel
theorem dR_addSizes_40 : decode cR_addSizes 40 = .ok (.bipush 10, 2) := by decide +kernel
theorem dR_addSizes_42 : decode cR_addSizes 42 = .ok (.irem, 1) := by decide +kernel
theorem dR_addSizes_43 : decode cR_addSizes 43 = .ok (.invokevirtual 48, 3) := by decide +kernel
theorem dR_addSizes_46 : decode cR_addSizes 46 = .ok (.iinc 4 1, 3) := by decide +kernel
theorem dR_addSizes_49 : decode cR_addSizes 49 = .ok (.goto (-44), 3) := by decide +kernel
theorem dR_addSizes_52 : decode cR_addSizes 52 = .ok (.return_, 1) := by decide +kernel
theorem dR_subtractSizes_0 : decode cR_subtractSizes 0 = .ok (.iconst 0, 1) := by decide +kernel
theorem dR_subtractSizes_1 : decode cR_subtractSizes 1 = .ok (.istore_n 3, 1) := by decide +kernel
theorem dR_subtractSizes_2 : decode cR_subtractSizes 2 = .ok (.iconst 0, 1) := by decide +kernel
theorem dR_subtractSizes_3 : decode cR_subtractSizes 3 = .ok (.istore 4, 2) := by decide +kernel
theorem dR_subtractSizes_5 : decode cR_subtractSizes 5 = .ok (.iload 4, 2) := by decide +kernel
theorem dR_subtractSizes_7 : decode cR_subtractSizes 7 = .ok (.bipush 32, 2) := by decide +kernel
theorem dR_subtractSizes_9 : decode cR_subtractSizes 9 = .ok (.if_icmp .ge 50, 3) := by decide +kernel
theorem dR_subtractSizes_12 : decode cR_subtractSizes 12 = .ok (.aload_n 1, 1) := by decide +kernel
theorem dR_subtractSizes_13 : decode cR_subtractSizes 13 = .ok (.iload 4, 2) := by decide +kernel
theorem dR_subtractSizes_15 : decode cR_subtractSizes 15 = .ok (.invokevirtual 33, 3) := by decide +kernel
theorem dR_subtractSizes_18 : decode cR_subtractSizes 18 = .ok (.aload_n 2, 1) := by decide +kernel
theorem dR_subtractSizes_19 : decode cR_subtractSizes 19 = .ok (.iload 4, 2) := by decide +kernel
theorem dR_subtractSizes_21 : decode cR_subtractSizes 21 = .ok (.invokevirtual 33, 3) := by decide +kernel
theorem dR_subtractSizes_24 : decode cR_subtractSizes 24 = .ok (.isub, 1) := by decide +kernel
theorem dR_subtractSizes_25 : decode cR_subtractSizes 25 = .ok (.iload_n 3, 1) := by decide +kernel
theorem dR_subtractSizes_26 : decode cR_subtractSizes 26 = .ok (.isub, 1) := by decide +kernel
theorem dR_subtractSizes_27 : decode cR_subtractSizes 27 = .ok (.istore 5, 2) := by decide +kernel
theorem dR_subtractSizes_29 : decode cR_subtractSizes 29 = .ok (.iload 5, 2) := by decide +kernel
theorem dR_subtractSizes_31 : decode cR_subtractSizes 31 = .ok (.ifCond .ge 7, 3) := by decide +kernel
theorem dR_subtractSizes_34 : decode cR_subtractSizes 34 = .ok (.iconst 1, 1) := by decide +kernel
theorem dR_subtractSizes_35 : decode cR_subtractSizes 35 = .ok (.goto 4, 3) := by decide +kernel
theorem dR_subtractSizes_38 : decode cR_subtractSizes 38 = .ok (.iconst 0, 1) := by decide +kernel
theorem dR_subtractSizes_39 : decode cR_subtractSizes 39 = .ok (.istore_n 3, 1) := by decide +kernel
theorem dR_subtractSizes_40 : decode cR_subtractSizes 40 = .ok (.aload_n 0, 1) := by decide +kernel
theorem dR_subtractSizes_41 : decode cR_subtractSizes 41 = .ok (.iload 4, 2) := by decide +kernel
theorem dR_subtractSizes_43 : decode cR_subtractSizes 43 = .ok (.iload 5, 2) := by decide +kernel
theorem dR_subtractSizes_45 : decode cR_subtractSizes 45 = .ok (.bipush 10, 2) := by decide +kernel
theorem dR_subtractSizes_47 : decode cR_subtractSizes 47 = .ok (.iload_n 3, 1) := by decide +kernel
theorem dR_subtractSizes_48 : decode cR_subtractSizes 48 = .ok (.imul, 1) := by decide +kernel
theorem dR_subtractSizes_49 : decode cR_subtractSizes 49 = .ok (.iadd, 1) := by decide +kernel
theorem dR_subtractSizes_50 : decode cR_subtractSizes 50 = .ok (.invokevirtual 48, 3) := by decide +kernel
theorem dR_subtractSizes_53 : decode cR_subtractSizes 53 = .ok (.iinc 4 1, 3) := by decide +kernel
theorem dR_subtractSizes_56 : decode cR_subtractSizes 56 = .ok (.goto (-51), 3) := by decide +kernel
theorem dR_subtractSizes_59 : decode cR_subtractSizes 59 = .ok (.return_, 1) := by decide +kernel
theorem dR_addOne_0 : decode cR_addOne 0 = .ok (.iconst 1, 1) := by decide +kernel
theorem dR_addOne_1 : decode cR_addOne 1 = .ok (.istore_n 1, 1) := by decide +kernel
theorem dR_addOne_2 : decode cR_addOne 2 = .ok (.iconst 0, 1) := by decide +kernel
theorem dR_addOne_3 : decode cR_addOne 3 = .ok (.istore_n 2, 1) := by decide +kernel
theorem dR_addOne_4 : decode cR_addOne 4 = .ok (.iload_n 2, 1) := by decide +kernel
theorem dR_addOne_5 : decode cR_addOne 5 = .ok (.bipush 32, 2) := by decide +kernel
theorem dR_addOne_7 : decode cR_addOne 7 = .ok (.if_icmp .ge 35, 3) := by decide +kernel
theorem dR_addOne_10 : decode cR_addOne 10 = .ok (.iload_n 1, 1) := by decide +kernel
theorem dR_addOne_11 : decode cR_addOne 11 = .ok (.ifCond .le 31, 3) := by decide +kernel
theorem dR_addOne_14 : decode cR_addOne 14 = .ok (.aload_n 0, 1) := by decide +kernel
theorem dR_addOne_15 : decode cR_addOne 15 = .ok (.iload_n 2, 1) := by decide +kernel
theorem dR_addOne_16 : decode cR_addOne 16 = .ok (.invokevirtual 33, 3) := by decide +kernel
theorem dR_addOne_19 : decode cR_addOne 19 = .ok (.iload_n 1, 1) := by decide +kernel
theorem dR_addOne_20 : decode cR_addOne 20 = .ok (.iadd, 1) := by decide +kernel
theorem dR_addOne_21 : decode cR_addOne 21 = .ok (.istore_n 3, 1) := by decide +kernel
theorem dR_addOne_22 : decode cR_addOne 22 = .ok (.iload_n 3, 1) := by decide +kernel
theorem dR_addOne_23 : decode cR_addOne 23 = .ok (.bipush 10, 2) := by decide +kernel
theorem dR_addOne_25 : decode cR_addOne 25 = .ok (.idiv, 1) := by decide +kernel
theorem dR_addOne_26 : decode cR_addOne 26 = .ok (.istore_n 1, 1) := by decide +kernel
theorem dR_addOne_27 : decode cR_addOne 27 = .ok (.aload_n 0, 1) := by decide +kernel
theorem dR_addOne_28 : decode cR_addOne 28 = .ok (.iload_n 2, 1) := by decide +kernel
theorem dR_addOne_29 : decode cR_addOne 29 = .ok (.iload_n 3, 1) := by decide +kernel
theorem dR_addOne_30 : decode cR_addOne 30 = .ok (.bipush 10, 2) := by decide +kernel
theorem dR_addOne_32 : decode cR_addOne 32 = .ok (.irem, 1) := by decide +kernel
theorem dR_addOne_33 : decode cR_addOne 33 = .ok (.invokevirtual 48, 3) := by decide +kernel
theorem dR_addOne_36 : decode cR_addOne 36 = .ok (.iinc 2 1, 3) := by decide +kernel
theorem dR_addOne_39 : decode cR_addOne 39 = .ok (.goto (-35), 3) := by decide +kernel
theorem dR_addOne_42 : decode cR_addOne 42 = .ok (.return_, 1) := by decide +kernel
theorem dR_multiply_0 : decode cR_multiply 0 = .ok (.aload_n 0, 1) := by decide +kernel
theorem dR_multiply_1 : decode cR_multiply 1 = .ok (.invokevirtual 37, 3) := by decide +kernel
theorem dR_multiply_4 : decode cR_multiply 4 = .ok (.iconst 0, 1) := by decide +kernel
theorem dR_multiply_5 : decode cR_multiply 5 = .ok (.istore_n 3, 1) := by decide +kernel
theorem dR_multiply_6 : decode cR_multiply 6 = .ok (.iload_n 3, 1) := by decide +kernel
theorem dR_multiply_7 : decode cR_multiply 7 = .ok (.bipush 31, 2) := by decide +kernel
theorem dR_multiply_9 : decode cR_multiply 9 = .ok (.if_icmp .ge 28, 3) := by decide +kernel
theorem dR_multiply_12 : decode cR_multiply 12 = .ok (.aload_n 1, 1) := by decide +kernel
theorem dR_multiply_13 : decode cR_multiply 13 = .ok (.iload_n 3, 1) := by decide +kernel
theorem dR_multiply_14 : decode cR_multiply 14 = .ok (.invokevirtual 33, 3) := by decide +kernel
theorem dR_multiply_17 : decode cR_multiply 17 = .ok (.ifCond .eq 14, 3) := by decide +kernel
theorem dR_multiply_20 : decode cR_multiply 20 = .ok (.aload_n 0, 1) := by decide +kernel
theorem dR_multiply_21 : decode cR_multiply 21 = .ok (.aload_n 2, 1) := by decide +kernel
theorem dR_multiply_22 : decode cR_multiply 22 = .ok (.aload_n 1, 1) := by decide +kernel
theorem dR_multiply_23 : decode cR_multiply 23 = .ok (.iload_n 3, 1) := by decide +kernel
theorem dR_multiply_24 : decode cR_multiply 24 = .ok (.invokevirtual 33, 3) := by decide +kernel
theorem dR_multiply_27 : decode cR_multiply 27 = .ok (.iload_n 3, 1) := by decide +kernel
theorem dR_multiply_28 : decode cR_multiply 28 = .ok (.invokevirtual 63, 3) := by decide +kernel
theorem dR_multiply_31 : decode cR_multiply 31 = .ok (.iinc 3 1, 3) := by decide +kernel
theorem dR_multiply_34 : decode cR_multiply 34 = .ok (.goto (-28), 3) := by decide +kernel
theorem dR_multiply_37 : decode cR_multiply 37 = .ok (.aload_n 0, 1) := by decide +kernel
theorem dR_multiply_38 : decode cR_multiply 38 = .ok (.aload_n 1, 1) := by decide +kernel
theorem dR_multiply_39 : decode cR_multiply 39 = .ok (.getfield 15, 3) := by decide +kernel
theorem dR_multiply_42 : decode cR_multiply 42 = .ok (.aload_n 2, 1) := by decide +kernel
theorem dR_multiply_43 : decode cR_multiply 43 = .ok (.getfield 15, 3) := by decide +kernel
theorem dR_multiply_46 : decode cR_multiply 46 = .ok (.if_icmp .eq 7, 3) := by decide +kernel
theorem dR_multiply_49 : decode cR_multiply 49 = .ok (.iconst 1, 1) := by decide +kernel
theorem dR_multiply_50 : decode cR_multiply 50 = .ok (.goto 4, 3) := by decide +kernel
theorem dR_multiply_53 : decode cR_multiply 53 = .ok (.iconst 0, 1) := by decide +kernel
theorem dR_multiply_54 : decode cR_multiply 54 = .ok (.putfield 15, 3) := by decide +kernel
theorem dR_multiply_57 : decode cR_multiply 57 = .ok (.return_, 1) := by decide +kernel
theorem dR_addMultiple_0 : decode cR_addMultiple 0 = .ok (.iconst 0, 1) := by decide +kernel
theorem dR_addMultiple_1 : decode cR_addMultiple 1 = .ok (.istore 4, 2) := by decide +kernel
theorem dR_addMultiple_3 : decode cR_addMultiple 3 = .ok (.iconst 0, 1) := by decide +kernel
theorem dR_addMultiple_4 : decode cR_addMultiple 4 = .ok (.istore 5, 2) := by decide +kernel
theorem dR_addMultiple_6 : decode cR_addMultiple 6 = .ok (.iload 5, 2) := by decide +kernel
theorem dR_addMultiple_8 : decode cR_addMultiple 8 = .ok (.bipush 32, 2) := by decide +kernel
theorem dR_addMultiple_10 : decode cR_addMultiple 10 = .ok (.if_icmp .ge 51, 3) := by decide +kernel
theorem dR_addMultiple_13 : decode cR_addMultiple 13 = .ok (.aload_n 0, 1) := by decide +kernel
theorem dR_addMultiple_14 : decode cR_addMultiple 14 = .ok (.iload_n 3, 1) := by decide +kernel
theorem dR_addMultiple_15 : decode cR_addMultiple 15 = .ok (.iload 5, 2) := by decide +kernel
theorem dR_addMultiple_17 : decode cR_addMultiple 17 = .ok (.iadd, 1) := by decide +kernel
theorem dR_addMultiple_18 : decode cR_addMultiple 18 = .ok (.invokevirtual 33, 3) := by decide +kernel
theorem dR_addMultiple_21 : decode cR_addMultiple 21 = .ok (.iload_n 2, 1) := by decide +kernel
theorem dR_addMultiple_22 : decode cR_addMultiple 22 = .ok (.aload_n 1, 1) := by decide +kernel
theorem dR_addMultiple_23 : decode cR_addMultiple 23 = .ok (.iload 5, 2) := by decide +kernel
theorem dR_addMultiple_25 : decode cR_addMultiple 25 = .ok (.invokevirtual 33, 3) := by decide +kernel
theorem dR_addMultiple_28 : decode cR_addMultiple 28 = .ok (.imul, 1) := by decide +kernel
theorem dR_addMultiple_29 : decode cR_addMultiple 29 = .ok (.iadd, 1) := by decide +kernel
theorem dR_addMultiple_30 : decode cR_addMultiple 30 = .ok (.iload 4, 2) := by decide +kernel
theorem dR_addMultiple_32 : decode cR_addMultiple 32 = .ok (.iadd, 1) := by decide +kernel
theorem dR_addMultiple_33 : decode cR_addMultiple 33 = .ok (.istore 6, 2) := by decide +kernel
theorem dR_addMultiple_35 : decode cR_addMultiple 35 = .ok (.iload 6, 2) := by decide +kernel
theorem dR_addMultiple_37 : decode cR_addMultiple 37 = .ok (.bipush 10, 2) := by decide +kernel
theorem dR_addMultiple_39 : decode cR_addMultiple 39 = .ok (.idiv, 1) := by decide +kernel
theorem dR_addMultiple_40 : decode cR_addMultiple 40 = .ok (.istore 4, 2) := by decide +kernel
theorem dR_addMultiple_42 : decode cR_addMultiple 42 = .ok (.aload_n 0, 1) := by decide +kernel
theorem dR_addMultiple_43 : decode cR_addMultiple 43 = .ok (.iload_n 3, 1) := by decide +kernel
theorem dR_addMultiple_44 : decode cR_addMultiple 44 = .ok (.iload 5, 2) := by decide +kernel
theorem dR_addMultiple_46 : decode cR_addMultiple 46 = .ok (.iadd, 1) := by decide +kernel
theorem dR_addMultiple_47 : decode cR_addMultiple 47 = .ok (.iload 6, 2) := by decide +kernel
theorem dR_addMultiple_49 : decode cR_addMultiple 49 = .ok (.bipush 10, 2) := by decide +kernel
theorem dR_addMultiple_51 : decode cR_addMultiple 51 = .ok (.irem, 1) := by decide +kernel
theorem dR_addMultiple_52 : decode cR_addMultiple 52 = .ok (.invokevirtual 48, 3) := by decide +kernel
theorem dR_addMultiple_55 : decode cR_addMultiple 55 = .ok (.iinc 5 1, 3) := by decide +kernel
theorem dR_addMultiple_58 : decode cR_addMultiple 58 = .ok (.goto (-52), 3) := by decide +kernel
theorem dR_addMultiple_61 : decode cR_addMultiple 61 = .ok (.return_, 1) := by decide +kernel
theorem dR_divide_0 : decode cR_divide 0 = .ok (.aload_n 0, 1) := by decide +kernel
theorem dR_divide_1 : decode cR_divide 1 = .ok (.invokevirtual 37, 3) := by decide +kernel
theorem dR_divide_4 : decode cR_divide 4 = .ok (.aload_n 3, 1) := by decide +kernel
theorem dR_divide_5 : decode cR_divide 5 = .ok (.invokevirtual 37, 3) := by decide +kernel
theorem dR_divide_8 : decode cR_divide 8 = .ok (.bipush 30, 2) := by decide +kernel
theorem dR_divide_10 : decode cR_divide 10 = .ok (.istore 4, 2) := by decide +kernel
theorem dR_divide_12 : decode cR_divide 12 = .ok (.iload 4, 2) := by decide +kernel
theorem dR_divide_14 : decode cR_divide 14 = .ok (.ifCond .lt 30, 3) := by decide +kernel
theorem dR_divide_17 : decode cR_divide 17 = .ok (.aload_n 3, 1) := by decide +kernel
theorem dR_divide_18 : decode cR_divide 18 = .ok (.aload_n 1, 1) := by decide +kernel
theorem dR_divide_19 : decode cR_divide 19 = .ok (.iload 4, 2) := by decide +kernel
theorem dR_divide_21 : decode cR_divide 21 = .ok (.invokevirtual 33, 3) := by decide +kernel
theorem dR_divide_24 : decode cR_divide 24 = .ok (.invokevirtual 67, 3) := by decide +kernel
theorem dR_divide_27 : decode cR_divide 27 = .ok (.aload_n 0, 1) := by decide +kernel
theorem dR_divide_28 : decode cR_divide 28 = .ok (.iload 4, 2) := by decide +kernel
theorem dR_divide_30 : decode cR_divide 30 = .ok (.aload_n 3, 1) := by decide +kernel
theorem dR_divide_31 : decode cR_divide 31 = .ok (.aload_n 2, 1) := by decide +kernel
theorem dR_divide_32 : decode cR_divide 32 = .ok (.invokevirtual 71, 3) := by decide +kernel
theorem dR_divide_35 : decode cR_divide 35 = .ok (.invokevirtual 48, 3) := by decide +kernel
theorem dR_divide_38 : decode cR_divide 38 = .ok (.iinc 4 (-1), 3) := by decide +kernel
theorem dR_divide_41 : decode cR_divide 41 = .ok (.goto (-29), 3) := by decide +kernel
theorem dR_divide_44 : decode cR_divide 44 = .ok (.aload_n 0, 1) := by decide +kernel
theorem dR_divide_45 : decode cR_divide 45 = .ok (.aload_n 1, 1) := by decide +kernel
theorem dR_divide_46 : decode cR_divide 46 = .ok (.getfield 15, 3) := by decide +kernel
theorem dR_divide_49 : decode cR_divide 49 = .ok (.aload_n 2, 1) := by decide +kernel
theorem dR_divide_50 : decode cR_divide 50 = .ok (.getfield 15, 3) := by decide +kernel
theorem dR_divide_53 : decode cR_divide 53 = .ok (.if_icmp .eq 7, 3) := by decide +kernel
theorem dR_divide_56 : decode cR_divide 56 = .ok (.iconst 1, 1) := by decide +kernel
theorem dR_divide_57 : decode cR_divide 57 = .ok (.goto 4, 3) := by decide +kernel
theorem dR_divide_60 : decode cR_divide 60 = .ok (.iconst 0, 1) := by decide +kernel
theorem dR_divide_61 : decode cR_divide 61 = .ok (.putfield 15, 3) := by decide +kernel
theorem dR_divide_64 : decode cR_divide 64 = .ok (.return_, 1) := by decide +kernel
theorem dR_bringDown_0 : decode cR_bringDown 0 = .ok (.bipush 31, 2) := by decide +kernel
theorem dR_bringDown_2 : decode cR_bringDown 2 = .ok (.istore_n 2, 1) := by decide +kernel
theorem dR_bringDown_3 : decode cR_bringDown 3 = .ok (.iload_n 2, 1) := by decide +kernel
theorem dR_bringDown_4 : decode cR_bringDown 4 = .ok (.ifCond .le 21, 3) := by decide +kernel
theorem dR_bringDown_7 : decode cR_bringDown 7 = .ok (.aload_n 0, 1) := by decide +kernel
theorem dR_bringDown_8 : decode cR_bringDown 8 = .ok (.iload_n 2, 1) := by decide +kernel
theorem dR_bringDown_9 : decode cR_bringDown 9 = .ok (.aload_n 0, 1) := by decide +kernel
theorem dR_bringDown_10 : decode cR_bringDown 10 = .ok (.iload_n 2, 1) := by decide +kernel
theorem dR_bringDown_11 : decode cR_bringDown 11 = .ok (.iconst 1, 1) := by decide +kernel
theorem dR_bringDown_12 : decode cR_bringDown 12 = .ok (.isub, 1) := by decide +kernel
theorem dR_bringDown_13 : decode cR_bringDown 13 = .ok (.invokevirtual 33, 3) := by decide +kernel
theorem dR_bringDown_16 : decode cR_bringDown 16 = .ok (.invokevirtual 48, 3) := by decide +kernel
theorem dR_bringDown_19 : decode cR_bringDown 19 = .ok (.iinc 2 (-1), 3) := by decide +kernel
theorem dR_bringDown_22 : decode cR_bringDown 22 = .ok (.goto (-19), 3) := by decide +kernel
theorem dR_bringDown_25 : decode cR_bringDown 25 = .ok (.aload_n 0, 1) := by decide +kernel
theorem dR_bringDown_26 : decode cR_bringDown 26 = .ok (.iconst 0, 1) := by decide +kernel
theorem dR_bringDown_27 : decode cR_bringDown 27 = .ok (.iload_n 1, 1) := by decide +kernel
theorem dR_bringDown_28 : decode cR_bringDown 28 = .ok (.invokevirtual 48, 3) := by decide +kernel
theorem dR_bringDown_31 : decode cR_bringDown 31 = .ok (.return_, 1) := by decide +kernel
theorem dR_takeAway_0 : decode cR_takeAway 0 = .ok (.iconst 0, 1) := by decide +kernel
theorem dR_takeAway_1 : decode cR_takeAway 1 = .ok (.istore_n 2, 1) := by decide +kernel
theorem dR_takeAway_2 : decode cR_takeAway 2 = .ok (.iload_n 2, 1) := by decide +kernel
theorem dR_takeAway_3 : decode cR_takeAway 3 = .ok (.bipush 9, 2) := by decide +kernel
theorem dR_takeAway_5 : decode cR_takeAway 5 = .ok (.if_icmp .ge 23, 3) := by decide +kernel
theorem dR_takeAway_8 : decode cR_takeAway 8 = .ok (.aload_n 0, 1) := by decide +kernel
theorem dR_takeAway_9 : decode cR_takeAway 9 = .ok (.aload_n 1, 1) := by decide +kernel
theorem dR_takeAway_10 : decode cR_takeAway 10 = .ok (.invokevirtual 52, 3) := by decide +kernel
theorem dR_takeAway_13 : decode cR_takeAway 13 = .ok (.ifCond .lt 15, 3) := by decide +kernel
theorem dR_takeAway_16 : decode cR_takeAway 16 = .ok (.aload_n 0, 1) := by decide +kernel
theorem dR_takeAway_17 : decode cR_takeAway 17 = .ok (.aload_n 0, 1) := by decide +kernel
theorem dR_takeAway_18 : decode cR_takeAway 18 = .ok (.aload_n 1, 1) := by decide +kernel
theorem dR_takeAway_19 : decode cR_takeAway 19 = .ok (.invokevirtual 60, 3) := by decide +kernel
theorem dR_takeAway_22 : decode cR_takeAway 22 = .ok (.iinc 2 1, 3) := by decide +kernel
theorem dR_takeAway_25 : decode cR_takeAway 25 = .ok (.goto (-23), 3) := by decide +kernel
theorem dR_takeAway_28 : decode cR_takeAway 28 = .ok (.iload_n 2, 1) := by decide +kernel
theorem dR_takeAway_29 : decode cR_takeAway 29 = .ok (.ireturn, 1) := by decide +kernel
theorem dR_moveLeft_0 : decode cR_moveLeft 0 = .ok (.aload_n 0, 1) := by decide +kernel
theorem dR_moveLeft_1 : decode cR_moveLeft 1 = .ok (.invokevirtual 37, 3) := by decide +kernel
theorem dR_moveLeft_4 : decode cR_moveLeft 4 = .ok (.iconst 0, 1) := by decide +kernel
theorem dR_moveLeft_5 : decode cR_moveLeft 5 = .ok (.istore_n 3, 1) := by decide +kernel
theorem dR_moveLeft_6 : decode cR_moveLeft 6 = .ok (.iload_n 3, 1) := by decide +kernel
theorem dR_moveLeft_7 : decode cR_moveLeft 7 = .ok (.bipush 31, 2) := by decide +kernel
theorem dR_moveLeft_9 : decode cR_moveLeft 9 = .ok (.if_icmp .ge 21, 3) := by decide +kernel
theorem dR_moveLeft_12 : decode cR_moveLeft 12 = .ok (.aload_n 0, 1) := by decide +kernel
theorem dR_moveLeft_13 : decode cR_moveLeft 13 = .ok (.iload_n 3, 1) := by decide +kernel
theorem dR_moveLeft_14 : decode cR_moveLeft 14 = .ok (.iload_n 2, 1) := by decide +kernel
theorem dR_moveLeft_15 : decode cR_moveLeft 15 = .ok (.iadd, 1) := by decide +kernel
theorem dR_moveLeft_16 : decode cR_moveLeft 16 = .ok (.aload_n 1, 1) := by decide +kernel
theorem dR_moveLeft_17 : decode cR_moveLeft 17 = .ok (.iload_n 3, 1) := by decide +kernel
theorem dR_moveLeft_18 : decode cR_moveLeft 18 = .ok (.invokevirtual 33, 3) := by decide +kernel
theorem dR_moveLeft_21 : decode cR_moveLeft 21 = .ok (.invokevirtual 48, 3) := by decide +kernel
theorem dR_moveLeft_24 : decode cR_moveLeft 24 = .ok (.iinc 3 1, 3) := by decide +kernel
theorem dR_moveLeft_27 : decode cR_moveLeft 27 = .ok (.goto (-21), 3) := by decide +kernel
theorem dR_moveLeft_30 : decode cR_moveLeft 30 = .ok (.aload_n 0, 1) := by decide +kernel
theorem dR_moveLeft_31 : decode cR_moveLeft 31 = .ok (.aload_n 1, 1) := by decide +kernel
theorem dR_moveLeft_32 : decode cR_moveLeft 32 = .ok (.getfield 15, 3) := by decide +kernel
theorem dR_moveLeft_35 : decode cR_moveLeft 35 = .ok (.putfield 15, 3) := by decide +kernel
theorem dR_moveLeft_38 : decode cR_moveLeft 38 = .ok (.return_, 1) := by decide +kernel
theorem dJM_abs_0 : decode cJM_abs 0 = .ok (.lload_n 0, 1) := by decide +kernel
theorem dJM_abs_1 : decode cJM_abs 1 = .ok (.lconst 0, 1) := by decide +kernel
theorem dJM_abs_2 : decode cJM_abs 2 = .ok (.lcmp, 1) := by decide +kernel
theorem dJM_abs_3 : decode cJM_abs 3 = .ok (.ifCond .ge 8, 3) := by decide +kernel
theorem dJM_abs_6 : decode cJM_abs 6 = .ok (.lload_n 0, 1) := by decide +kernel
theorem dJM_abs_7 : decode cJM_abs 7 = .ok (.lneg, 1) := by decide +kernel
theorem dJM_abs_8 : decode cJM_abs 8 = .ok (.goto 4, 3) := by decide +kernel
theorem dJM_abs_11 : decode cJM_abs 11 = .ok (.lload_n 0, 1) := by decide +kernel
theorem dJM_abs_12 : decode cJM_abs 12 = .ok (.lreturn, 1) := by decide +kernel
theorem dJA_fill_0 : decode cJA_fill 0 = .ok (.iconst 0, 1) := by decide +kernel
theorem dJA_fill_1 : decode cJA_fill 1 = .ok (.istore_n 2, 1) := by decide +kernel
theorem dJA_fill_2 : decode cJA_fill 2 = .ok (.aload_n 0, 1) := by decide +kernel
theorem dJA_fill_3 : decode cJA_fill 3 = .ok (.arraylength, 1) := by decide +kernel
theorem dJA_fill_4 : decode cJA_fill 4 = .ok (.istore_n 3, 1) := by decide +kernel
theorem dJA_fill_5 : decode cJA_fill 5 = .ok (.iload_n 2, 1) := by decide +kernel
theorem dJA_fill_6 : decode cJA_fill 6 = .ok (.iload_n 3, 1) := by decide +kernel
theorem dJA_fill_7 : decode cJA_fill 7 = .ok (.if_icmp .ge 13, 3) := by decide +kernel
theorem dJA_fill_10 : decode cJA_fill 10 = .ok (.aload_n 0, 1) := by decide +kernel
theorem dJA_fill_11 : decode cJA_fill 11 = .ok (.iload_n 2, 1) := by decide +kernel
theorem dJA_fill_12 : decode cJA_fill 12 = .ok (.iload_n 1, 1) := by decide +kernel
theorem dJA_fill_13 : decode cJA_fill 13 = .ok (.iastore, 1) := by decide +kernel
theorem dJA_fill_14 : decode cJA_fill 14 = .ok (.iinc 2 1, 3) := by decide +kernel
theorem dJA_fill_17 : decode cJA_fill 17 = .ok (.goto (-12), 3) := by decide +kernel
theorem dJA_fill_20 : decode cJA_fill 20 = .ok (.return_, 1) := by decide +kernel
