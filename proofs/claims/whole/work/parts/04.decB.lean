theorem dD_init_0 : decode cD_init 0 = .ok (.aload_n 0, 1) := by decide +kernel
theorem dD_init_1 : decode cD_init 1 = .ok (.invokespecial 3, 3) := by decide +kernel
theorem dD_init_4 : decode cD_init 4 = .ok (.aload_n 0, 1) := by decide +kernel
theorem dD_init_5 : decode cD_init 5 = .ok (.sipush 256, 3) := by decide +kernel
theorem dD_init_8 : decode cD_init 8 = .ok (.newarray .int, 2) := by decide +kernel
theorem dD_init_10 : decode cD_init 10 = .ok (.putfield 9, 3) := by decide +kernel
theorem dD_init_13 : decode cD_init 13 = .ok (.aload_n 0, 1) := by decide +kernel
theorem dD_init_14 : decode cD_init 14 = .ok (.new 13, 3) := by decide +kernel
theorem dD_init_17 : decode cD_init 17 = .ok (.dup, 1) := by decide +kernel
theorem dD_init_18 : decode cD_init 18 = .ok (.invokespecial 15, 3) := by decide +kernel
theorem dD_init_21 : decode cD_init 21 = .ok (.putfield 16, 3) := by decide +kernel
theorem dD_init_24 : decode cD_init 24 = .ok (.aload_n 0, 1) := by decide +kernel
theorem dD_init_25 : decode cD_init 25 = .ok (.new 13, 3) := by decide +kernel
theorem dD_init_28 : decode cD_init 28 = .ok (.dup, 1) := by decide +kernel
theorem dD_init_29 : decode cD_init 29 = .ok (.invokespecial 15, 3) := by decide +kernel
theorem dD_init_32 : decode cD_init 32 = .ok (.putfield 20, 3) := by decide +kernel
theorem dD_init_35 : decode cD_init 35 = .ok (.aload_n 0, 1) := by decide +kernel
theorem dD_init_36 : decode cD_init 36 = .ok (.new 13, 3) := by decide +kernel
theorem dD_init_39 : decode cD_init 39 = .ok (.dup, 1) := by decide +kernel
theorem dD_init_40 : decode cD_init 40 = .ok (.invokespecial 15, 3) := by decide +kernel
theorem dD_init_43 : decode cD_init 43 = .ok (.putfield 23, 3) := by decide +kernel
theorem dD_init_46 : decode cD_init 46 = .ok (.aload_n 0, 1) := by decide +kernel
theorem dD_init_47 : decode cD_init 47 = .ok (.new 13, 3) := by decide +kernel
theorem dD_init_50 : decode cD_init 50 = .ok (.dup, 1) := by decide +kernel
theorem dD_init_51 : decode cD_init 51 = .ok (.invokespecial 15, 3) := by decide +kernel
theorem dD_init_54 : decode cD_init 54 = .ok (.putfield 26, 3) := by decide +kernel
theorem dD_init_57 : decode cD_init 57 = .ok (.aload_n 0, 1) := by decide +kernel
theorem dD_init_58 : decode cD_init 58 = .ok (.new 29, 3) := by decide +kernel
theorem dD_init_61 : decode cD_init 61 = .ok (.dup, 1) := by decide +kernel
theorem dD_init_62 : decode cD_init 62 = .ok (.invokespecial 31, 3) := by decide +kernel
theorem dD_init_65 : decode cD_init 65 = .ok (.putfield 32, 3) := by decide +kernel
theorem dD_init_68 : decode cD_init 68 = .ok (.aload_n 0, 1) := by decide +kernel
theorem dD_init_69 : decode cD_init 69 = .ok (.iconst 0, 1) := by decide +kernel
theorem dD_init_70 : decode cD_init 70 = .ok (.putfield 36, 3) := by decide +kernel
theorem dD_init_73 : decode cD_init 73 = .ok (.return_, 1) := by decide +kernel
theorem dD_put_0 : decode cD_put 0 = .ok (.iload_n 1, 1) := by decide +kernel
theorem dD_put_1 : decode cD_put 1 = .ok (.ifCond .lt 10, 3) := by decide +kernel
theorem dD_put_4 : decode cD_put 4 = .ok (.iload_n 1, 1) := by decide +kernel
theorem dD_put_5 : decode cD_put 5 = .ok (.sipush 256, 3) := by decide +kernel
theorem dD_put_8 : decode cD_put 8 = .ok (.if_icmp .lt 5, 3) := by decide +kernel
theorem dD_put_11 : decode cD_put 11 = .ok (.iconst 0, 1) := by decide +kernel
theorem dD_put_12 : decode cD_put 12 = .ok (.ireturn, 1) := by decide +kernel
theorem dD_put_13 : decode cD_put 13 = .ok (.aload_n 0, 1) := by decide +kernel
theorem dD_put_14 : decode cD_put 14 = .ok (.getfield 9, 3) := by decide +kernel
theorem dD_put_17 : decode cD_put 17 = .ok (.iload_n 1, 1) := by decide +kernel
theorem dD_put_18 : decode cD_put 18 = .ok (.iload_n 2, 1) := by decide +kernel
theorem dD_put_19 : decode cD_put 19 = .ok (.sipush 255, 3) := by decide +kernel
theorem dD_put_22 : decode cD_put 22 = .ok (.iand, 1) := by decide +kernel
theorem dD_put_23 : decode cD_put 23 = .ok (.iastore, 1) := by decide +kernel
theorem dD_put_24 : decode cD_put 24 = .ok (.iconst 1, 1) := by decide +kernel
theorem dD_put_25 : decode cD_put 25 = .ok (.ireturn, 1) := by decide +kernel
theorem dD_byteOf_0 : decode cD_byteOf 0 = .ok (.iload_n 1, 1) := by decide +kernel
theorem dD_byteOf_1 : decode cD_byteOf 1 = .ok (.ifCond .lt 10, 3) := by decide +kernel
theorem dD_byteOf_4 : decode cD_byteOf 4 = .ok (.iload_n 1, 1) := by decide +kernel
theorem dD_byteOf_5 : decode cD_byteOf 5 = .ok (.sipush 256, 3) := by decide +kernel
theorem dD_byteOf_8 : decode cD_byteOf 8 = .ok (.if_icmp .lt 5, 3) := by decide +kernel
theorem dD_byteOf_11 : decode cD_byteOf 11 = .ok (.iconst (-1), 1) := by decide +kernel
theorem dD_byteOf_12 : decode cD_byteOf 12 = .ok (.ireturn, 1) := by decide +kernel
theorem dD_byteOf_13 : decode cD_byteOf 13 = .ok (.aload_n 0, 1) := by decide +kernel
theorem dD_byteOf_14 : decode cD_byteOf 14 = .ok (.getfield 9, 3) := by decide +kernel
theorem dD_byteOf_17 : decode cD_byteOf 17 = .ok (.iload_n 1, 1) := by decide +kernel
theorem dD_byteOf_18 : decode cD_byteOf 18 = .ok (.iaload, 1) := by decide +kernel
theorem dD_byteOf_19 : decode cD_byteOf 19 = .ok (.ireturn, 1) := by decide +kernel
theorem dD_sum_0 : decode cD_sum 0 = .ok (.aload_n 0, 1) := by decide +kernel
theorem dD_sum_1 : decode cD_sum 1 = .ok (.iload_n 1, 1) := by decide +kernel
theorem dD_sum_2 : decode cD_sum 2 = .ok (.iload_n 2, 1) := by decide +kernel
theorem dD_sum_3 : decode cD_sum 3 = .ok (.iload_n 3, 1) := by decide +kernel
theorem dD_sum_4 : decode cD_sum 4 = .ok (.iload 4, 2) := by decide +kernel
theorem dD_sum_6 : decode cD_sum 6 = .ok (.iload 5, 2) := by decide +kernel
theorem dD_sum_8 : decode cD_sum 8 = .ok (.iload 6, 2) := by decide +kernel
theorem dD_sum_10 : decode cD_sum 10 = .ok (.invokevirtual 40, 3) := by decide +kernel
theorem dD_sum_13 : decode cD_sum 13 = .ok (.istore 7, 2) := by decide +kernel
theorem dD_sum_15 : decode cD_sum 15 = .ok (.iload 7, 2) := by decide +kernel
theorem dD_sum_17 : decode cD_sum 17 = .ok (.ifCond .eq 6, 3) := by decide +kernel
theorem dD_sum_20 : decode cD_sum 20 = .ok (.iload 7, 2) := by decide +kernel
theorem dD_sum_22 : decode cD_sum 22 = .ok (.ireturn, 1) := by decide +kernel
theorem dD_sum_23 : decode cD_sum 23 = .ok (.aload_n 0, 1) := by decide +kernel
theorem dD_sum_24 : decode cD_sum 24 = .ok (.getfield 26, 3) := by decide +kernel
theorem dD_sum_27 : decode cD_sum 27 = .ok (.aload_n 0, 1) := by decide +kernel
theorem dD_sum_28 : decode cD_sum 28 = .ok (.getfield 20, 3) := by decide +kernel
theorem dD_sum_31 : decode cD_sum 31 = .ok (.aload_n 0, 1) := by decide +kernel
theorem dD_sum_32 : decode cD_sum 32 = .ok (.getfield 16, 3) := by decide +kernel
theorem dD_sum_35 : decode cD_sum 35 = .ok (.invokevirtual 44, 3) := by decide +kernel
theorem dD_sum_38 : decode cD_sum 38 = .ok (.aload_n 0, 1) := by decide +kernel
theorem dD_sum_39 : decode cD_sum 39 = .ok (.aload_n 0, 1) := by decide +kernel
theorem dD_sum_40 : decode cD_sum 40 = .ok (.getfield 26, 3) := by decide +kernel
theorem dD_sum_43 : decode cD_sum 43 = .ok (.iload 5, 2) := by decide +kernel
theorem dD_sum_45 : decode cD_sum 45 = .ok (.iload 6, 2) := by decide +kernel
theorem dD_sum_47 : decode cD_sum 47 = .ok (.invokevirtual 48, 3) := by decide +kernel
theorem dD_sum_50 : decode cD_sum 50 = .ok (.ireturn, 1) := by decide +kernel
theorem dD_less_0 : decode cD_less 0 = .ok (.aload_n 0, 1) := by decide +kernel
theorem dD_less_1 : decode cD_less 1 = .ok (.iload_n 1, 1) := by decide +kernel
theorem dD_less_2 : decode cD_less 2 = .ok (.iload_n 2, 1) := by decide +kernel
theorem dD_less_3 : decode cD_less 3 = .ok (.iload_n 3, 1) := by decide +kernel
theorem dD_less_4 : decode cD_less 4 = .ok (.iload 4, 2) := by decide +kernel
theorem dD_less_6 : decode cD_less 6 = .ok (.iload 5, 2) := by decide +kernel
theorem dD_less_8 : decode cD_less 8 = .ok (.iload 6, 2) := by decide +kernel
theorem dD_less_10 : decode cD_less 10 = .ok (.invokevirtual 40, 3) := by decide +kernel
theorem dD_less_13 : decode cD_less 13 = .ok (.istore 7, 2) := by decide +kernel
theorem dD_less_15 : decode cD_less 15 = .ok (.iload 7, 2) := by decide +kernel
theorem dD_less_17 : decode cD_less 17 = .ok (.ifCond .eq 6, 3) := by decide +kernel
theorem dD_less_20 : decode cD_less 20 = .ok (.iload 7, 2) := by decide +kernel
theorem dD_less_22 : decode cD_less 22 = .ok (.ireturn, 1) := by decide +kernel
theorem dD_less_23 : decode cD_less 23 = .ok (.aload_n 0, 1) := by decide +kernel
theorem dD_less_24 : decode cD_less 24 = .ok (.getfield 16, 3) := by decide +kernel
theorem dD_less_27 : decode cD_less 27 = .ok (.aload_n 0, 1) := by decide +kernel
theorem dD_less_28 : decode cD_less 28 = .ok (.getfield 16, 3) := by decide +kernel
theorem dD_less_31 : decode cD_less 31 = .ok (.getfield 52, 3) := by decide +kernel
theorem dD_less_34 : decode cD_less 34 = .ok (.ifCond .ne 7, 3) := by decide +kernel
theorem dD_less_37 : decode cD_less 37 = .ok (.iconst 1, 1) := by decide +kernel
theorem dD_less_38 : decode cD_less 38 = .ok (.goto 4, 3) := by decide +kernel
theorem dD_less_41 : decode cD_less 41 = .ok (.iconst 0, 1) := by decide +kernel
theorem dD_less_42 : decode cD_less 42 = .ok (.putfield 52, 3) := by decide +kernel
theorem dD_less_45 : decode cD_less 45 = .ok (.aload_n 0, 1) := by decide +kernel
theorem dD_less_46 : decode cD_less 46 = .ok (.getfield 26, 3) := by decide +kernel
theorem dD_less_49 : decode cD_less 49 = .ok (.aload_n 0, 1) := by decide +kernel
theorem dD_less_50 : decode cD_less 50 = .ok (.getfield 20, 3) := by decide +kernel
theorem dD_less_53 : decode cD_less 53 = .ok (.aload_n 0, 1) := by decide +kernel
theorem dD_less_54 : decode cD_less 54 = .ok (.getfield 16, 3) := by decide +kernel
theorem dD_less_57 : decode cD_less 57 = .ok (.invokevirtual 44, 3) := by decide +kernel
theorem dD_less_60 : decode cD_less 60 = .ok (.aload_n 0, 1) := by decide +kernel
theorem dD_less_61 : decode cD_less 61 = .ok (.aload_n 0, 1) := by decide +kernel
theorem dD_less_62 : decode cD_less 62 = .ok (.getfield 26, 3) := by decide +kernel
theorem dD_less_65 : decode cD_less 65 = .ok (.iload 5, 2) := by decide +kernel
theorem dD_less_67 : decode cD_less 67 = .ok (.iload 6, 2) := by decide +kernel
theorem dD_less_69 : decode cD_less 69 = .ok (.invokevirtual 48, 3) := by decide +kernel
theorem dD_less_72 : decode cD_less 72 = .ok (.ireturn, 1) := by decide +kernel
theorem dD_product_0 : decode cD_product 0 = .ok (.aload_n 0, 1) := by decide +kernel
theorem dD_product_1 : decode cD_product 1 = .ok (.iload_n 1, 1) := by decide +kernel
theorem dD_product_2 : decode cD_product 2 = .ok (.iload_n 2, 1) := by decide +kernel
theorem dD_product_3 : decode cD_product 3 = .ok (.iload_n 3, 1) := by decide +kernel
theorem dD_product_4 : decode cD_product 4 = .ok (.iload 4, 2) := by decide +kernel
theorem dD_product_6 : decode cD_product 6 = .ok (.iload 5, 2) := by decide +kernel
theorem dD_product_8 : decode cD_product 8 = .ok (.iload 6, 2) := by decide +kernel
theorem dD_product_10 : decode cD_product 10 = .ok (.invokevirtual 40, 3) := by decide +kernel
theorem dD_product_13 : decode cD_product 13 = .ok (.istore 7, 2) := by decide +kernel
theorem dD_product_15 : decode cD_product 15 = .ok (.iload 7, 2) := by decide +kernel
theorem dD_product_17 : decode cD_product 17 = .ok (.ifCond .eq 6, 3) := by decide +kernel
theorem dD_product_20 : decode cD_product 20 = .ok (.iload 7, 2) := by decide +kernel
theorem dD_product_22 : decode cD_product 22 = .ok (.ireturn, 1) := by decide +kernel
theorem dD_product_23 : decode cD_product 23 = .ok (.aload_n 0, 1) := by decide +kernel
theorem dD_product_24 : decode cD_product 24 = .ok (.getfield 26, 3) := by decide +kernel
theorem dD_product_27 : decode cD_product 27 = .ok (.aload_n 0, 1) := by decide +kernel
theorem dD_product_28 : decode cD_product 28 = .ok (.getfield 16, 3) := by decide +kernel
theorem dD_product_31 : decode cD_product 31 = .ok (.aload_n 0, 1) := by decide +kernel
theorem dD_product_32 : decode cD_product 32 = .ok (.getfield 20, 3) := by decide +kernel
theorem dD_product_35 : decode cD_product 35 = .ok (.invokevirtual 55, 3) := by decide +kernel
theorem dD_product_38 : decode cD_product 38 = .ok (.aload_n 0, 1) := by decide +kernel
theorem dD_product_39 : decode cD_product 39 = .ok (.aload_n 0, 1) := by decide +kernel
theorem dD_product_40 : decode cD_product 40 = .ok (.getfield 26, 3) := by decide +kernel
theorem dD_product_43 : decode cD_product 43 = .ok (.iload 5, 2) := by decide +kernel
theorem dD_product_45 : decode cD_product 45 = .ok (.iload 6, 2) := by decide +kernel
theorem dD_product_47 : decode cD_product 47 = .ok (.invokevirtual 48, 3) := by decide +kernel
theorem dD_product_50 : decode cD_product 50 = .ok (.ireturn, 1) := by decide +kernel
theorem dD_quotient_0 : decode cD_quotient 0 = .ok (.aload_n 0, 1) := by decide +kernel
theorem dD_quotient_1 : decode cD_quotient 1 = .ok (.iload_n 1, 1) := by decide +kernel
theorem dD_quotient_2 : decode cD_quotient 2 = .ok (.iload_n 2, 1) := by decide +kernel
theorem dD_quotient_3 : decode cD_quotient 3 = .ok (.iload_n 3, 1) := by decide +kernel
theorem dD_quotient_4 : decode cD_quotient 4 = .ok (.iload 4, 2) := by decide +kernel
theorem dD_quotient_6 : decode cD_quotient 6 = .ok (.iload 5, 2) := by decide +kernel
theorem dD_quotient_8 : decode cD_quotient 8 = .ok (.iload 6, 2) := by decide +kernel
theorem dD_quotient_10 : decode cD_quotient 10 = .ok (.invokevirtual 40, 3) := by decide +kernel
theorem dD_quotient_13 : decode cD_quotient 13 = .ok (.istore 7, 2) := by decide +kernel
theorem dD_quotient_15 : decode cD_quotient 15 = .ok (.iload 7, 2) := by decide +kernel
theorem dD_quotient_17 : decode cD_quotient 17 = .ok (.ifCond .eq 6, 3) := by decide +kernel
theorem dD_quotient_20 : decode cD_quotient 20 = .ok (.iload 7, 2) := by decide +kernel
theorem dD_quotient_22 : decode cD_quotient 22 = .ok (.ireturn, 1) := by decide +kernel
theorem dD_quotient_23 : decode cD_quotient 23 = .ok (.aload_n 0, 1) := by decide +kernel
theorem dD_quotient_24 : decode cD_quotient 24 = .ok (.getfield 16, 3) := by decide +kernel
theorem dD_quotient_27 : decode cD_quotient 27 = .ok (.invokevirtual 58, 3) := by decide +kernel
theorem dD_quotient_30 : decode cD_quotient 30 = .ok (.ifCond .eq 6, 3) := by decide +kernel
theorem dD_quotient_33 : decode cD_quotient 33 = .ok (.bipush (-3), 2) := by decide +kernel
theorem dD_quotient_35 : decode cD_quotient 35 = .ok (.ireturn, 1) := by decide +kernel
theorem dD_quotient_36 : decode cD_quotient 36 = .ok (.aload_n 0, 1) := by decide +kernel
theorem dD_quotient_37 : decode cD_quotient 37 = .ok (.getfield 26, 3) := by decide +kernel
theorem dD_quotient_40 : decode cD_quotient 40 = .ok (.aload_n 0, 1) := by decide +kernel
theorem dD_quotient_41 : decode cD_quotient 41 = .ok (.getfield 20, 3) := by decide +kernel
theorem dD_quotient_44 : decode cD_quotient 44 = .ok (.aload_n 0, 1) := by decide +kernel
theorem dD_quotient_45 : decode cD_quotient 45 = .ok (.getfield 16, 3) := by decide +kernel
theorem dD_quotient_48 : decode cD_quotient 48 = .ok (.aload_n 0, 1) := by decide +kernel
theorem dD_quotient_49 : decode cD_quotient 49 = .ok (.getfield 23, 3) := by decide +kernel
theorem dD_quotient_52 : decode cD_quotient 52 = .ok (.invokevirtual 62, 3) := by decide +kernel
theorem dD_quotient_55 : decode cD_quotient 55 = .ok (.aload_n 0, 1) := by decide +kernel
theorem dD_quotient_56 : decode cD_quotient 56 = .ok (.aload_n 0, 1) := by decide +kernel
theorem dD_quotient_57 : decode cD_quotient 57 = .ok (.getfield 26, 3) := by decide +kernel
theorem dD_quotient_60 : decode cD_quotient 60 = .ok (.iload 5, 2) := by decide +kernel
theorem dD_quotient_62 : decode cD_quotient 62 = .ok (.iload 6, 2) := by decide +kernel
theorem dD_quotient_64 : decode cD_quotient 64 = .ok (.invokevirtual 48, 3) := by decide +kernel
theorem dD_quotient_67 : decode cD_quotient 67 = .ok (.ireturn, 1) := by decide +kernel
theorem dD_shift_0 : decode cD_shift 0 = .ok (.iload_n 1, 1) := by decide +kernel
theorem dD_shift_1 : decode cD_shift 1 = .ok (.iload_n 2, 1) := by decide +kernel
theorem dD_shift_2 : decode cD_shift 2 = .ok (.invokestatic 66, 3) := by decide +kernel
theorem dD_shift_5 : decode cD_shift 5 = .ok (.ifCond .eq 13, 3) := by decide +kernel
theorem dD_shift_8 : decode cD_shift 8 = .ok (.iload 5, 2) := by decide +kernel
theorem dD_shift_10 : decode cD_shift 10 = .ok (.iload 6, 2) := by decide +kernel
theorem dD_shift_12 : decode cD_shift 12 = .ok (.invokestatic 66, 3) := by decide +kernel
theorem dD_shift_15 : decode cD_shift 15 = .ok (.ifCond .ne 5, 3) := by decide +kernel
theorem dD_shift_18 : decode cD_shift 18 = .ok (.iconst (-1), 1) := by decide +kernel
theorem dD_shift_19 : decode cD_shift 19 = .ok (.ireturn, 1) := by decide +kernel
theorem dD_shift_20 : decode cD_shift 20 = .ok (.iload_n 3, 1) := by decide +kernel
theorem dD_shift_21 : decode cD_shift 21 = .ok (.bipush (-99), 2) := by decide +kernel
theorem dD_shift_23 : decode cD_shift 23 = .ok (.if_icmp .lt 21, 3) := by decide +kernel
theorem dD_shift_26 : decode cD_shift 26 = .ok (.iload_n 3, 1) := by decide +kernel
theorem dD_shift_27 : decode cD_shift 27 = .ok (.bipush 99, 2) := by decide +kernel
theorem dD_shift_29 : decode cD_shift 29 = .ok (.if_icmp .gt 15, 3) := by decide +kernel
theorem dD_shift_32 : decode cD_shift 32 = .ok (.iload 4, 2) := by decide +kernel
theorem dD_shift_34 : decode cD_shift 34 = .ok (.ifCond .lt 10, 3) := by decide +kernel
theorem dD_shift_37 : decode cD_shift 37 = .ok (.iload 4, 2) := by decide +kernel
theorem dD_shift_39 : decode cD_shift 39 = .ok (.bipush 9, 2) := by decide +kernel
theorem dD_shift_41 : decode cD_shift 41 = .ok (.if_icmp .le 5, 3) := by decide +kernel
theorem dD_shift_44 : decode cD_shift 44 = .ok (.iconst (-1), 1) := by decide +kernel
theorem dD_shift_45 : decode cD_shift 45 = .ok (.ireturn, 1) := by decide +kernel
theorem dD_shift_46 : decode cD_shift 46 = .ok (.aload_n 0, 1) := by decide +kernel
theorem dD_shift_47 : decode cD_shift 47 = .ok (.aload_n 0, 1) := by decide +kernel
theorem dD_shift_48 : decode cD_shift 48 = .ok (.getfield 16, 3) := by decide +kernel
theorem dD_shift_51 : decode cD_shift 51 = .ok (.iload_n 1, 1) := by decide +kernel
theorem dD_shift_52 : decode cD_shift 52 = .ok (.iload_n 2, 1) := by decide +kernel
theorem dD_shift_53 : decode cD_shift 53 = .ok (.invokevirtual 70, 3) := by decide +kernel
theorem dD_shift_56 : decode cD_shift 56 = .ok (.ifCond .ne 6, 3) := by decide +kernel
theorem dD_shift_59 : decode cD_shift 59 = .ok (.bipush (-2), 2) := by decide +kernel
theorem dD_shift_61 : decode cD_shift 61 = .ok (.ireturn, 1) := by decide +kernel
theorem dD_shift_62 : decode cD_shift 62 = .ok (.aload_n 0, 1) := by decide +kernel
theorem dD_shift_63 : decode cD_shift 63 = .ok (.getfield 26, 3) := by decide +kernel
theorem dD_shift_66 : decode cD_shift 66 = .ok (.aload_n 0, 1) := by decide +kernel
theorem dD_shift_67 : decode cD_shift 67 = .ok (.getfield 16, 3) := by decide +kernel
theorem dD_shift_70 : decode cD_shift 70 = .ok (.iload_n 3, 1) := by decide +kernel
theorem dD_shift_71 : decode cD_shift 71 = .ok (.invokevirtual 74, 3) := by decide +kernel
theorem dD_shift_74 : decode cD_shift 74 = .ok (.iload_n 3, 1) := by decide +kernel
theorem dD_shift_75 : decode cD_shift 75 = .ok (.ifCond .ge 29, 3) := by decide +kernel
theorem dD_shift_78 : decode cD_shift 78 = .ok (.aload_n 0, 1) := by decide +kernel
theorem dD_shift_79 : decode cD_shift 79 = .ok (.getfield 16, 3) := by decide +kernel
theorem dD_shift_82 : decode cD_shift 82 = .ok (.iload_n 3, 1) := by decide +kernel
theorem dD_shift_83 : decode cD_shift 83 = .ok (.ineg, 1) := by decide +kernel
theorem dD_shift_84 : decode cD_shift 84 = .ok (.iconst 1, 1) := by decide +kernel
theorem dD_shift_85 : decode cD_shift 85 = .ok (.isub, 1) := by decide +kernel
theorem dD_shift_86 : decode cD_shift 86 = .ok (.invokevirtual 78, 3) := by decide +kernel
theorem dD_shift_89 : decode cD_shift 89 = .ok (.iload 4, 2) := by decide +kernel
theorem dD_shift_91 : decode cD_shift 91 = .ok (.iadd, 1) := by decide +kernel
theorem dD_shift_92 : decode cD_shift 92 = .ok (.bipush 9, 2) := by decide +kernel
theorem dD_shift_94 : decode cD_shift 94 = .ok (.if_icmp .le 10, 3) := by decide +kernel
theorem dD_shift_97 : decode cD_shift 97 = .ok (.aload_n 0, 1) := by decide +kernel
theorem dD_shift_98 : decode cD_shift 98 = .ok (.getfield 26, 3) := by decide +kernel
theorem dD_shift_101 : decode cD_shift 101 = .ok (.invokevirtual 82, 3) := by decide +kernel
theorem dD_shift_104 : decode cD_shift 104 = .ok (.aload_n 0, 1) := by decide +kernel
theorem dD_shift_105 : decode cD_shift 105 = .ok (.aload_n 0, 1) := by decide +kernel
theorem dD_shift_106 : decode cD_shift 106 = .ok (.getfield 26, 3) := by decide +kernel
theorem dD_shift_109 : decode cD_shift 109 = .ok (.iload 5, 2) := by decide +kernel
theorem dD_shift_111 : decode cD_shift 111 = .ok (.iload 6, 2) := by decide +kernel
theorem dD_shift_113 : decode cD_shift 113 = .ok (.invokevirtual 48, 3) := by decide +kernel
theorem dD_shift_116 : decode cD_shift 116 = .ok (.ireturn, 1) := by decide +kernel
theorem dD_compare_0 : decode cD_compare 0 = .ok (.iload_n 1, 1) := by decide +kernel
theorem dD_compare_1 : decode cD_compare 1 = .ok (.iload_n 2, 1) := by decide +kernel
theorem dD_compare_2 : decode cD_compare 2 = .ok (.invokestatic 66, 3) := by decide +kernel
theorem dD_compare_5 : decode cD_compare 5 = .ok (.ifCond .eq 12, 3) := by decide +kernel
theorem dD_compare_8 : decode cD_compare 8 = .ok (.iload_n 3, 1) := by decide +kernel
theorem dD_compare_9 : decode cD_compare 9 = .ok (.iload 4, 2) := by decide +kernel
theorem dD_compare_11 : decode cD_compare 11 = .ok (.invokestatic 66, 3) := by decide +kernel
theorem dD_compare_14 : decode cD_compare 14 = .ok (.ifCond .ne 5, 3) := by decide +kernel
theorem dD_compare_17 : decode cD_compare 17 = .ok (.iconst (-1), 1) := by decide +kernel
theorem dD_compare_18 : decode cD_compare 18 = .ok (.ireturn, 1) := by decide +kernel
theorem dD_compare_19 : decode cD_compare 19 = .ok (.aload_n 0, 1) := by decide +kernel
theorem dD_compare_20 : decode cD_compare 20 = .ok (.aload_n 0, 1) := by decide +kernel
theorem dD_compare_21 : decode cD_compare 21 = .ok (.getfield 16, 3) := by decide +kernel
theorem dD_compare_24 : decode cD_compare 24 = .ok (.iload_n 1, 1) := by decide +kernel
theorem dD_compare_25 : decode cD_compare 25 = .ok (.iload_n 2, 1) := by decide +kernel
theorem dD_compare_26 : decode cD_compare 26 = .ok (.invokevirtual 70, 3) := by decide +kernel
theorem dD_compare_29 : decode cD_compare 29 = .ok (.ifCond .eq 17, 3) := by decide +kernel
theorem dD_compare_32 : decode cD_compare 32 = .ok (.aload_n 0, 1) := by decide +kernel
theorem dD_compare_33 : decode cD_compare 33 = .ok (.aload_n 0, 1) := by decide +kernel
theorem dD_compare_34 : decode cD_compare 34 = .ok (.getfield 20, 3) := by decide +kernel
theorem dD_compare_37 : decode cD_compare 37 = .ok (.iload_n 3, 1) := by decide +kernel
theorem dD_compare_38 : decode cD_compare 38 = .ok (.iload 4, 2) := by decide +kernel
theorem dD_compare_40 : decode cD_compare 40 = .ok (.invokevirtual 70, 3) := by decide +kernel
theorem dD_compare_43 : decode cD_compare 43 = .ok (.ifCond .ne 6, 3) := by decide +kernel
theorem dD_compare_46 : decode cD_compare 46 = .ok (.bipush (-2), 2) := by decide +kernel
theorem dD_compare_48 : decode cD_compare 48 = .ok (.ireturn, 1) := by decide +kernel
theorem dD_compare_49 : decode cD_compare 49 = .ok (.aload_n 0, 1) := by decide +kernel
theorem dD_compare_50 : decode cD_compare 50 = .ok (.getfield 16, 3) := by decide +kernel
theorem dD_compare_53 : decode cD_compare 53 = .ok (.aload_n 0, 1) := by decide +kernel
theorem dD_compare_54 : decode cD_compare 54 = .ok (.getfield 20, 3) := by decide +kernel
theorem dD_compare_57 : decode cD_compare 57 = .ok (.invokevirtual 85, 3) := by decide +kernel
theorem dD_compare_60 : decode cD_compare 60 = .ok (.istore 5, 2) := by decide +kernel
theorem dD_compare_62 : decode cD_compare 62 = .ok (.iload 5, 2) := by decide +kernel
theorem dD_compare_64 : decode cD_compare 64 = .ok (.ifCond .ne 5, 3) := by decide +kernel
theorem dD_compare_67 : decode cD_compare 67 = .ok (.iconst 4, 1) := by decide +kernel
theorem dD_compare_68 : decode cD_compare 68 = .ok (.ireturn, 1) := by decide +kernel
theorem dD_compare_69 : decode cD_compare 69 = .ok (.iload 5, 2) := by decide +kernel
theorem dD_compare_71 : decode cD_compare 71 = .ok (.ifCond .ge 8, 3) := by decide +kernel
theorem dD_compare_74 : decode cD_compare 74 = .ok (.bipush 8, 2) := by decide +kernel
theorem dD_compare_76 : decode cD_compare 76 = .ok (.goto 4, 3) := by decide +kernel
theorem dD_compare_79 : decode cD_compare 79 = .ok (.iconst 0, 1) := by decide +kernel
theorem dD_compare_80 : decode cD_compare 80 = .ok (.ireturn, 1) := by decide +kernel
theorem dD_number_0 : decode cD_number 0 = .ok (.iload_n 2, 1) := by decide +kernel
theorem dD_number_1 : decode cD_number 1 = .ok (.iload_n 3, 1) := by decide +kernel
theorem dD_number_2 : decode cD_number 2 = .ok (.invokestatic 66, 3) := by decide +kernel
theorem dD_number_5 : decode cD_number 5 = .ok (.ifCond .ne 5, 3) := by decide +kernel
theorem dD_number_8 : decode cD_number 8 = .ok (.iconst (-1), 1) := by decide +kernel
theorem dD_number_9 : decode cD_number 9 = .ok (.ireturn, 1) := by decide +kernel
theorem dD_number_10 : decode cD_number 10 = .ok (.aload_n 0, 1) := by decide +kernel
theorem dD_number_11 : decode cD_number 11 = .ok (.getfield 26, 3) := by decide +kernel
theorem dD_number_14 : decode cD_number 14 = .ok (.iload_n 1, 1) := by decide +kernel
theorem dD_number_15 : decode cD_number 15 = .ok (.invokevirtual 89, 3) := by decide +kernel
theorem dD_number_18 : decode cD_number 18 = .ok (.aload_n 0, 1) := by decide +kernel
theorem dD_number_19 : decode cD_number 19 = .ok (.aload_n 0, 1) := by decide +kernel
theorem dD_number_20 : decode cD_number 20 = .ok (.getfield 26, 3) := by decide +kernel
theorem dD_number_23 : decode cD_number 23 = .ok (.iload_n 2, 1) := by decide +kernel
theorem dD_number_24 : decode cD_number 24 = .ok (.iload_n 3, 1) := by decide +kernel
theorem dD_number_25 : decode cD_number 25 = .ok (.invokevirtual 48, 3) := by decide +kernel
theorem dD_number_28 : decode cD_number 28 = .ok (.ireturn, 1) := by decide +kernel
theorem dD_value_0 : decode cD_value 0 = .ok (.iload_n 1, 1) := by decide +kernel
theorem dD_value_1 : decode cD_value 1 = .ok (.iload_n 2, 1) := by decide +kernel
theorem dD_value_2 : decode cD_value 2 = .ok (.invokestatic 66, 3) := by decide +kernel
theorem dD_value_5 : decode cD_value 5 = .ok (.ifCond .eq 16, 3) := by decide +kernel
theorem dD_value_8 : decode cD_value 8 = .ok (.aload_n 0, 1) := by decide +kernel
theorem dD_value_9 : decode cD_value 9 = .ok (.aload_n 0, 1) := by decide +kernel
theorem dD_value_10 : decode cD_value 10 = .ok (.getfield 16, 3) := by decide +kernel
theorem dD_value_13 : decode cD_value 13 = .ok (.iload_n 1, 1) := by decide +kernel
theorem dD_value_14 : decode cD_value 14 = .ok (.iload_n 2, 1) := by decide +kernel
theorem dD_value_15 : decode cD_value 15 = .ok (.invokevirtual 70, 3) := by decide +kernel
theorem dD_value_18 : decode cD_value 18 = .ok (.ifCond .ne 5, 3) := by decide +kernel
theorem dD_value_21 : decode cD_value 21 = .ok (.lconst 0, 1) := by decide +kernel
theorem dD_value_22 : decode cD_value 22 = .ok (.lreturn, 1) := by decide +kernel
theorem dD_value_23 : decode cD_value 23 = .ok (.aload_n 0, 1) := by decide +kernel
theorem dD_value_24 : decode cD_value 24 = .ok (.getfield 16, 3) := by decide +kernel
theorem dD_value_27 : decode cD_value 27 = .ok (.invokevirtual 93, 3) := by decide +kernel
theorem dD_value_30 : decode cD_value 30 = .ok (.lreturn, 1) := by decide +kernel
theorem dD_characters_0 : decode cD_characters 0 = .ok (.iload_n 1, 1) := by decide +kernel
theorem dD_characters_1 : decode cD_characters 1 = .ok (.iload_n 2, 1) := by decide +kernel
theorem dD_characters_2 : decode cD_characters 2 = .ok (.invokestatic 66, 3) := by decide +kernel
theorem dD_characters_5 : decode cD_characters 5 = .ok (.ifCond .eq 12, 3) := by decide +kernel
theorem dD_characters_8 : decode cD_characters 8 = .ok (.iload_n 3, 1) := by decide +kernel
theorem dD_characters_9 : decode cD_characters 9 = .ok (.iload 4, 2) := by decide +kernel
theorem dD_characters_11 : decode cD_characters 11 = .ok (.invokestatic 97, 3) := by decide +kernel
theorem dD_characters_14 : decode cD_characters 14 = .ok (.ifCond .ne 5, 3) := by decide +kernel
theorem dD_characters_17 : decode cD_characters 17 = .ok (.iconst (-1), 1) := by decide +kernel
theorem dD_characters_18 : decode cD_characters 18 = .ok (.ireturn, 1) := by decide +kernel
theorem dD_characters_19 : decode cD_characters 19 = .ok (.aload_n 0, 1) := by decide +kernel
theorem dD_characters_20 : decode cD_characters 20 = .ok (.aload_n 0, 1) := by decide +kernel
theorem dD_characters_21 : decode cD_characters 21 = .ok (.getfield 16, 3) := by decide +kernel
theorem dD_characters_24 : decode cD_characters 24 = .ok (.iload_n 1, 1) := by decide +kernel
theorem dD_characters_25 : decode cD_characters 25 = .ok (.iload_n 2, 1) := by decide +kernel
theorem dD_characters_26 : decode cD_characters 26 = .ok (.invokevirtual 70, 3) := by decide +kernel
theorem dD_characters_29 : decode cD_characters 29 = .ok (.ifCond .ne 6, 3) := by decide +kernel
theorem dD_characters_32 : decode cD_characters 32 = .ok (.bipush (-2), 2) := by decide +kernel
theorem dD_characters_34 : decode cD_characters 34 = .ok (.ireturn, 1) := by decide +kernel
theorem dD_characters_35 : decode cD_characters 35 = .ok (.aload_n 0, 1) := by decide +kernel
theorem dD_characters_36 : decode cD_characters 36 = .ok (.getfield 16, 3) := by decide +kernel
theorem dD_characters_39 : decode cD_characters 39 = .ok (.iload_n 3, 1) := by decide +kernel
theorem dD_characters_40 : decode cD_characters 40 = .ok (.invokevirtual 100, 3) := by decide +kernel
theorem dD_characters_43 : decode cD_characters 43 = .ok (.istore 5, 2) := by decide +kernel
theorem dD_characters_45 : decode cD_characters 45 = .ok (.aload_n 0, 1) := by decide +kernel
theorem dD_characters_46 : decode cD_characters 46 = .ok (.iload 4, 2) := by decide +kernel
theorem dD_characters_48 : decode cD_characters 48 = .ok (.iload 5, 2) := by decide +kernel
theorem dD_characters_50 : decode cD_characters 50 = .ok (.bipush 8, 2) := by decide +kernel
theorem dD_characters_52 : decode cD_characters 52 = .ok (.iand, 1) := by decide +kernel
theorem dD_characters_53 : decode cD_characters 53 = .ok (.ifCond .eq 8, 3) := by decide +kernel
theorem dD_characters_56 : decode cD_characters 56 = .ok (.bipush 45, 2) := by decide +kernel
theorem dD_characters_58 : decode cD_characters 58 = .ok (.goto 5, 3) := by decide +kernel
theorem dD_characters_61 : decode cD_characters 61 = .ok (.bipush 43, 2) := by decide +kernel
theorem dD_characters_63 : decode cD_characters 63 = .ok (.invokevirtual 103, 3) := by decide +kernel
theorem dD_characters_66 : decode cD_characters 66 = .ok (.pop, 1) := by decide +kernel
theorem dD_characters_67 : decode cD_characters 67 = .ok (.iconst 0, 1) := by decide +kernel
theorem dD_characters_68 : decode cD_characters 68 = .ok (.istore 6, 2) := by decide +kernel
theorem dD_characters_70 : decode cD_characters 70 = .ok (.iload 6, 2) := by decide +kernel
theorem dD_characters_72 : decode cD_characters 72 = .ok (.iload_n 3, 1) := by decide +kernel
theorem dD_characters_73 : decode cD_characters 73 = .ok (.if_icmp .ge 33, 3) := by decide +kernel
theorem dD_characters_76 : decode cD_characters 76 = .ok (.aload_n 0, 1) := by decide +kernel
theorem dD_characters_77 : decode cD_characters 77 = .ok (.iload 4, 2) := by decide +kernel
theorem dD_characters_79 : decode cD_characters 79 = .ok (.iload_n 3, 1) := by decide +kernel
theorem dD_characters_80 : decode cD_characters 80 = .ok (.iadd, 1) := by decide +kernel
theorem dD_characters_81 : decode cD_characters 81 = .ok (.iload 6, 2) := by decide +kernel
theorem dD_characters_83 : decode cD_characters 83 = .ok (.isub, 1) := by decide +kernel
theorem dD_characters_84 : decode cD_characters 84 = .ok (.bipush 48, 2) := by decide +kernel
theorem dD_characters_86 : decode cD_characters 86 = .ok (.aload_n 0, 1) := by decide +kernel
theorem dD_characters_87 : decode cD_characters 87 = .ok (.getfield 16, 3) := by decide +kernel
theorem dD_characters_90 : decode cD_characters 90 = .ok (.iload 6, 2) := by decide +kernel
theorem dD_characters_92 : decode cD_characters 92 = .ok (.invokevirtual 78, 3) := by decide +kernel
theorem dD_characters_95 : decode cD_characters 95 = .ok (.iadd, 1) := by decide +kernel
theorem dD_characters_96 : decode cD_characters 96 = .ok (.invokevirtual 103, 3) := by decide +kernel
theorem dD_characters_99 : decode cD_characters 99 = .ok (.pop, 1) := by decide +kernel
theorem dD_characters_100 : decode cD_characters 100 = .ok (.iinc 6 1, 3) := by decide +kernel
theorem dD_characters_103 : decode cD_characters 103 = .ok (.goto (-33), 3) := by decide +kernel
theorem dD_characters_106 : decode cD_characters 106 = .ok (.iload 5, 2) := by decide +kernel
theorem dD_characters_108 : decode cD_characters 108 = .ok (.ireturn, 1) := by decide +kernel
theorem dD_digits_0 : decode cD_digits 0 = .ok (.iload_n 1, 1) := by decide +kernel
theorem dD_digits_1 : decode cD_digits 1 = .ok (.iload_n 2, 1) := by decide +kernel
theorem dD_digits_2 : decode cD_digits 2 = .ok (.invokestatic 97, 3) := by decide +kernel
theorem dD_digits_5 : decode cD_digits 5 = .ok (.ifCond .eq 12, 3) := by decide +kernel
theorem dD_digits_8 : decode cD_digits 8 = .ok (.iload_n 3, 1) := by decide +kernel
theorem dD_digits_9 : decode cD_digits 9 = .ok (.iload 4, 2) := by decide +kernel
theorem dD_digits_11 : decode cD_digits 11 = .ok (.invokestatic 66, 3) := by decide +kernel
theorem dD_digits_14 : decode cD_digits 14 = .ok (.ifCond .ne 5, 3) := by decide +kernel
theorem dD_digits_17 : decode cD_digits 17 = .ok (.iconst (-1), 1) := by decide +kernel
theorem dD_digits_18 : decode cD_digits 18 = .ok (.ireturn, 1) := by decide +kernel
theorem dD_digits_19 : decode cD_digits 19 = .ok (.aload_n 0, 1) := by decide +kernel
theorem dD_digits_20 : decode cD_digits 20 = .ok (.aload_n 0, 1) := by decide +kernel
theorem dD_digits_21 : decode cD_digits 21 = .ok (.getfield 26, 3) := by decide +kernel
theorem dD_digits_24 : decode cD_digits 24 = .ok (.iload_n 1, 1) := by decide +kernel
theorem dD_digits_25 : decode cD_digits 25 = .ok (.iload_n 2, 1) := by decide +kernel
theorem dD_digits_26 : decode cD_digits 26 = .ok (.invokevirtual 106, 3) := by decide +kernel
theorem dD_digits_29 : decode cD_digits 29 = .ok (.ifCond .ne 6, 3) := by decide +kernel
theorem dD_digits_32 : decode cD_digits 32 = .ok (.bipush (-2), 2) := by decide +kernel
theorem dD_digits_34 : decode cD_digits 34 = .ok (.ireturn, 1) := by decide +kernel
theorem dD_digits_35 : decode cD_digits 35 = .ok (.aload_n 0, 1) := by decide +kernel
theorem dD_digits_36 : decode cD_digits 36 = .ok (.aload_n 0, 1) := by decide +kernel
theorem dD_digits_37 : decode cD_digits 37 = .ok (.getfield 26, 3) := by decide +kernel
theorem dD_digits_40 : decode cD_digits 40 = .ok (.iload_n 3, 1) := by decide +kernel
theorem dD_digits_41 : decode cD_digits 41 = .ok (.iload 4, 2) := by decide +kernel
theorem dD_digits_43 : decode cD_digits 43 = .ok (.invokevirtual 48, 3) := by decide +kernel
theorem dD_digits_46 : decode cD_digits 46 = .ok (.ireturn, 1) := by decide +kernel
theorem dD_edit_0 : decode cD_edit 0 = .ok (.iload_n 1, 1) := by decide +kernel
theorem dD_edit_1 : decode cD_edit 1 = .ok (.iload_n 2, 1) := by decide +kernel
theorem dD_edit_2 : decode cD_edit 2 = .ok (.invokestatic 66, 3) := by decide +kernel
theorem dD_edit_5 : decode cD_edit 5 = .ok (.ifCond .ne 5, 3) := by decide +kernel
theorem dD_edit_8 : decode cD_edit 8 = .ok (.iconst (-1), 1) := by decide +kernel
theorem dD_edit_9 : decode cD_edit 9 = .ok (.ireturn, 1) := by decide +kernel
theorem dD_edit_10 : decode cD_edit 10 = .ok (.aload_n 0, 1) := by decide +kernel
theorem dD_edit_11 : decode cD_edit 11 = .ok (.aload_n 0, 1) := by decide +kernel
theorem dD_edit_12 : decode cD_edit 12 = .ok (.getfield 16, 3) := by decide +kernel
theorem dD_edit_15 : decode cD_edit 15 = .ok (.iload_n 1, 1) := by decide +kernel
theorem dD_edit_16 : decode cD_edit 16 = .ok (.iload_n 2, 1) := by decide +kernel
theorem dD_edit_17 : decode cD_edit 17 = .ok (.invokevirtual 70, 3) := by decide +kernel
theorem dD_edit_20 : decode cD_edit 20 = .ok (.ifCond .ne 6, 3) := by decide +kernel
theorem dD_edit_23 : decode cD_edit 23 = .ok (.bipush (-2), 2) := by decide +kernel
theorem dD_edit_25 : decode cD_edit 25 = .ok (.ireturn, 1) := by decide +kernel
theorem dD_edit_26 : decode cD_edit 26 = .ok (.aload_n 0, 1) := by decide +kernel
theorem dD_edit_27 : decode cD_edit 27 = .ok (.getfield 32, 3) := by decide +kernel
theorem dD_edit_30 : decode cD_edit 30 = .ok (.aload_n 0, 1) := by decide +kernel
theorem dD_edit_31 : decode cD_edit 31 = .ok (.getfield 16, 3) := by decide +kernel
theorem dD_edit_34 : decode cD_edit 34 = .ok (.iload_n 1, 1) := by decide +kernel
theorem dD_edit_35 : decode cD_edit 35 = .ok (.invokevirtual 109, 3) := by decide +kernel
theorem dD_edit_38 : decode cD_edit 38 = .ok (.aload_n 0, 1) := by decide +kernel
theorem dD_edit_39 : decode cD_edit 39 = .ok (.iload_n 3, 1) := by decide +kernel
theorem dD_edit_40 : decode cD_edit 40 = .ok (.invokevirtual 112, 3) := by decide +kernel
theorem dD_edit_43 : decode cD_edit 43 = .ok (.ifCond .ne 6, 3) := by decide +kernel
theorem dD_edit_46 : decode cD_edit 46 = .ok (.bipush (-2), 2) := by decide +kernel
theorem dD_edit_48 : decode cD_edit 48 = .ok (.ireturn, 1) := by decide +kernel
theorem dD_edit_49 : decode cD_edit 49 = .ok (.iload 4, 2) := by decide +kernel
theorem dD_edit_51 : decode cD_edit 51 = .ok (.ifCond .lt 27, 3) := by decide +kernel
theorem dD_edit_54 : decode cD_edit 54 = .ok (.iload 4, 2) := by decide +kernel
theorem dD_edit_56 : decode cD_edit 56 = .ok (.sipush 256, 3) := by decide +kernel
theorem dD_edit_59 : decode cD_edit 59 = .ok (.if_icmp .gt 19, 3) := by decide +kernel
theorem dD_edit_62 : decode cD_edit 62 = .ok (.aload_n 0, 1) := by decide +kernel
theorem dD_edit_63 : decode cD_edit 63 = .ok (.getfield 32, 3) := by decide +kernel
theorem dD_edit_66 : decode cD_edit 66 = .ok (.getfield 116, 3) := by decide +kernel
theorem dD_edit_69 : decode cD_edit 69 = .ok (.sipush 256, 3) := by decide +kernel
theorem dD_edit_72 : decode cD_edit 72 = .ok (.iload 4, 2) := by decide +kernel
theorem dD_edit_74 : decode cD_edit 74 = .ok (.isub, 1) := by decide +kernel
theorem dD_edit_75 : decode cD_edit 75 = .ok (.if_icmp .le 5, 3) := by decide +kernel
theorem dD_edit_78 : decode cD_edit 78 = .ok (.iconst (-1), 1) := by decide +kernel
theorem dD_edit_79 : decode cD_edit 79 = .ok (.ireturn, 1) := by decide +kernel
theorem dD_edit_80 : decode cD_edit 80 = .ok (.iconst 0, 1) := by decide +kernel
theorem dD_edit_81 : decode cD_edit 81 = .ok (.istore 5, 2) := by decide +kernel
theorem dD_edit_83 : decode cD_edit 83 = .ok (.iload 5, 2) := by decide +kernel
theorem dD_edit_85 : decode cD_edit 85 = .ok (.aload_n 0, 1) := by decide +kernel
theorem dD_edit_86 : decode cD_edit 86 = .ok (.getfield 32, 3) := by decide +kernel
theorem dD_edit_89 : decode cD_edit 89 = .ok (.getfield 116, 3) := by decide +kernel
theorem dD_edit_92 : decode cD_edit 92 = .ok (.if_icmp .ge 28, 3) := by decide +kernel
theorem dD_edit_95 : decode cD_edit 95 = .ok (.aload_n 0, 1) := by decide +kernel
theorem dD_edit_96 : decode cD_edit 96 = .ok (.iload 4, 2) := by decide +kernel
theorem dD_edit_98 : decode cD_edit 98 = .ok (.iload 5, 2) := by decide +kernel
theorem dD_edit_100 : decode cD_edit 100 = .ok (.iadd, 1) := by decide +kernel
theorem dD_edit_101 : decode cD_edit 101 = .ok (.aload_n 0, 1) := by decide +kernel
theorem dD_edit_102 : decode cD_edit 102 = .ok (.getfield 32, 3) := by decide +kernel
theorem dD_edit_105 : decode cD_edit 105 = .ok (.iload 5, 2) := by decide +kernel
theorem dD_edit_107 : decode cD_edit 107 = .ok (.invokevirtual 120, 3) := by decide +kernel
theorem dD_edit_110 : decode cD_edit 110 = .ok (.invokevirtual 103, 3) := by decide +kernel
theorem dD_edit_113 : decode cD_edit 113 = .ok (.pop, 1) := by decide +kernel
theorem dD_edit_114 : decode cD_edit 114 = .ok (.iinc 5 1, 3) := by decide +kernel
theorem dD_edit_117 : decode cD_edit 117 = .ok (.goto (-34), 3) := by decide +kernel
theorem dD_edit_120 : decode cD_edit 120 = .ok (.aload_n 0, 1) := by decide +kernel
theorem dD_edit_121 : decode cD_edit 121 = .ok (.aload_n 0, 1) := by decide +kernel
theorem dD_edit_122 : decode cD_edit 122 = .ok (.getfield 32, 3) := by decide +kernel
theorem dD_edit_125 : decode cD_edit 125 = .ok (.getfield 123, 3) := by decide +kernel
theorem dD_edit_128 : decode cD_edit 128 = .ok (.putfield 36, 3) := by decide +kernel
theorem dD_edit_131 : decode cD_edit 131 = .ok (.aload_n 0, 1) := by decide +kernel
theorem dD_edit_132 : decode cD_edit 132 = .ok (.getfield 32, 3) := by decide +kernel
theorem dD_edit_135 : decode cD_edit 135 = .ok (.getfield 116, 3) := by decide +kernel
theorem dD_edit_138 : decode cD_edit 138 = .ok (.ireturn, 1) := by decide +kernel
theorem dD_significant_0 : decode cD_significant 0 = .ok (.aload_n 0, 1) := by decide +kernel
theorem dD_significant_1 : decode cD_significant 1 = .ok (.getfield 36, 3) := by decide +kernel
theorem dD_significant_4 : decode cD_significant 4 = .ok (.ireturn, 1) := by decide +kernel
theorem dD_decimalFits_0 : decode cD_decimalFits 0 = .ok (.iload_n 0, 1) := by decide +kernel
theorem dD_decimalFits_1 : decode cD_decimalFits 1 = .ok (.ifCond .lt 28, 3) := by decide +kernel
theorem dD_decimalFits_4 : decode cD_decimalFits 4 = .ok (.iload_n 0, 1) := by decide +kernel
theorem dD_decimalFits_5 : decode cD_decimalFits 5 = .ok (.bipush 31, 2) := by decide +kernel
theorem dD_decimalFits_7 : decode cD_decimalFits 7 = .ok (.if_icmp .gt 22, 3) := by decide +kernel
theorem dD_decimalFits_10 : decode cD_decimalFits 10 = .ok (.iload_n 1, 1) := by decide +kernel
theorem dD_decimalFits_11 : decode cD_decimalFits 11 = .ok (.ifCond .lt 18, 3) := by decide +kernel
theorem dD_decimalFits_14 : decode cD_decimalFits 14 = .ok (.iload_n 1, 1) := by decide +kernel
theorem dD_decimalFits_15 : decode cD_decimalFits 15 = .ok (.sipush 256, 3) := by decide +kernel
theorem dD_decimalFits_18 : decode cD_decimalFits 18 = .ok (.iload_n 0, 1) := by decide +kernel
theorem dD_decimalFits_19 : decode cD_decimalFits 19 = .ok (.iconst 2, 1) := by decide +kernel
theorem dD_decimalFits_20 : decode cD_decimalFits 20 = .ok (.idiv, 1) := by decide +kernel
theorem dD_decimalFits_21 : decode cD_decimalFits 21 = .ok (.isub, 1) := by decide +kernel
theorem dD_decimalFits_22 : decode cD_decimalFits 22 = .ok (.if_icmp .ge 7, 3) := by decide +kernel
theorem dD_decimalFits_25 : decode cD_decimalFits 25 = .ok (.iconst 1, 1) := by decide +kernel
theorem dD_decimalFits_26 : decode cD_decimalFits 26 = .ok (.goto 4, 3) := by decide +kernel
theorem dD_decimalFits_29 : decode cD_decimalFits 29 = .ok (.iconst 0, 1) := by decide +kernel
theorem dD_decimalFits_30 : decode cD_decimalFits 30 = .ok (.ireturn, 1) := by decide +kernel
theorem dD_charactersFit_0 : decode cD_charactersFit 0 = .ok (.iload_n 0, 1) := by decide +kernel
theorem dD_charactersFit_1 : decode cD_charactersFit 1 = .ok (.ifCond .lt 26, 3) := by decide +kernel
theorem dD_charactersFit_4 : decode cD_charactersFit 4 = .ok (.iload_n 0, 1) := by decide +kernel
theorem dD_charactersFit_5 : decode cD_charactersFit 5 = .ok (.bipush 31, 2) := by decide +kernel
theorem dD_charactersFit_7 : decode cD_charactersFit 7 = .ok (.if_icmp .gt 20, 3) := by decide +kernel
theorem dD_charactersFit_10 : decode cD_charactersFit 10 = .ok (.iload_n 1, 1) := by decide +kernel
theorem dD_charactersFit_11 : decode cD_charactersFit 11 = .ok (.ifCond .lt 16, 3) := by decide +kernel
theorem dD_charactersFit_14 : decode cD_charactersFit 14 = .ok (.iload_n 1, 1) := by decide +kernel
theorem dD_charactersFit_15 : decode cD_charactersFit 15 = .ok (.sipush 256, 3) := by decide +kernel
theorem dD_charactersFit_18 : decode cD_charactersFit 18 = .ok (.iload_n 0, 1) := by decide +kernel
theorem dD_charactersFit_19 : decode cD_charactersFit 19 = .ok (.isub, 1) := by decide +kernel
theorem dD_charactersFit_20 : decode cD_charactersFit 20 = .ok (.if_icmp .ge 7, 3) := by decide +kernel
theorem dD_charactersFit_23 : decode cD_charactersFit 23 = .ok (.iconst 1, 1) := by decide +kernel
theorem dD_charactersFit_24 : decode cD_charactersFit 24 = .ok (.goto 4, 3) := by decide +kernel
theorem dD_charactersFit_27 : decode cD_charactersFit 27 = .ok (.iconst 0, 1) := by decide +kernel
theorem dD_charactersFit_28 : decode cD_charactersFit 28 = .ok (.ireturn, 1) := by decide +kernel
theorem dD_readOperands_0 : decode cD_readOperands 0 = .ok (.iload_n 1, 1) := by decide +kernel
theorem dD_readOperands_1 : decode cD_readOperands 1 = .ok (.iload_n 2, 1) := by decide +kernel
theorem dD_readOperands_2 : decode cD_readOperands 2 = .ok (.invokestatic 66, 3) := by decide +kernel
theorem dD_readOperands_5 : decode cD_readOperands 5 = .ok (.ifCond .eq 22, 3) := by decide +kernel
theorem dD_readOperands_8 : decode cD_readOperands 8 = .ok (.iload_n 3, 1) := by decide +kernel
theorem dD_readOperands_9 : decode cD_readOperands 9 = .ok (.iload 4, 2) := by decide +kernel
theorem dD_readOperands_11 : decode cD_readOperands 11 = .ok (.invokestatic 66, 3) := by decide +kernel
theorem dD_readOperands_14 : decode cD_readOperands 14 = .ok (.ifCond .eq 13, 3) := by decide +kernel
theorem dD_readOperands_17 : decode cD_readOperands 17 = .ok (.iload 5, 2) := by decide +kernel
theorem dD_readOperands_19 : decode cD_readOperands 19 = .ok (.iload 6, 2) := by decide +kernel
theorem dD_readOperands_21 : decode cD_readOperands 21 = .ok (.invokestatic 66, 3) := by decide +kernel
theorem dD_readOperands_24 : decode cD_readOperands 24 = .ok (.ifCond .ne 5, 3) := by decide +kernel
theorem dD_readOperands_27 : decode cD_readOperands 27 = .ok (.iconst (-1), 1) := by decide +kernel
theorem dD_readOperands_28 : decode cD_readOperands 28 = .ok (.ireturn, 1) := by decide +kernel
theorem dD_readOperands_29 : decode cD_readOperands 29 = .ok (.aload_n 0, 1) := by decide +kernel
theorem dD_readOperands_30 : decode cD_readOperands 30 = .ok (.aload_n 0, 1) := by decide +kernel
theorem dD_readOperands_31 : decode cD_readOperands 31 = .ok (.getfield 16, 3) := by decide +kernel
theorem dD_readOperands_34 : decode cD_readOperands 34 = .ok (.iload_n 1, 1) := by decide +kernel
theorem dD_readOperands_35 : decode cD_readOperands 35 = .ok (.iload_n 2, 1) := by decide +kernel
theorem dD_readOperands_36 : decode cD_readOperands 36 = .ok (.invokevirtual 70, 3) := by decide +kernel
theorem dD_readOperands_39 : decode cD_readOperands 39 = .ok (.ifCond .eq 17, 3) := by decide +kernel
theorem dD_readOperands_42 : decode cD_readOperands 42 = .ok (.aload_n 0, 1) := by decide +kernel
theorem dD_readOperands_43 : decode cD_readOperands 43 = .ok (.aload_n 0, 1) := by decide +kernel
theorem dD_readOperands_44 : decode cD_readOperands 44 = .ok (.getfield 20, 3) := by decide +kernel
theorem dD_readOperands_47 : decode cD_readOperands 47 = .ok (.iload_n 3, 1) := by decide +kernel
theorem dD_readOperands_48 : decode cD_readOperands 48 = .ok (.iload 4, 2) := by decide +kernel
theorem dD_readOperands_50 : decode cD_readOperands 50 = .ok (.invokevirtual 70, 3) := by decide +kernel
theorem dD_readOperands_53 : decode cD_readOperands 53 = .ok (.ifCond .ne 6, 3) := by decide +kernel
theorem dD_readOperands_56 : decode cD_readOperands 56 = .ok (.bipush (-2), 2) := by decide +kernel
theorem dD_readOperands_58 : decode cD_readOperands 58 = .ok (.ireturn, 1) := by decide +kernel
theorem dD_readOperands_59 : decode cD_readOperands 59 = .ok (.iconst 0, 1) := by decide +kernel
theorem dD_readOperands_60 : decode cD_readOperands 60 = .ok (.ireturn, 1) := by decide +kernel
theorem dD_halfFromEnd_0 : decode cD_halfFromEnd 0 = .ok (.aload_n 0, 1) := by decide +kernel
theorem dD_halfFromEnd_1 : decode cD_halfFromEnd 1 = .ok (.iload_n 2, 1) := by decide +kernel
theorem dD_halfFromEnd_2 : decode cD_halfFromEnd 2 = .ok (.iload_n 1, 1) := by decide +kernel
theorem dD_halfFromEnd_3 : decode cD_halfFromEnd 3 = .ok (.iconst 2, 1) := by decide +kernel
theorem dD_halfFromEnd_4 : decode cD_halfFromEnd 4 = .ok (.idiv, 1) := by decide +kernel
theorem dD_halfFromEnd_5 : decode cD_halfFromEnd 5 = .ok (.iadd, 1) := by decide +kernel
theorem dD_halfFromEnd_6 : decode cD_halfFromEnd 6 = .ok (.iload_n 3, 1) := by decide +kernel
theorem dD_halfFromEnd_7 : decode cD_halfFromEnd 7 = .ok (.iconst 2, 1) := by decide +kernel
theorem dD_halfFromEnd_8 : decode cD_halfFromEnd 8 = .ok (.idiv, 1) := by decide +kernel
theorem dD_halfFromEnd_9 : decode cD_halfFromEnd 9 = .ok (.isub, 1) := by decide +kernel
theorem dD_halfFromEnd_10 : decode cD_halfFromEnd 10 = .ok (.invokevirtual 126, 3) := by decide +kernel
theorem dD_halfFromEnd_13 : decode cD_halfFromEnd 13 = .ok (.istore 4, 2) := by decide +kernel
theorem dD_halfFromEnd_15 : decode cD_halfFromEnd 15 = .ok (.iload_n 3, 1) := by decide +kernel
theorem dD_halfFromEnd_16 : decode cD_halfFromEnd 16 = .ok (.iconst 2, 1) := by decide +kernel
theorem dD_halfFromEnd_17 : decode cD_halfFromEnd 17 = .ok (.irem, 1) := by decide +kernel
theorem dD_halfFromEnd_18 : decode cD_halfFromEnd 18 = .ok (.ifCond .ne 11, 3) := by decide +kernel
theorem dD_halfFromEnd_21 : decode cD_halfFromEnd 21 = .ok (.iload 4, 2) := by decide +kernel
theorem dD_halfFromEnd_23 : decode cD_halfFromEnd 23 = .ok (.bipush 15, 2) := by decide +kernel
theorem dD_halfFromEnd_25 : decode cD_halfFromEnd 25 = .ok (.iand, 1) := by decide +kernel
theorem dD_halfFromEnd_26 : decode cD_halfFromEnd 26 = .ok (.goto 10, 3) := by decide +kernel
theorem dD_halfFromEnd_29 : decode cD_halfFromEnd 29 = .ok (.iload 4, 2) := by decide +kernel
theorem dD_halfFromEnd_31 : decode cD_halfFromEnd 31 = .ok (.iconst 4, 1) := by decide +kernel
theorem dD_halfFromEnd_32 : decode cD_halfFromEnd 32 = .ok (.ishr, 1) := by decide +kernel
theorem dD_halfFromEnd_33 : decode cD_halfFromEnd 33 = .ok (.bipush 15, 2) := by decide +kernel
theorem dD_halfFromEnd_35 : decode cD_halfFromEnd 35 = .ok (.iand, 1) := by decide +kernel
theorem dD_halfFromEnd_36 : decode cD_halfFromEnd 36 = .ok (.ireturn, 1) := by decide +kernel
theorem dD_readDecimal_0 : decode cD_readDecimal 0 = .ok (.aload_n 0, 1) := by decide +kernel
theorem dD_readDecimal_1 : decode cD_readDecimal 1 = .ok (.iload_n 2, 1) := by decide +kernel
theorem dD_readDecimal_2 : decode cD_readDecimal 2 = .ok (.iload_n 3, 1) := by decide +kernel
theorem dD_readDecimal_3 : decode cD_readDecimal 3 = .ok (.iconst 0, 1) := by decide +kernel
theorem dD_readDecimal_4 : decode cD_readDecimal 4 = .ok (.invokevirtual 129, 3) := by decide +kernel
theorem dD_readDecimal_7 : decode cD_readDecimal 7 = .ok (.istore 4, 2) := by decide +kernel
theorem dD_readDecimal_9 : decode cD_readDecimal 9 = .ok (.iload 4, 2) := by decide +kernel
theorem dD_readDecimal_11 : decode cD_readDecimal 11 = .ok (.bipush 10, 2) := by decide +kernel
theorem dD_readDecimal_13 : decode cD_readDecimal 13 = .ok (.if_icmp .ge 5, 3) := by decide +kernel
theorem dD_readDecimal_16 : decode cD_readDecimal 16 = .ok (.iconst 0, 1) := by decide +kernel
theorem dD_readDecimal_17 : decode cD_readDecimal 17 = .ok (.ireturn, 1) := by decide +kernel
theorem dD_readDecimal_18 : decode cD_readDecimal 18 = .ok (.aload_n 1, 1) := by decide +kernel
theorem dD_readDecimal_19 : decode cD_readDecimal 19 = .ok (.invokevirtual 133, 3) := by decide +kernel
theorem dD_readDecimal_22 : decode cD_readDecimal 22 = .ok (.iconst 0, 1) := by decide +kernel
theorem dD_readDecimal_23 : decode cD_readDecimal 23 = .ok (.istore 5, 2) := by decide +kernel
theorem dD_readDecimal_25 : decode cD_readDecimal 25 = .ok (.iload 5, 2) := by decide +kernel
theorem dD_readDecimal_27 : decode cD_readDecimal 27 = .ok (.iload_n 2, 1) := by decide +kernel
theorem dD_readDecimal_28 : decode cD_readDecimal 28 = .ok (.if_icmp .ge 38, 3) := by decide +kernel
theorem dD_readDecimal_31 : decode cD_readDecimal 31 = .ok (.aload_n 0, 1) := by decide +kernel
theorem dD_readDecimal_32 : decode cD_readDecimal 32 = .ok (.iload_n 2, 1) := by decide +kernel
theorem dD_readDecimal_33 : decode cD_readDecimal 33 = .ok (.iload_n 3, 1) := by decide +kernel
theorem dD_readDecimal_34 : decode cD_readDecimal 34 = .ok (.iload 5, 2) := by decide +kernel
theorem dD_readDecimal_36 : decode cD_readDecimal 36 = .ok (.iconst 1, 1) := by decide +kernel
theorem dD_readDecimal_37 : decode cD_readDecimal 37 = .ok (.iadd, 1) := by decide +kernel
theorem dD_readDecimal_38 : decode cD_readDecimal 38 = .ok (.invokevirtual 129, 3) := by decide +kernel
theorem dD_readDecimal_41 : decode cD_readDecimal 41 = .ok (.istore 6, 2) := by decide +kernel
theorem dD_readDecimal_43 : decode cD_readDecimal 43 = .ok (.iload 6, 2) := by decide +kernel
theorem dD_readDecimal_45 : decode cD_readDecimal 45 = .ok (.bipush 9, 2) := by decide +kernel
theorem dD_readDecimal_47 : decode cD_readDecimal 47 = .ok (.if_icmp .le 5, 3) := by decide +kernel
theorem dD_readDecimal_50 : decode cD_readDecimal 50 = .ok (.iconst 0, 1) := by decide +kernel
theorem dD_readDecimal_51 : decode cD_readDecimal 51 = .ok (.ireturn, 1) := by decide +kernel
theorem dD_readDecimal_52 : decode cD_readDecimal 52 = .ok (.aload_n 1, 1) := by decide +kernel
theorem dD_readDecimal_53 : decode cD_readDecimal 53 = .ok (.iload 5, 2) := by decide +kernel
theorem dD_readDecimal_55 : decode cD_readDecimal 55 = .ok (.iload 6, 2) := by decide +kernel
theorem dD_readDecimal_57 : decode cD_readDecimal 57 = .ok (.invokevirtual 136, 3) := by decide +kernel
theorem dD_readDecimal_60 : decode cD_readDecimal 60 = .ok (.iinc 5 1, 3) := by decide +kernel
theorem dD_readDecimal_63 : decode cD_readDecimal 63 = .ok (.goto (-38), 3) := by decide +kernel
theorem dD_readDecimal_66 : decode cD_readDecimal 66 = .ok (.aload_n 1, 1) := by decide +kernel
theorem dD_readDecimal_67 : decode cD_readDecimal 67 = .ok (.iload 4, 2) := by decide +kernel
theorem dD_readDecimal_69 : decode cD_readDecimal 69 = .ok (.bipush 13, 2) := by decide +kernel
theorem dD_readDecimal_71 : decode cD_readDecimal 71 = .ok (.if_icmp .eq 10, 3) := by decide +kernel
theorem dD_readDecimal_74 : decode cD_readDecimal 74 = .ok (.iload 4, 2) := by decide +kernel
theorem dD_readDecimal_76 : decode cD_readDecimal 76 = .ok (.bipush 11, 2) := by decide +kernel
theorem dD_readDecimal_78 : decode cD_readDecimal 78 = .ok (.if_icmp .ne 7, 3) := by decide +kernel
theorem dD_readDecimal_81 : decode cD_readDecimal 81 = .ok (.iconst 1, 1) := by decide +kernel
theorem dD_readDecimal_82 : decode cD_readDecimal 82 = .ok (.goto 4, 3) := by decide +kernel
theorem dD_readDecimal_85 : decode cD_readDecimal 85 = .ok (.iconst 0, 1) := by decide +kernel
theorem dD_readDecimal_86 : decode cD_readDecimal 86 = .ok (.invokevirtual 140, 3) := by decide +kernel
theorem dD_readDecimal_89 : decode cD_readDecimal 89 = .ok (.iconst 1, 1) := by decide +kernel
theorem dD_readDecimal_90 : decode cD_readDecimal 90 = .ok (.ireturn, 1) := by decide +kernel
theorem dD_readCharacters_0 : decode cD_readCharacters 0 = .ok (.aload_n 0, 1) := by decide +kernel
theorem dD_readCharacters_1 : decode cD_readCharacters 1 = .ok (.iload_n 3, 1) := by decide +kernel
theorem dD_readCharacters_2 : decode cD_readCharacters 2 = .ok (.invokevirtual 126, 3) := by decide +kernel
theorem dD_readCharacters_5 : decode cD_readCharacters 5 = .ok (.istore 4, 2) := by decide +kernel
theorem dD_readCharacters_7 : decode cD_readCharacters 7 = .ok (.iload 4, 2) := by decide +kernel
theorem dD_readCharacters_9 : decode cD_readCharacters 9 = .ok (.bipush 43, 2) := by decide +kernel
theorem dD_readCharacters_11 : decode cD_readCharacters 11 = .ok (.if_icmp .eq 19, 3) := by decide +kernel
theorem dD_readCharacters_14 : decode cD_readCharacters 14 = .ok (.iload 4, 2) := by decide +kernel
theorem dD_readCharacters_16 : decode cD_readCharacters 16 = .ok (.bipush 45, 2) := by decide +kernel
theorem dD_readCharacters_18 : decode cD_readCharacters 18 = .ok (.if_icmp .eq 12, 3) := by decide +kernel
theorem dD_readCharacters_21 : decode cD_readCharacters 21 = .ok (.iload 4, 2) := by decide +kernel
theorem dD_readCharacters_23 : decode cD_readCharacters 23 = .ok (.bipush 32, 2) := by decide +kernel
theorem dD_readCharacters_25 : decode cD_readCharacters 25 = .ok (.if_icmp .eq 5, 3) := by decide +kernel
theorem dD_readCharacters_28 : decode cD_readCharacters 28 = .ok (.iconst 0, 1) := by decide +kernel
theorem dD_readCharacters_29 : decode cD_readCharacters 29 = .ok (.ireturn, 1) := by decide +kernel
theorem dD_readCharacters_30 : decode cD_readCharacters 30 = .ok (.aload_n 1, 1) := by decide +kernel
theorem dD_readCharacters_31 : decode cD_readCharacters 31 = .ok (.invokevirtual 133, 3) := by decide +kernel
theorem dD_readCharacters_34 : decode cD_readCharacters 34 = .ok (.iconst 0, 1) := by decide +kernel
theorem dD_readCharacters_35 : decode cD_readCharacters 35 = .ok (.istore 5, 2) := by decide +kernel
theorem dD_readCharacters_37 : decode cD_readCharacters 37 = .ok (.iload 5, 2) := by decide +kernel
theorem dD_readCharacters_39 : decode cD_readCharacters 39 = .ok (.iload_n 2, 1) := by decide +kernel
theorem dD_readCharacters_40 : decode cD_readCharacters 40 = .ok (.if_icmp .ge 46, 3) := by decide +kernel
theorem dD_readCharacters_43 : decode cD_readCharacters 43 = .ok (.aload_n 0, 1) := by decide +kernel
theorem dD_readCharacters_44 : decode cD_readCharacters 44 = .ok (.iload_n 3, 1) := by decide +kernel
theorem dD_readCharacters_45 : decode cD_readCharacters 45 = .ok (.iload_n 2, 1) := by decide +kernel
theorem dD_readCharacters_46 : decode cD_readCharacters 46 = .ok (.iadd, 1) := by decide +kernel
theorem dD_readCharacters_47 : decode cD_readCharacters 47 = .ok (.iload 5, 2) := by decide +kernel
theorem dD_readCharacters_49 : decode cD_readCharacters 49 = .ok (.isub, 1) := by decide +kernel
theorem dD_readCharacters_50 : decode cD_readCharacters 50 = .ok (.invokevirtual 126, 3) := by decide +kernel
theorem dD_readCharacters_53 : decode cD_readCharacters 53 = .ok (.bipush 48, 2) := by decide +kernel
theorem dD_readCharacters_55 : decode cD_readCharacters 55 = .ok (.isub, 1) := by decide +kernel
theorem dD_readCharacters_56 : decode cD_readCharacters 56 = .ok (.istore 6, 2) := by decide +kernel
theorem dD_readCharacters_58 : decode cD_readCharacters 58 = .ok (.iload 6, 2) := by decide +kernel
theorem dD_readCharacters_60 : decode cD_readCharacters 60 = .ok (.ifCond .lt 10, 3) := by decide +kernel
theorem dD_readCharacters_63 : decode cD_readCharacters 63 = .ok (.iload 6, 2) := by decide +kernel
theorem dD_readCharacters_65 : decode cD_readCharacters 65 = .ok (.bipush 9, 2) := by decide +kernel
theorem dD_readCharacters_67 : decode cD_readCharacters 67 = .ok (.if_icmp .le 5, 3) := by decide +kernel
theorem dD_readCharacters_70 : decode cD_readCharacters 70 = .ok (.iconst 0, 1) := by decide +kernel
theorem dD_readCharacters_71 : decode cD_readCharacters 71 = .ok (.ireturn, 1) := by decide +kernel
theorem dD_readCharacters_72 : decode cD_readCharacters 72 = .ok (.aload_n 1, 1) := by decide +kernel
theorem dD_readCharacters_73 : decode cD_readCharacters 73 = .ok (.iload 5, 2) := by decide +kernel
theorem dD_readCharacters_75 : decode cD_readCharacters 75 = .ok (.iload 6, 2) := by decide +kernel
theorem dD_readCharacters_77 : decode cD_readCharacters 77 = .ok (.invokevirtual 136, 3) := by decide +kernel
theorem dD_readCharacters_80 : decode cD_readCharacters 80 = .ok (.iinc 5 1, 3) := by decide +kernel
theorem dD_readCharacters_83 : decode cD_readCharacters 83 = .ok (.goto (-46), 3) := by decide +kernel
theorem dD_readCharacters_86 : decode cD_readCharacters 86 = .ok (.aload_n 1, 1) := by decide +kernel
theorem dD_readCharacters_87 : decode cD_readCharacters 87 = .ok (.iload 4, 2) := by decide +kernel
theorem dD_readCharacters_89 : decode cD_readCharacters 89 = .ok (.bipush 45, 2) := by decide +kernel
theorem dD_readCharacters_91 : decode cD_readCharacters 91 = .ok (.if_icmp .ne 7, 3) := by decide +kernel
theorem dD_readCharacters_94 : decode cD_readCharacters 94 = .ok (.iconst 1, 1) := by decide +kernel
theorem dD_readCharacters_95 : decode cD_readCharacters 95 = .ok (.goto 4, 3) := by decide +kernel
theorem dD_readCharacters_98 : decode cD_readCharacters 98 = .ok (.iconst 0, 1) := by decide +kernel
theorem dD_readCharacters_99 : decode cD_readCharacters 99 = .ok (.invokevirtual 140, 3) := by decide +kernel
theorem dD_readCharacters_102 : decode cD_readCharacters 102 = .ok (.iconst 1, 1) := by decide +kernel
theorem dD_readCharacters_103 : decode cD_readCharacters 103 = .ok (.ireturn, 1) := by decide +kernel
theorem dD_writeDecimal_0 : decode cD_writeDecimal 0 = .ok (.aload_n 1, 1) := by decide +kernel
theorem dD_writeDecimal_1 : decode cD_writeDecimal 1 = .ok (.iload_n 2, 1) := by decide +kernel
theorem dD_writeDecimal_2 : decode cD_writeDecimal 2 = .ok (.invokevirtual 100, 3) := by decide +kernel
theorem dD_writeDecimal_5 : decode cD_writeDecimal 5 = .ok (.istore 4, 2) := by decide +kernel
theorem dD_writeDecimal_7 : decode cD_writeDecimal 7 = .ok (.iload 4, 2) := by decide +kernel
theorem dD_writeDecimal_9 : decode cD_writeDecimal 9 = .ok (.bipush 8, 2) := by decide +kernel
theorem dD_writeDecimal_11 : decode cD_writeDecimal 11 = .ok (.iand, 1) := by decide +kernel
theorem dD_writeDecimal_12 : decode cD_writeDecimal 12 = .ok (.ifCond .eq 8, 3) := by decide +kernel
theorem dD_writeDecimal_15 : decode cD_writeDecimal 15 = .ok (.bipush 13, 2) := by decide +kernel
theorem dD_writeDecimal_17 : decode cD_writeDecimal 17 = .ok (.goto 5, 3) := by decide +kernel
theorem dD_writeDecimal_20 : decode cD_writeDecimal 20 = .ok (.bipush 12, 2) := by decide +kernel
theorem dD_writeDecimal_22 : decode cD_writeDecimal 22 = .ok (.istore 5, 2) := by decide +kernel
theorem dD_writeDecimal_24 : decode cD_writeDecimal 24 = .ok (.iload_n 2, 1) := by decide +kernel
theorem dD_writeDecimal_25 : decode cD_writeDecimal 25 = .ok (.iconst 2, 1) := by decide +kernel
theorem dD_writeDecimal_26 : decode cD_writeDecimal 26 = .ok (.idiv, 1) := by decide +kernel
theorem dD_writeDecimal_27 : decode cD_writeDecimal 27 = .ok (.iconst 1, 1) := by decide +kernel
theorem dD_writeDecimal_28 : decode cD_writeDecimal 28 = .ok (.iadd, 1) := by decide +kernel
theorem dD_writeDecimal_29 : decode cD_writeDecimal 29 = .ok (.istore 6, 2) := by decide +kernel
theorem dD_writeDecimal_31 : decode cD_writeDecimal 31 = .ok (.iconst 0, 1) := by decide +kernel
theorem dD_writeDecimal_32 : decode cD_writeDecimal 32 = .ok (.istore 7, 2) := by decide +kernel
theorem dD_writeDecimal_34 : decode cD_writeDecimal 34 = .ok (.iload 7, 2) := by decide +kernel
theorem dD_writeDecimal_36 : decode cD_writeDecimal 36 = .ok (.iload 6, 2) := by decide +kernel
theorem dD_writeDecimal_38 : decode cD_writeDecimal 38 = .ok (.if_icmp .ge 64, 3) := by decide +kernel
theorem dD_writeDecimal_41 : decode cD_writeDecimal 41 = .ok (.iconst 2, 1) := by decide +kernel
theorem dD_writeDecimal_42 : decode cD_writeDecimal 42 = .ok (.iload 7, 2) := by decide +kernel
theorem dD_writeDecimal_44 : decode cD_writeDecimal 44 = .ok (.imul, 1) := by decide +kernel
theorem dD_writeDecimal_45 : decode cD_writeDecimal 45 = .ok (.iload_n 2, 1) := by decide +kernel
theorem dD_writeDecimal_46 : decode cD_writeDecimal 46 = .ok (.if_icmp .ge 14, 3) := by decide +kernel
theorem dD_writeDecimal_49 : decode cD_writeDecimal 49 = .ok (.aload_n 1, 1) := by decide +kernel
theorem dD_writeDecimal_50 : decode cD_writeDecimal 50 = .ok (.iconst 2, 1) := by decide +kernel
theorem dD_writeDecimal_51 : decode cD_writeDecimal 51 = .ok (.iload 7, 2) := by decide +kernel
theorem dD_writeDecimal_53 : decode cD_writeDecimal 53 = .ok (.imul, 1) := by decide +kernel
theorem dD_writeDecimal_54 : decode cD_writeDecimal 54 = .ok (.invokevirtual 78, 3) := by decide +kernel
theorem dD_writeDecimal_57 : decode cD_writeDecimal 57 = .ok (.goto 4, 3) := by decide +kernel
theorem dD_writeDecimal_60 : decode cD_writeDecimal 60 = .ok (.iconst 0, 1) := by decide +kernel
theorem dD_writeDecimal_61 : decode cD_writeDecimal 61 = .ok (.istore 8, 2) := by decide +kernel
theorem dD_writeDecimal_63 : decode cD_writeDecimal 63 = .ok (.aload_n 0, 1) := by decide +kernel
theorem dD_writeDecimal_64 : decode cD_writeDecimal 64 = .ok (.iload_n 3, 1) := by decide +kernel
theorem dD_writeDecimal_65 : decode cD_writeDecimal 65 = .ok (.iload_n 2, 1) := by decide +kernel
theorem dD_writeDecimal_66 : decode cD_writeDecimal 66 = .ok (.iconst 2, 1) := by decide +kernel
theorem dD_writeDecimal_67 : decode cD_writeDecimal 67 = .ok (.idiv, 1) := by decide +kernel
theorem dD_writeDecimal_68 : decode cD_writeDecimal 68 = .ok (.iadd, 1) := by decide +kernel
theorem dD_writeDecimal_69 : decode cD_writeDecimal 69 = .ok (.iload 7, 2) := by decide +kernel
theorem dD_writeDecimal_71 : decode cD_writeDecimal 71 = .ok (.isub, 1) := by decide +kernel
theorem dD_writeDecimal_72 : decode cD_writeDecimal 72 = .ok (.iload 8, 2) := by decide +kernel
theorem dD_writeDecimal_74 : decode cD_writeDecimal 74 = .ok (.bipush 16, 2) := by decide +kernel
theorem dD_writeDecimal_76 : decode cD_writeDecimal 76 = .ok (.imul, 1) := by decide +kernel
theorem dD_writeDecimal_77 : decode cD_writeDecimal 77 = .ok (.iload 5, 2) := by decide +kernel
theorem dD_writeDecimal_79 : decode cD_writeDecimal 79 = .ok (.iadd, 1) := by decide +kernel
theorem dD_writeDecimal_80 : decode cD_writeDecimal 80 = .ok (.invokevirtual 103, 3) := by decide +kernel
theorem dD_writeDecimal_83 : decode cD_writeDecimal 83 = .ok (.pop, 1) := by decide +kernel
theorem dD_writeDecimal_84 : decode cD_writeDecimal 84 = .ok (.aload_n 1, 1) := by decide +kernel
theorem dD_writeDecimal_85 : decode cD_writeDecimal 85 = .ok (.iconst 2, 1) := by decide +kernel
theorem dD_writeDecimal_86 : decode cD_writeDecimal 86 = .ok (.iload 7, 2) := by decide +kernel
theorem dD_writeDecimal_88 : decode cD_writeDecimal 88 = .ok (.imul, 1) := by decide +kernel
theorem dD_writeDecimal_89 : decode cD_writeDecimal 89 = .ok (.iconst 1, 1) := by decide +kernel
theorem dD_writeDecimal_90 : decode cD_writeDecimal 90 = .ok (.iadd, 1) := by decide +kernel
theorem dD_writeDecimal_91 : decode cD_writeDecimal 91 = .ok (.invokevirtual 78, 3) := by decide +kernel
theorem dD_writeDecimal_94 : decode cD_writeDecimal 94 = .ok (.istore 5, 2) := by decide +kernel
theorem dD_writeDecimal_96 : decode cD_writeDecimal 96 = .ok (.iinc 7 1, 3) := by decide +kernel
theorem dD_writeDecimal_99 : decode cD_writeDecimal 99 = .ok (.goto (-65), 3) := by decide +kernel
theorem dD_writeDecimal_102 : decode cD_writeDecimal 102 = .ok (.iload 4, 2) := by decide +kernel
theorem dD_writeDecimal_104 : decode cD_writeDecimal 104 = .ok (.ireturn, 1) := by decide +kernel
theorem dD_followPattern_0 : decode cD_followPattern 0 = .ok (.iload_n 1, 1) := by decide +kernel
theorem dD_followPattern_1 : decode cD_followPattern 1 = .ok (.istore_n 2, 1) := by decide +kernel
theorem dD_followPattern_2 : decode cD_followPattern 2 = .ok (.iconst 1, 1) := by decide +kernel
theorem dD_followPattern_3 : decode cD_followPattern 3 = .ok (.istore_n 3, 1) := by decide +kernel
theorem dD_followPattern_4 : decode cD_followPattern 4 = .ok (.iload_n 3, 1) := by decide +kernel
theorem dD_followPattern_5 : decode cD_followPattern 5 = .ok (.bipush 64, 2) := by decide +kernel
theorem dD_followPattern_7 : decode cD_followPattern 7 = .ok (.if_icmp .gt 87, 3) := by decide +kernel
theorem dD_followPattern_10 : decode cD_followPattern 10 = .ok (.aload_n 0, 1) := by decide +kernel
theorem dD_followPattern_11 : decode cD_followPattern 11 = .ok (.iload_n 2, 1) := by decide +kernel
theorem dD_followPattern_12 : decode cD_followPattern 12 = .ok (.invokevirtual 126, 3) := by decide +kernel
theorem dD_followPattern_15 : decode cD_followPattern 15 = .ok (.istore 4, 2) := by decide +kernel
theorem dD_followPattern_17 : decode cD_followPattern 17 = .ok (.iload 4, 2) := by decide +kernel
theorem dD_followPattern_19 : decode cD_followPattern 19 = .ok (.ifCond .ne 19, 3) := by decide +kernel
theorem dD_followPattern_22 : decode cD_followPattern 22 = .ok (.aload_n 0, 1) := by decide +kernel
theorem dD_followPattern_23 : decode cD_followPattern 23 = .ok (.getfield 32, 3) := by decide +kernel
theorem dD_followPattern_26 : decode cD_followPattern 26 = .ok (.getfield 144, 3) := by decide +kernel
theorem dD_followPattern_29 : decode cD_followPattern 29 = .ok (.ifCond .ne 7, 3) := by decide +kernel
theorem dD_followPattern_32 : decode cD_followPattern 32 = .ok (.iconst 1, 1) := by decide +kernel
theorem dD_followPattern_33 : decode cD_followPattern 33 = .ok (.goto 4, 3) := by decide +kernel
theorem dD_followPattern_36 : decode cD_followPattern 36 = .ok (.iconst 0, 1) := by decide +kernel
theorem dD_followPattern_37 : decode cD_followPattern 37 = .ok (.ireturn, 1) := by decide +kernel
theorem dD_followPattern_38 : decode cD_followPattern 38 = .ok (.iload 4, 2) := by decide +kernel
theorem dD_followPattern_40 : decode cD_followPattern 40 = .ok (.ifCond .lt 9, 3) := by decide +kernel
theorem dD_followPattern_43 : decode cD_followPattern 43 = .ok (.iload_n 3, 1) := by decide +kernel
theorem dD_followPattern_44 : decode cD_followPattern 44 = .ok (.bipush 64, 2) := by decide +kernel
theorem dD_followPattern_46 : decode cD_followPattern 46 = .ok (.if_icmp .ne 5, 3) := by decide +kernel
theorem dD_followPattern_49 : decode cD_followPattern 49 = .ok (.iconst 0, 1) := by decide +kernel
theorem dD_followPattern_50 : decode cD_followPattern 50 = .ok (.ireturn, 1) := by decide +kernel
theorem dD_followPattern_51 : decode cD_followPattern 51 = .ok (.aload_n 0, 1) := by decide +kernel
theorem dD_followPattern_52 : decode cD_followPattern 52 = .ok (.getfield 32, 3) := by decide +kernel
theorem dD_followPattern_55 : decode cD_followPattern 55 = .ok (.iload 4, 2) := by decide +kernel
theorem dD_followPattern_57 : decode cD_followPattern 57 = .ok (.aload_n 0, 1) := by decide +kernel
theorem dD_followPattern_58 : decode cD_followPattern 58 = .ok (.iload_n 2, 1) := by decide +kernel
theorem dD_followPattern_59 : decode cD_followPattern 59 = .ok (.iconst 1, 1) := by decide +kernel
theorem dD_followPattern_60 : decode cD_followPattern 60 = .ok (.iadd, 1) := by decide +kernel
theorem dD_followPattern_61 : decode cD_followPattern 61 = .ok (.invokevirtual 126, 3) := by decide +kernel
theorem dD_followPattern_64 : decode cD_followPattern 64 = .ok (.invokevirtual 147, 3) := by decide +kernel
theorem dD_followPattern_67 : decode cD_followPattern 67 = .ok (.ifCond .ne 5, 3) := by decide +kernel
theorem dD_followPattern_70 : decode cD_followPattern 70 = .ok (.iconst 0, 1) := by decide +kernel
theorem dD_followPattern_71 : decode cD_followPattern 71 = .ok (.ireturn, 1) := by decide +kernel
theorem dD_followPattern_72 : decode cD_followPattern 72 = .ok (.iload_n 2, 1) := by decide +kernel
theorem dD_followPattern_73 : decode cD_followPattern 73 = .ok (.iload 4, 2) := by decide +kernel
theorem dD_followPattern_75 : decode cD_followPattern 75 = .ok (.invokestatic 150, 3) := by decide +kernel
theorem dD_followPattern_78 : decode cD_followPattern 78 = .ok (.ifCond .eq 7, 3) := by decide +kernel
theorem dD_followPattern_81 : decode cD_followPattern 81 = .ok (.iconst 2, 1) := by decide +kernel
theorem dD_followPattern_82 : decode cD_followPattern 82 = .ok (.goto 4, 3) := by decide +kernel
theorem dD_followPattern_85 : decode cD_followPattern 85 = .ok (.iconst 1, 1) := by decide +kernel
theorem dD_followPattern_86 : decode cD_followPattern 86 = .ok (.iadd, 1) := by decide +kernel
theorem dD_followPattern_87 : decode cD_followPattern 87 = .ok (.istore_n 2, 1) := by decide +kernel
theorem dD_followPattern_88 : decode cD_followPattern 88 = .ok (.iinc 3 1, 3) := by decide +kernel
theorem dD_followPattern_91 : decode cD_followPattern 91 = .ok (.goto (-87), 3) := by decide +kernel
theorem dD_followPattern_94 : decode cD_followPattern 94 = .ok (.iconst 0, 1) := by decide +kernel
theorem dD_followPattern_95 : decode cD_followPattern 95 = .ok (.ireturn, 1) := by decide +kernel
