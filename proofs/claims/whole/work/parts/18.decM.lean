theorem dM_init_0 : decode cM_init 0 = .ok (.aload_n 0, 1) := by decide +kernel
theorem dM_init_1 : decode cM_init 1 = .ok (.invokespecial 1, 3) := by decide +kernel
theorem dM_init_4 : decode cM_init 4 = .ok (.aload_n 0, 1) := by decide +kernel
theorem dM_init_5 : decode cM_init 5 = .ok (.sipush 256, 3) := by decide +kernel
theorem dM_init_8 : decode cM_init 8 = .ok (.newarray .int, 2) := by decide +kernel
theorem dM_init_10 : decode cM_init 10 = .ok (.putfield 7, 3) := by decide +kernel
theorem dM_init_13 : decode cM_init 13 = .ok (.aload_n 0, 1) := by decide +kernel
theorem dM_init_14 : decode cM_init 14 = .ok (.sipush 200, 3) := by decide +kernel
theorem dM_init_17 : decode cM_init 17 = .ok (.newarray .int, 2) := by decide +kernel
theorem dM_init_19 : decode cM_init 19 = .ok (.putfield 13, 3) := by decide +kernel
theorem dM_init_22 : decode cM_init 22 = .ok (.aload_n 0, 1) := by decide +kernel
theorem dM_init_23 : decode cM_init 23 = .ok (.sipush 200, 3) := by decide +kernel
theorem dM_init_26 : decode cM_init 26 = .ok (.newarray .int, 2) := by decide +kernel
theorem dM_init_28 : decode cM_init 28 = .ok (.putfield 16, 3) := by decide +kernel
theorem dM_init_31 : decode cM_init 31 = .ok (.aload_n 0, 1) := by decide +kernel
theorem dM_init_32 : decode cM_init 32 = .ok (.sipush 200, 3) := by decide +kernel
theorem dM_init_35 : decode cM_init 35 = .ok (.newarray .int, 2) := by decide +kernel
theorem dM_init_37 : decode cM_init 37 = .ok (.putfield 19, 3) := by decide +kernel
theorem dM_init_40 : decode cM_init 40 = .ok (.aload_n 0, 1) := by decide +kernel
theorem dM_init_41 : decode cM_init 41 = .ok (.sipush 200, 3) := by decide +kernel
theorem dM_init_44 : decode cM_init 44 = .ok (.newarray .int, 2) := by decide +kernel
theorem dM_init_46 : decode cM_init 46 = .ok (.putfield 22, 3) := by decide +kernel
theorem dM_init_49 : decode cM_init 49 = .ok (.aload_n 0, 1) := by decide +kernel
theorem dM_init_50 : decode cM_init 50 = .ok (.bipush 80, 2) := by decide +kernel
theorem dM_init_52 : decode cM_init 52 = .ok (.newarray .int, 2) := by decide +kernel
theorem dM_init_54 : decode cM_init 54 = .ok (.putfield 25, 3) := by decide +kernel
theorem dM_init_57 : decode cM_init 57 = .ok (.return_, 1) := by decide +kernel
theorem dM_put_0 : decode cM_put 0 = .ok (.iload_n 1, 1) := by decide +kernel
theorem dM_put_1 : decode cM_put 1 = .ok (.ifCond .lt 10, 3) := by decide +kernel
theorem dM_put_4 : decode cM_put 4 = .ok (.iload_n 1, 1) := by decide +kernel
theorem dM_put_5 : decode cM_put 5 = .ok (.sipush 256, 3) := by decide +kernel
theorem dM_put_8 : decode cM_put 8 = .ok (.if_icmp .lt 5, 3) := by decide +kernel
theorem dM_put_11 : decode cM_put 11 = .ok (.iconst 0, 1) := by decide +kernel
theorem dM_put_12 : decode cM_put 12 = .ok (.ireturn, 1) := by decide +kernel
theorem dM_put_13 : decode cM_put 13 = .ok (.aload_n 0, 1) := by decide +kernel
theorem dM_put_14 : decode cM_put 14 = .ok (.getfield 7, 3) := by decide +kernel
theorem dM_put_17 : decode cM_put 17 = .ok (.iload_n 1, 1) := by decide +kernel
theorem dM_put_18 : decode cM_put 18 = .ok (.iload_n 2, 1) := by decide +kernel
theorem dM_put_19 : decode cM_put 19 = .ok (.sipush 255, 3) := by decide +kernel
theorem dM_put_22 : decode cM_put 22 = .ok (.iand, 1) := by decide +kernel
theorem dM_put_23 : decode cM_put 23 = .ok (.iastore, 1) := by decide +kernel
theorem dM_put_24 : decode cM_put 24 = .ok (.iconst 1, 1) := by decide +kernel
theorem dM_put_25 : decode cM_put 25 = .ok (.ireturn, 1) := by decide +kernel
theorem dM_byteOf_0 : decode cM_byteOf 0 = .ok (.iload_n 1, 1) := by decide +kernel
theorem dM_byteOf_1 : decode cM_byteOf 1 = .ok (.ifCond .lt 10, 3) := by decide +kernel
theorem dM_byteOf_4 : decode cM_byteOf 4 = .ok (.iload_n 1, 1) := by decide +kernel
theorem dM_byteOf_5 : decode cM_byteOf 5 = .ok (.sipush 256, 3) := by decide +kernel
theorem dM_byteOf_8 : decode cM_byteOf 8 = .ok (.if_icmp .lt 7, 3) := by decide +kernel
theorem dM_byteOf_11 : decode cM_byteOf 11 = .ok (.iconst (-1), 1) := by decide +kernel
theorem dM_byteOf_12 : decode cM_byteOf 12 = .ok (.goto 9, 3) := by decide +kernel
theorem dM_byteOf_15 : decode cM_byteOf 15 = .ok (.aload_n 0, 1) := by decide +kernel
theorem dM_byteOf_16 : decode cM_byteOf 16 = .ok (.getfield 7, 3) := by decide +kernel
theorem dM_byteOf_19 : decode cM_byteOf 19 = .ok (.iload_n 1, 1) := by decide +kernel
theorem dM_byteOf_20 : decode cM_byteOf 20 = .ok (.iaload, 1) := by decide +kernel
theorem dM_byteOf_21 : decode cM_byteOf 21 = .ok (.ireturn, 1) := by decide +kernel
theorem dM_isCount_0 : decode cM_isCount 0 = .ok (.iload_n 0, 1) := by decide +kernel
theorem dM_isCount_1 : decode cM_isCount 1 = .ok (.ifCond .lt 13, 3) := by decide +kernel
theorem dM_isCount_4 : decode cM_isCount 4 = .ok (.iload_n 0, 1) := by decide +kernel
theorem dM_isCount_5 : decode cM_isCount 5 = .ok (.bipush 31, 2) := by decide +kernel
theorem dM_isCount_7 : decode cM_isCount 7 = .ok (.if_icmp .gt 7, 3) := by decide +kernel
theorem dM_isCount_10 : decode cM_isCount 10 = .ok (.iconst 1, 1) := by decide +kernel
theorem dM_isCount_11 : decode cM_isCount 11 = .ok (.goto 4, 3) := by decide +kernel
theorem dM_isCount_14 : decode cM_isCount 14 = .ok (.iconst 0, 1) := by decide +kernel
theorem dM_isCount_15 : decode cM_isCount 15 = .ok (.ireturn, 1) := by decide +kernel
theorem dM_are_0 : decode cM_are 0 = .ok (.iload_n 0, 1) := by decide +kernel
theorem dM_are_1 : decode cM_are 1 = .ok (.ifCond .lt 16, 3) := by decide +kernel
theorem dM_are_4 : decode cM_are 4 = .ok (.iload_n 0, 1) := by decide +kernel
theorem dM_are_5 : decode cM_are 5 = .ok (.sipush 256, 3) := by decide +kernel
theorem dM_are_8 : decode cM_are 8 = .ok (.iload_n 1, 1) := by decide +kernel
theorem dM_are_9 : decode cM_are 9 = .ok (.isub, 1) := by decide +kernel
theorem dM_are_10 : decode cM_are 10 = .ok (.if_icmp .gt 7, 3) := by decide +kernel
theorem dM_are_13 : decode cM_are 13 = .ok (.iconst 1, 1) := by decide +kernel
theorem dM_are_14 : decode cM_are 14 = .ok (.goto 4, 3) := by decide +kernel
theorem dM_are_17 : decode cM_are 17 = .ok (.iconst 0, 1) := by decide +kernel
theorem dM_are_18 : decode cM_are 18 = .ok (.ireturn, 1) := by decide +kernel
theorem dM_isThere_0 : decode cM_isThere 0 = .ok (.iload_n 0, 1) := by decide +kernel
theorem dM_isThere_1 : decode cM_isThere 1 = .ok (.invokestatic 28, 3) := by decide +kernel
theorem dM_isThere_4 : decode cM_isThere 4 = .ok (.ifCond .eq 19, 3) := by decide +kernel
theorem dM_isThere_7 : decode cM_isThere 7 = .ok (.iload_n 1, 1) := by decide +kernel
theorem dM_isThere_8 : decode cM_isThere 8 = .ok (.iload_n 0, 1) := by decide +kernel
theorem dM_isThere_9 : decode cM_isThere 9 = .ok (.iconst 2, 1) := by decide +kernel
theorem dM_isThere_10 : decode cM_isThere 10 = .ok (.idiv, 1) := by decide +kernel
theorem dM_isThere_11 : decode cM_isThere 11 = .ok (.iconst 1, 1) := by decide +kernel
theorem dM_isThere_12 : decode cM_isThere 12 = .ok (.iadd, 1) := by decide +kernel
theorem dM_isThere_13 : decode cM_isThere 13 = .ok (.invokestatic 32, 3) := by decide +kernel
theorem dM_isThere_16 : decode cM_isThere 16 = .ok (.ifCond .eq 7, 3) := by decide +kernel
theorem dM_isThere_19 : decode cM_isThere 19 = .ok (.iconst 1, 1) := by decide +kernel
theorem dM_isThere_20 : decode cM_isThere 20 = .ok (.goto 4, 3) := by decide +kernel
theorem dM_isThere_23 : decode cM_isThere 23 = .ok (.iconst 0, 1) := by decide +kernel
theorem dM_isThere_24 : decode cM_isThere 24 = .ok (.ireturn, 1) := by decide +kernel
theorem dM_read_0 : decode cM_read 0 = .ok (.iconst 0, 1) := by decide +kernel
theorem dM_read_1 : decode cM_read 1 = .ok (.istore 4, 2) := by decide +kernel
theorem dM_read_3 : decode cM_read 3 = .ok (.iload 4, 2) := by decide +kernel
theorem dM_read_5 : decode cM_read 5 = .ok (.sipush 200, 3) := by decide +kernel
theorem dM_read_8 : decode cM_read 8 = .ok (.if_icmp .ge 14, 3) := by decide +kernel
theorem dM_read_11 : decode cM_read 11 = .ok (.aload_n 3, 1) := by decide +kernel
theorem dM_read_12 : decode cM_read 12 = .ok (.iload 4, 2) := by decide +kernel
theorem dM_read_14 : decode cM_read 14 = .ok (.iconst 0, 1) := by decide +kernel
theorem dM_read_15 : decode cM_read 15 = .ok (.iastore, 1) := by decide +kernel
theorem dM_read_16 : decode cM_read 16 = .ok (.iinc 4 1, 3) := by decide +kernel
theorem dM_read_19 : decode cM_read 19 = .ok (.goto (-16), 3) := by decide +kernel
theorem dM_read_22 : decode cM_read 22 = .ok (.iload_n 2, 1) := by decide +kernel
theorem dM_read_23 : decode cM_read 23 = .ok (.iload_n 1, 1) := by decide +kernel
theorem dM_read_24 : decode cM_read 24 = .ok (.iconst 2, 1) := by decide +kernel
theorem dM_read_25 : decode cM_read 25 = .ok (.idiv, 1) := by decide +kernel
theorem dM_read_26 : decode cM_read 26 = .ok (.iadd, 1) := by decide +kernel
theorem dM_read_27 : decode cM_read 27 = .ok (.istore 4, 2) := by decide +kernel
theorem dM_read_29 : decode cM_read 29 = .ok (.aload_n 0, 1) := by decide +kernel
theorem dM_read_30 : decode cM_read 30 = .ok (.getfield 7, 3) := by decide +kernel
theorem dM_read_33 : decode cM_read 33 = .ok (.iload 4, 2) := by decide +kernel
theorem dM_read_35 : decode cM_read 35 = .ok (.iaload, 1) := by decide +kernel
theorem dM_read_36 : decode cM_read 36 = .ok (.bipush 16, 2) := by decide +kernel
theorem dM_read_38 : decode cM_read 38 = .ok (.irem, 1) := by decide +kernel
theorem dM_read_39 : decode cM_read 39 = .ok (.istore 5, 2) := by decide +kernel
theorem dM_read_41 : decode cM_read 41 = .ok (.iload 5, 2) := by decide +kernel
theorem dM_read_43 : decode cM_read 43 = .ok (.bipush 9, 2) := by decide +kernel
theorem dM_read_45 : decode cM_read 45 = .ok (.if_icmp .le 7, 3) := by decide +kernel
theorem dM_read_48 : decode cM_read 48 = .ok (.iconst 1, 1) := by decide +kernel
theorem dM_read_49 : decode cM_read 49 = .ok (.goto 4, 3) := by decide +kernel
theorem dM_read_52 : decode cM_read 52 = .ok (.iconst 0, 1) := by decide +kernel
theorem dM_read_53 : decode cM_read 53 = .ok (.istore 6, 2) := by decide +kernel
theorem dM_read_55 : decode cM_read 55 = .ok (.iconst 0, 1) := by decide +kernel
theorem dM_read_56 : decode cM_read 56 = .ok (.istore 7, 2) := by decide +kernel
theorem dM_read_58 : decode cM_read 58 = .ok (.iload 7, 2) := by decide +kernel
theorem dM_read_60 : decode cM_read 60 = .ok (.iload_n 1, 1) := by decide +kernel
theorem dM_read_61 : decode cM_read 61 = .ok (.if_icmp .ge 72, 3) := by decide +kernel
theorem dM_read_64 : decode cM_read 64 = .ok (.aload_n 0, 1) := by decide +kernel
theorem dM_read_65 : decode cM_read 65 = .ok (.getfield 7, 3) := by decide +kernel
theorem dM_read_68 : decode cM_read 68 = .ok (.iload 4, 2) := by decide +kernel
theorem dM_read_70 : decode cM_read 70 = .ok (.iload 7, 2) := by decide +kernel
theorem dM_read_72 : decode cM_read 72 = .ok (.iconst 1, 1) := by decide +kernel
theorem dM_read_73 : decode cM_read 73 = .ok (.iadd, 1) := by decide +kernel
theorem dM_read_74 : decode cM_read 74 = .ok (.iconst 2, 1) := by decide +kernel
theorem dM_read_75 : decode cM_read 75 = .ok (.idiv, 1) := by decide +kernel
theorem dM_read_76 : decode cM_read 76 = .ok (.isub, 1) := by decide +kernel
theorem dM_read_77 : decode cM_read 77 = .ok (.iaload, 1) := by decide +kernel
theorem dM_read_78 : decode cM_read 78 = .ok (.istore 8, 2) := by decide +kernel
theorem dM_read_80 : decode cM_read 80 = .ok (.iload 7, 2) := by decide +kernel
theorem dM_read_82 : decode cM_read 82 = .ok (.iconst 2, 1) := by decide +kernel
theorem dM_read_83 : decode cM_read 83 = .ok (.irem, 1) := by decide +kernel
theorem dM_read_84 : decode cM_read 84 = .ok (.ifCond .ne 11, 3) := by decide +kernel
theorem dM_read_87 : decode cM_read 87 = .ok (.iload 8, 2) := by decide +kernel
theorem dM_read_89 : decode cM_read 89 = .ok (.bipush 16, 2) := by decide +kernel
theorem dM_read_91 : decode cM_read 91 = .ok (.idiv, 1) := by decide +kernel
theorem dM_read_92 : decode cM_read 92 = .ok (.goto 8, 3) := by decide +kernel
theorem dM_read_95 : decode cM_read 95 = .ok (.iload 8, 2) := by decide +kernel
theorem dM_read_97 : decode cM_read 97 = .ok (.bipush 16, 2) := by decide +kernel
theorem dM_read_99 : decode cM_read 99 = .ok (.irem, 1) := by decide +kernel
theorem dM_read_100 : decode cM_read 100 = .ok (.istore 9, 2) := by decide +kernel
theorem dM_read_102 : decode cM_read 102 = .ok (.iload 6, 2) := by decide +kernel
theorem dM_read_104 : decode cM_read 104 = .ok (.ifCond .eq 14, 3) := by decide +kernel
theorem dM_read_107 : decode cM_read 107 = .ok (.iload 9, 2) := by decide +kernel
theorem dM_read_109 : decode cM_read 109 = .ok (.bipush 10, 2) := by decide +kernel
theorem dM_read_111 : decode cM_read 111 = .ok (.if_icmp .ge 7, 3) := by decide +kernel
theorem dM_read_114 : decode cM_read 114 = .ok (.iconst 1, 1) := by decide +kernel
theorem dM_read_115 : decode cM_read 115 = .ok (.goto 4, 3) := by decide +kernel
theorem dM_read_118 : decode cM_read 118 = .ok (.iconst 0, 1) := by decide +kernel
theorem dM_read_119 : decode cM_read 119 = .ok (.istore 6, 2) := by decide +kernel
theorem dM_read_121 : decode cM_read 121 = .ok (.aload_n 3, 1) := by decide +kernel
theorem dM_read_122 : decode cM_read 122 = .ok (.iload 7, 2) := by decide +kernel
theorem dM_read_124 : decode cM_read 124 = .ok (.iload 9, 2) := by decide +kernel
theorem dM_read_126 : decode cM_read 126 = .ok (.iastore, 1) := by decide +kernel
theorem dM_read_127 : decode cM_read 127 = .ok (.iinc 7 1, 3) := by decide +kernel
theorem dM_read_130 : decode cM_read 130 = .ok (.goto (-72), 3) := by decide +kernel
theorem dM_read_133 : decode cM_read 133 = .ok (.iload 6, 2) := by decide +kernel
theorem dM_read_135 : decode cM_read 135 = .ok (.ifCond .ne 7, 3) := by decide +kernel
theorem dM_read_138 : decode cM_read 138 = .ok (.iconst 0, 1) := by decide +kernel
theorem dM_read_139 : decode cM_read 139 = .ok (.goto 22, 3) := by decide +kernel
theorem dM_read_142 : decode cM_read 142 = .ok (.iload 5, 2) := by decide +kernel
theorem dM_read_144 : decode cM_read 144 = .ok (.bipush 11, 2) := by decide +kernel
theorem dM_read_146 : decode cM_read 146 = .ok (.if_icmp .eq 10, 3) := by decide +kernel
theorem dM_read_149 : decode cM_read 149 = .ok (.iload 5, 2) := by decide +kernel
theorem dM_read_151 : decode cM_read 151 = .ok (.bipush 13, 2) := by decide +kernel
theorem dM_read_153 : decode cM_read 153 = .ok (.if_icmp .ne 7, 3) := by decide +kernel
theorem dM_read_156 : decode cM_read 156 = .ok (.iconst 2, 1) := by decide +kernel
theorem dM_read_157 : decode cM_read 157 = .ok (.goto 4, 3) := by decide +kernel
theorem dM_read_160 : decode cM_read 160 = .ok (.iconst 1, 1) := by decide +kernel
theorem dM_read_161 : decode cM_read 161 = .ok (.ireturn, 1) := by decide +kernel
theorem dM_isZero_0 : decode cM_isZero 0 = .ok (.iconst 1, 1) := by decide +kernel
theorem dM_isZero_1 : decode cM_isZero 1 = .ok (.istore_n 1, 1) := by decide +kernel
theorem dM_isZero_2 : decode cM_isZero 2 = .ok (.iconst 0, 1) := by decide +kernel
theorem dM_isZero_3 : decode cM_isZero 3 = .ok (.istore_n 2, 1) := by decide +kernel
theorem dM_isZero_4 : decode cM_isZero 4 = .ok (.iload_n 2, 1) := by decide +kernel
theorem dM_isZero_5 : decode cM_isZero 5 = .ok (.sipush 200, 3) := by decide +kernel
theorem dM_isZero_8 : decode cM_isZero 8 = .ok (.if_icmp .ge 25, 3) := by decide +kernel
theorem dM_isZero_11 : decode cM_isZero 11 = .ok (.iload_n 1, 1) := by decide +kernel
theorem dM_isZero_12 : decode cM_isZero 12 = .ok (.ifCond .eq 13, 3) := by decide +kernel
theorem dM_isZero_15 : decode cM_isZero 15 = .ok (.aload_n 0, 1) := by decide +kernel
theorem dM_isZero_16 : decode cM_isZero 16 = .ok (.iload_n 2, 1) := by decide +kernel
theorem dM_isZero_17 : decode cM_isZero 17 = .ok (.iaload, 1) := by decide +kernel
theorem dM_isZero_18 : decode cM_isZero 18 = .ok (.ifCond .ne 7, 3) := by decide +kernel
theorem dM_isZero_21 : decode cM_isZero 21 = .ok (.iconst 1, 1) := by decide +kernel
theorem dM_isZero_22 : decode cM_isZero 22 = .ok (.goto 4, 3) := by decide +kernel
theorem dM_isZero_25 : decode cM_isZero 25 = .ok (.iconst 0, 1) := by decide +kernel
theorem dM_isZero_26 : decode cM_isZero 26 = .ok (.istore_n 1, 1) := by decide +kernel
theorem dM_isZero_27 : decode cM_isZero 27 = .ok (.iinc 2 1, 3) := by decide +kernel
theorem dM_isZero_30 : decode cM_isZero 30 = .ok (.goto (-26), 3) := by decide +kernel
theorem dM_isZero_33 : decode cM_isZero 33 = .ok (.iload_n 1, 1) := by decide +kernel
theorem dM_isZero_34 : decode cM_isZero 34 = .ok (.ireturn, 1) := by decide +kernel
theorem dM_cuts_0 : decode cM_cuts 0 = .ok (.iconst 0, 1) := by decide +kernel
theorem dM_cuts_1 : decode cM_cuts 1 = .ok (.istore_n 2, 1) := by decide +kernel
theorem dM_cuts_2 : decode cM_cuts 2 = .ok (.iload_n 1, 1) := by decide +kernel
theorem dM_cuts_3 : decode cM_cuts 3 = .ok (.istore_n 3, 1) := by decide +kernel
theorem dM_cuts_4 : decode cM_cuts 4 = .ok (.iload_n 3, 1) := by decide +kernel
theorem dM_cuts_5 : decode cM_cuts 5 = .ok (.sipush 200, 3) := by decide +kernel
theorem dM_cuts_8 : decode cM_cuts 8 = .ok (.if_icmp .ge 35, 3) := by decide +kernel
theorem dM_cuts_11 : decode cM_cuts 11 = .ok (.iload_n 2, 1) := by decide +kernel
theorem dM_cuts_12 : decode cM_cuts 12 = .ok (.ifCond .ne 12, 3) := by decide +kernel
theorem dM_cuts_15 : decode cM_cuts 15 = .ok (.aload_n 0, 1) := by decide +kernel
theorem dM_cuts_16 : decode cM_cuts 16 = .ok (.getfield 19, 3) := by decide +kernel
theorem dM_cuts_19 : decode cM_cuts 19 = .ok (.iload_n 3, 1) := by decide +kernel
theorem dM_cuts_20 : decode cM_cuts 20 = .ok (.iaload, 1) := by decide +kernel
theorem dM_cuts_21 : decode cM_cuts 21 = .ok (.ifCond .eq 7, 3) := by decide +kernel
theorem dM_cuts_24 : decode cM_cuts 24 = .ok (.iconst 1, 1) := by decide +kernel
theorem dM_cuts_25 : decode cM_cuts 25 = .ok (.goto 4, 3) := by decide +kernel
theorem dM_cuts_28 : decode cM_cuts 28 = .ok (.iconst 0, 1) := by decide +kernel
theorem dM_cuts_29 : decode cM_cuts 29 = .ok (.istore_n 2, 1) := by decide +kernel
theorem dM_cuts_30 : decode cM_cuts 30 = .ok (.aload_n 0, 1) := by decide +kernel
theorem dM_cuts_31 : decode cM_cuts 31 = .ok (.getfield 19, 3) := by decide +kernel
theorem dM_cuts_34 : decode cM_cuts 34 = .ok (.iload_n 3, 1) := by decide +kernel
theorem dM_cuts_35 : decode cM_cuts 35 = .ok (.iconst 0, 1) := by decide +kernel
theorem dM_cuts_36 : decode cM_cuts 36 = .ok (.iastore, 1) := by decide +kernel
theorem dM_cuts_37 : decode cM_cuts 37 = .ok (.iinc 3 1, 3) := by decide +kernel
theorem dM_cuts_40 : decode cM_cuts 40 = .ok (.goto (-36), 3) := by decide +kernel
theorem dM_cuts_43 : decode cM_cuts 43 = .ok (.iload_n 2, 1) := by decide +kernel
theorem dM_cuts_44 : decode cM_cuts 44 = .ok (.ireturn, 1) := by decide +kernel
theorem dM_flags_0 : decode cM_flags 0 = .ok (.aload_n 0, 1) := by decide +kernel
theorem dM_flags_1 : decode cM_flags 1 = .ok (.getfield 19, 3) := by decide +kernel
theorem dM_flags_4 : decode cM_flags 4 = .ok (.invokestatic 36, 3) := by decide +kernel
theorem dM_flags_7 : decode cM_flags 7 = .ok (.istore_n 2, 1) := by decide +kernel
theorem dM_flags_8 : decode cM_flags 8 = .ok (.aload_n 0, 1) := by decide +kernel
theorem dM_flags_9 : decode cM_flags 9 = .ok (.getfield 40, 3) := by decide +kernel
theorem dM_flags_12 : decode cM_flags 12 = .ok (.ifCond .eq 12, 3) := by decide +kernel
theorem dM_flags_15 : decode cM_flags 15 = .ok (.iload_n 2, 1) := by decide +kernel
theorem dM_flags_16 : decode cM_flags 16 = .ok (.ifCond .ne 8, 3) := by decide +kernel
theorem dM_flags_19 : decode cM_flags 19 = .ok (.bipush 8, 2) := by decide +kernel
theorem dM_flags_21 : decode cM_flags 21 = .ok (.goto 4, 3) := by decide +kernel
theorem dM_flags_24 : decode cM_flags 24 = .ok (.iconst 0, 1) := by decide +kernel
theorem dM_flags_25 : decode cM_flags 25 = .ok (.iload_n 2, 1) := by decide +kernel
theorem dM_flags_26 : decode cM_flags 26 = .ok (.ifCond .eq 7, 3) := by decide +kernel
theorem dM_flags_29 : decode cM_flags 29 = .ok (.iconst 4, 1) := by decide +kernel
theorem dM_flags_30 : decode cM_flags 30 = .ok (.goto 4, 3) := by decide +kernel
theorem dM_flags_33 : decode cM_flags 33 = .ok (.iconst 0, 1) := by decide +kernel
theorem dM_flags_34 : decode cM_flags 34 = .ok (.ior, 1) := by decide +kernel
theorem dM_flags_35 : decode cM_flags 35 = .ok (.iload_n 1, 1) := by decide +kernel
theorem dM_flags_36 : decode cM_flags 36 = .ok (.ifCond .eq 7, 3) := by decide +kernel
theorem dM_flags_39 : decode cM_flags 39 = .ok (.iconst 2, 1) := by decide +kernel
theorem dM_flags_40 : decode cM_flags 40 = .ok (.goto 4, 3) := by decide +kernel
theorem dM_flags_43 : decode cM_flags 43 = .ok (.iconst 0, 1) := by decide +kernel
theorem dM_flags_44 : decode cM_flags 44 = .ok (.ior, 1) := by decide +kernel
theorem dM_flags_45 : decode cM_flags 45 = .ok (.ireturn, 1) := by decide +kernel
theorem dM_write_0 : decode cM_write 0 = .ok (.aload_n 0, 1) := by decide +kernel
theorem dM_write_1 : decode cM_write 1 = .ok (.iload_n 1, 1) := by decide +kernel
theorem dM_write_2 : decode cM_write 2 = .ok (.invokevirtual 44, 3) := by decide +kernel
theorem dM_write_5 : decode cM_write 5 = .ok (.istore_n 3, 1) := by decide +kernel
theorem dM_write_6 : decode cM_write 6 = .ok (.aload_n 0, 1) := by decide +kernel
theorem dM_write_7 : decode cM_write 7 = .ok (.iload_n 3, 1) := by decide +kernel
theorem dM_write_8 : decode cM_write 8 = .ok (.invokevirtual 47, 3) := by decide +kernel
theorem dM_write_11 : decode cM_write 11 = .ok (.istore 4, 2) := by decide +kernel
theorem dM_write_13 : decode cM_write 13 = .ok (.iload_n 2, 1) := by decide +kernel
theorem dM_write_14 : decode cM_write 14 = .ok (.iload_n 1, 1) := by decide +kernel
theorem dM_write_15 : decode cM_write 15 = .ok (.iconst 2, 1) := by decide +kernel
theorem dM_write_16 : decode cM_write 16 = .ok (.idiv, 1) := by decide +kernel
theorem dM_write_17 : decode cM_write 17 = .ok (.iadd, 1) := by decide +kernel
theorem dM_write_18 : decode cM_write 18 = .ok (.istore 5, 2) := by decide +kernel
theorem dM_write_20 : decode cM_write 20 = .ok (.iload_n 2, 1) := by decide +kernel
theorem dM_write_21 : decode cM_write 21 = .ok (.istore 6, 2) := by decide +kernel
theorem dM_write_23 : decode cM_write 23 = .ok (.iload 6, 2) := by decide +kernel
theorem dM_write_25 : decode cM_write 25 = .ok (.iload 5, 2) := by decide +kernel
theorem dM_write_27 : decode cM_write 27 = .ok (.if_icmp .gt 17, 3) := by decide +kernel
theorem dM_write_30 : decode cM_write 30 = .ok (.aload_n 0, 1) := by decide +kernel
theorem dM_write_31 : decode cM_write 31 = .ok (.getfield 7, 3) := by decide +kernel
theorem dM_write_34 : decode cM_write 34 = .ok (.iload 6, 2) := by decide +kernel
theorem dM_write_36 : decode cM_write 36 = .ok (.iconst 0, 1) := by decide +kernel
theorem dM_write_37 : decode cM_write 37 = .ok (.iastore, 1) := by decide +kernel
theorem dM_write_38 : decode cM_write 38 = .ok (.iinc 6 1, 3) := by decide +kernel
theorem dM_write_41 : decode cM_write 41 = .ok (.goto (-18), 3) := by decide +kernel
theorem dM_write_44 : decode cM_write 44 = .ok (.aload_n 0, 1) := by decide +kernel
theorem dM_write_45 : decode cM_write 45 = .ok (.getfield 7, 3) := by decide +kernel
theorem dM_write_48 : decode cM_write 48 = .ok (.iload 5, 2) := by decide +kernel
theorem dM_write_50 : decode cM_write 50 = .ok (.iload 4, 2) := by decide +kernel
theorem dM_write_52 : decode cM_write 52 = .ok (.bipush 8, 2) := by decide +kernel
theorem dM_write_54 : decode cM_write 54 = .ok (.iand, 1) := by decide +kernel
theorem dM_write_55 : decode cM_write 55 = .ok (.ifCond .eq 8, 3) := by decide +kernel
theorem dM_write_58 : decode cM_write 58 = .ok (.bipush 13, 2) := by decide +kernel
theorem dM_write_60 : decode cM_write 60 = .ok (.goto 5, 3) := by decide +kernel
theorem dM_write_63 : decode cM_write 63 = .ok (.bipush 12, 2) := by decide +kernel
theorem dM_write_65 : decode cM_write 65 = .ok (.iastore, 1) := by decide +kernel
theorem dM_write_66 : decode cM_write 66 = .ok (.iconst 0, 1) := by decide +kernel
theorem dM_write_67 : decode cM_write 67 = .ok (.istore 6, 2) := by decide +kernel
theorem dM_write_69 : decode cM_write 69 = .ok (.iload 6, 2) := by decide +kernel
theorem dM_write_71 : decode cM_write 71 = .ok (.iload_n 1, 1) := by decide +kernel
theorem dM_write_72 : decode cM_write 72 = .ok (.if_icmp .ge 47, 3) := by decide +kernel
theorem dM_write_75 : decode cM_write 75 = .ok (.aload_n 0, 1) := by decide +kernel
theorem dM_write_76 : decode cM_write 76 = .ok (.getfield 7, 3) := by decide +kernel
theorem dM_write_79 : decode cM_write 79 = .ok (.iload 5, 2) := by decide +kernel
theorem dM_write_81 : decode cM_write 81 = .ok (.iload 6, 2) := by decide +kernel
theorem dM_write_83 : decode cM_write 83 = .ok (.iconst 1, 1) := by decide +kernel
theorem dM_write_84 : decode cM_write 84 = .ok (.iadd, 1) := by decide +kernel
theorem dM_write_85 : decode cM_write 85 = .ok (.iconst 2, 1) := by decide +kernel
theorem dM_write_86 : decode cM_write 86 = .ok (.idiv, 1) := by decide +kernel
theorem dM_write_87 : decode cM_write 87 = .ok (.isub, 1) := by decide +kernel
theorem dM_write_88 : decode cM_write 88 = .ok (.dup2, 1) := by decide +kernel
theorem dM_write_89 : decode cM_write 89 = .ok (.iaload, 1) := by decide +kernel
theorem dM_write_90 : decode cM_write 90 = .ok (.aload_n 0, 1) := by decide +kernel
theorem dM_write_91 : decode cM_write 91 = .ok (.getfield 19, 3) := by decide +kernel
theorem dM_write_94 : decode cM_write 94 = .ok (.iload 6, 2) := by decide +kernel
theorem dM_write_96 : decode cM_write 96 = .ok (.iaload, 1) := by decide +kernel
theorem dM_write_97 : decode cM_write 97 = .ok (.iload 6, 2) := by decide +kernel
theorem dM_write_99 : decode cM_write 99 = .ok (.iconst 2, 1) := by decide +kernel
theorem dM_write_100 : decode cM_write 100 = .ok (.irem, 1) := by decide +kernel
theorem dM_write_101 : decode cM_write 101 = .ok (.ifCond .ne 8, 3) := by decide +kernel
theorem dM_write_104 : decode cM_write 104 = .ok (.bipush 16, 2) := by decide +kernel
theorem dM_write_106 : decode cM_write 106 = .ok (.goto 4, 3) := by decide +kernel
theorem dM_write_109 : decode cM_write 109 = .ok (.iconst 1, 1) := by decide +kernel
theorem dM_write_110 : decode cM_write 110 = .ok (.imul, 1) := by decide +kernel
theorem dM_write_111 : decode cM_write 111 = .ok (.iadd, 1) := by decide +kernel
theorem dM_write_112 : decode cM_write 112 = .ok (.iastore, 1) := by decide +kernel
theorem dM_write_113 : decode cM_write 113 = .ok (.iinc 6 1, 3) := by decide +kernel
theorem dM_write_116 : decode cM_write 116 = .ok (.goto (-47), 3) := by decide +kernel
theorem dM_write_119 : decode cM_write 119 = .ok (.iload 4, 2) := by decide +kernel
theorem dM_write_121 : decode cM_write 121 = .ok (.ireturn, 1) := by decide +kernel
theorem dM_reads_0 : decode cM_reads 0 = .ok (.aload_n 0, 1) := by decide +kernel
theorem dM_reads_1 : decode cM_reads 1 = .ok (.iload_n 1, 1) := by decide +kernel
theorem dM_reads_2 : decode cM_reads 2 = .ok (.iload_n 2, 1) := by decide +kernel
theorem dM_reads_3 : decode cM_reads 3 = .ok (.aload_n 0, 1) := by decide +kernel
theorem dM_reads_4 : decode cM_reads 4 = .ok (.getfield 13, 3) := by decide +kernel
theorem dM_reads_7 : decode cM_reads 7 = .ok (.invokevirtual 51, 3) := by decide +kernel
theorem dM_reads_10 : decode cM_reads 10 = .ok (.istore 5, 2) := by decide +kernel
theorem dM_reads_12 : decode cM_reads 12 = .ok (.aload_n 0, 1) := by decide +kernel
theorem dM_reads_13 : decode cM_reads 13 = .ok (.iload_n 3, 1) := by decide +kernel
theorem dM_reads_14 : decode cM_reads 14 = .ok (.iload 4, 2) := by decide +kernel
theorem dM_reads_16 : decode cM_reads 16 = .ok (.aload_n 0, 1) := by decide +kernel
theorem dM_reads_17 : decode cM_reads 17 = .ok (.getfield 16, 3) := by decide +kernel
theorem dM_reads_20 : decode cM_reads 20 = .ok (.invokevirtual 51, 3) := by decide +kernel
theorem dM_reads_23 : decode cM_reads 23 = .ok (.istore 6, 2) := by decide +kernel
theorem dM_reads_25 : decode cM_reads 25 = .ok (.aload_n 0, 1) := by decide +kernel
theorem dM_reads_26 : decode cM_reads 26 = .ok (.iload 5, 2) := by decide +kernel
theorem dM_reads_28 : decode cM_reads 28 = .ok (.iconst 2, 1) := by decide +kernel
theorem dM_reads_29 : decode cM_reads 29 = .ok (.if_icmp .ne 7, 3) := by decide +kernel
theorem dM_reads_32 : decode cM_reads 32 = .ok (.iconst 1, 1) := by decide +kernel
theorem dM_reads_33 : decode cM_reads 33 = .ok (.goto 4, 3) := by decide +kernel
theorem dM_reads_36 : decode cM_reads 36 = .ok (.iconst 0, 1) := by decide +kernel
theorem dM_reads_37 : decode cM_reads 37 = .ok (.putfield 55, 3) := by decide +kernel
theorem dM_reads_40 : decode cM_reads 40 = .ok (.aload_n 0, 1) := by decide +kernel
theorem dM_reads_41 : decode cM_reads 41 = .ok (.iload 6, 2) := by decide +kernel
theorem dM_reads_43 : decode cM_reads 43 = .ok (.iconst 2, 1) := by decide +kernel
theorem dM_reads_44 : decode cM_reads 44 = .ok (.if_icmp .ne 7, 3) := by decide +kernel
theorem dM_reads_47 : decode cM_reads 47 = .ok (.iconst 1, 1) := by decide +kernel
theorem dM_reads_48 : decode cM_reads 48 = .ok (.goto 4, 3) := by decide +kernel
theorem dM_reads_51 : decode cM_reads 51 = .ok (.iconst 0, 1) := by decide +kernel
theorem dM_reads_52 : decode cM_reads 52 = .ok (.putfield 58, 3) := by decide +kernel
theorem dM_reads_55 : decode cM_reads 55 = .ok (.iload 5, 2) := by decide +kernel
theorem dM_reads_57 : decode cM_reads 57 = .ok (.ifCond .eq 8, 3) := by decide +kernel
theorem dM_reads_60 : decode cM_reads 60 = .ok (.iload 6, 2) := by decide +kernel
theorem dM_reads_62 : decode cM_reads 62 = .ok (.ifCond .ne 8, 3) := by decide +kernel
theorem dM_reads_65 : decode cM_reads 65 = .ok (.bipush (-2), 2) := by decide +kernel
theorem dM_reads_67 : decode cM_reads 67 = .ok (.goto 4, 3) := by decide +kernel
theorem dM_reads_70 : decode cM_reads 70 = .ok (.iconst 0, 1) := by decide +kernel
theorem dM_reads_71 : decode cM_reads 71 = .ok (.ireturn, 1) := by decide +kernel
theorem dM_three_0 : decode cM_three 0 = .ok (.iload_n 1, 1) := by decide +kernel
theorem dM_three_1 : decode cM_three 1 = .ok (.iload_n 2, 1) := by decide +kernel
theorem dM_three_2 : decode cM_three 2 = .ok (.invokestatic 61, 3) := by decide +kernel
theorem dM_three_5 : decode cM_three 5 = .ok (.ifCond .eq 34, 3) := by decide +kernel
theorem dM_three_8 : decode cM_three 8 = .ok (.iload_n 3, 1) := by decide +kernel
theorem dM_three_9 : decode cM_three 9 = .ok (.iload 4, 2) := by decide +kernel
theorem dM_three_11 : decode cM_three 11 = .ok (.invokestatic 61, 3) := by decide +kernel
theorem dM_three_14 : decode cM_three 14 = .ok (.ifCond .eq 25, 3) := by decide +kernel
theorem dM_three_17 : decode cM_three 17 = .ok (.iload 5, 2) := by decide +kernel
theorem dM_three_19 : decode cM_three 19 = .ok (.iload 6, 2) := by decide +kernel
theorem dM_three_21 : decode cM_three 21 = .ok (.invokestatic 61, 3) := by decide +kernel
theorem dM_three_24 : decode cM_three 24 = .ok (.ifCond .eq 15, 3) := by decide +kernel
theorem dM_three_27 : decode cM_three 27 = .ok (.aload_n 0, 1) := by decide +kernel
theorem dM_three_28 : decode cM_three 28 = .ok (.iload_n 1, 1) := by decide +kernel
theorem dM_three_29 : decode cM_three 29 = .ok (.iload_n 2, 1) := by decide +kernel
theorem dM_three_30 : decode cM_three 30 = .ok (.iload_n 3, 1) := by decide +kernel
theorem dM_three_31 : decode cM_three 31 = .ok (.iload 4, 2) := by decide +kernel
theorem dM_three_33 : decode cM_three 33 = .ok (.invokevirtual 64, 3) := by decide +kernel
theorem dM_three_36 : decode cM_three 36 = .ok (.goto 4, 3) := by decide +kernel
theorem dM_three_39 : decode cM_three 39 = .ok (.iconst (-1), 1) := by decide +kernel
theorem dM_three_40 : decode cM_three 40 = .ok (.ireturn, 1) := by decide +kernel
theorem dM_than_0 : decode cM_than 0 = .ok (.iconst 0, 1) := by decide +kernel
theorem dM_than_1 : decode cM_than 1 = .ok (.istore_n 2, 1) := by decide +kernel
theorem dM_than_2 : decode cM_than 2 = .ok (.iconst 0, 1) := by decide +kernel
theorem dM_than_3 : decode cM_than 3 = .ok (.istore_n 3, 1) := by decide +kernel
theorem dM_than_4 : decode cM_than 4 = .ok (.iload_n 3, 1) := by decide +kernel
theorem dM_than_5 : decode cM_than 5 = .ok (.sipush 200, 3) := by decide +kernel
theorem dM_than_8 : decode cM_than 8 = .ok (.if_icmp .ge 37, 3) := by decide +kernel
theorem dM_than_11 : decode cM_than 11 = .ok (.aload_n 0, 1) := by decide +kernel
theorem dM_than_12 : decode cM_than 12 = .ok (.iload_n 3, 1) := by decide +kernel
theorem dM_than_13 : decode cM_than 13 = .ok (.iaload, 1) := by decide +kernel
theorem dM_than_14 : decode cM_than 14 = .ok (.aload_n 1, 1) := by decide +kernel
theorem dM_than_15 : decode cM_than 15 = .ok (.iload_n 3, 1) := by decide +kernel
theorem dM_than_16 : decode cM_than 16 = .ok (.iaload, 1) := by decide +kernel
theorem dM_than_17 : decode cM_than 17 = .ok (.if_icmp .eq 20, 3) := by decide +kernel
theorem dM_than_20 : decode cM_than 20 = .ok (.aload_n 0, 1) := by decide +kernel
theorem dM_than_21 : decode cM_than 21 = .ok (.iload_n 3, 1) := by decide +kernel
theorem dM_than_22 : decode cM_than 22 = .ok (.iaload, 1) := by decide +kernel
theorem dM_than_23 : decode cM_than 23 = .ok (.aload_n 1, 1) := by decide +kernel
theorem dM_than_24 : decode cM_than 24 = .ok (.iload_n 3, 1) := by decide +kernel
theorem dM_than_25 : decode cM_than 25 = .ok (.iaload, 1) := by decide +kernel
theorem dM_than_26 : decode cM_than 26 = .ok (.if_icmp .ge 7, 3) := by decide +kernel
theorem dM_than_29 : decode cM_than 29 = .ok (.iconst (-1), 1) := by decide +kernel
theorem dM_than_30 : decode cM_than 30 = .ok (.goto 8, 3) := by decide +kernel
theorem dM_than_33 : decode cM_than 33 = .ok (.iconst 1, 1) := by decide +kernel
theorem dM_than_34 : decode cM_than 34 = .ok (.goto 4, 3) := by decide +kernel
theorem dM_than_37 : decode cM_than 37 = .ok (.iload_n 2, 1) := by decide +kernel
theorem dM_than_38 : decode cM_than 38 = .ok (.istore_n 2, 1) := by decide +kernel
theorem dM_than_39 : decode cM_than 39 = .ok (.iinc 3 1, 3) := by decide +kernel
theorem dM_than_42 : decode cM_than 42 = .ok (.goto (-38), 3) := by decide +kernel
theorem dM_than_45 : decode cM_than 45 = .ok (.iload_n 2, 1) := by decide +kernel
theorem dM_than_46 : decode cM_than 46 = .ok (.ireturn, 1) := by decide +kernel
theorem dM_adds_0 : decode cM_adds 0 = .ok (.aload_n 0, 1) := by decide +kernel
theorem dM_adds_1 : decode cM_adds 1 = .ok (.getfield 55, 3) := by decide +kernel
theorem dM_adds_4 : decode cM_adds 4 = .ok (.aload_n 0, 1) := by decide +kernel
theorem dM_adds_5 : decode cM_adds 5 = .ok (.getfield 58, 3) := by decide +kernel
theorem dM_adds_8 : decode cM_adds 8 = .ok (.if_icmp .ne 60, 3) := by decide +kernel
theorem dM_adds_11 : decode cM_adds 11 = .ok (.iconst 0, 1) := by decide +kernel
theorem dM_adds_12 : decode cM_adds 12 = .ok (.istore_n 1, 1) := by decide +kernel
theorem dM_adds_13 : decode cM_adds 13 = .ok (.iconst 0, 1) := by decide +kernel
theorem dM_adds_14 : decode cM_adds 14 = .ok (.istore_n 2, 1) := by decide +kernel
theorem dM_adds_15 : decode cM_adds 15 = .ok (.iload_n 2, 1) := by decide +kernel
theorem dM_adds_16 : decode cM_adds 16 = .ok (.sipush 200, 3) := by decide +kernel
theorem dM_adds_19 : decode cM_adds 19 = .ok (.if_icmp .ge 40, 3) := by decide +kernel
theorem dM_adds_22 : decode cM_adds 22 = .ok (.aload_n 0, 1) := by decide +kernel
theorem dM_adds_23 : decode cM_adds 23 = .ok (.getfield 13, 3) := by decide +kernel
theorem dM_adds_26 : decode cM_adds 26 = .ok (.iload_n 2, 1) := by decide +kernel
theorem dM_adds_27 : decode cM_adds 27 = .ok (.iaload, 1) := by decide +kernel
theorem dM_adds_28 : decode cM_adds 28 = .ok (.aload_n 0, 1) := by decide +kernel
theorem dM_adds_29 : decode cM_adds 29 = .ok (.getfield 16, 3) := by decide +kernel
theorem dM_adds_32 : decode cM_adds 32 = .ok (.iload_n 2, 1) := by decide +kernel
theorem dM_adds_33 : decode cM_adds 33 = .ok (.iaload, 1) := by decide +kernel
theorem dM_adds_34 : decode cM_adds 34 = .ok (.iadd, 1) := by decide +kernel
theorem dM_adds_35 : decode cM_adds 35 = .ok (.iload_n 1, 1) := by decide +kernel
theorem dM_adds_36 : decode cM_adds 36 = .ok (.iadd, 1) := by decide +kernel
theorem dM_adds_37 : decode cM_adds 37 = .ok (.istore_n 3, 1) := by decide +kernel
theorem dM_adds_38 : decode cM_adds 38 = .ok (.aload_n 0, 1) := by decide +kernel
theorem dM_adds_39 : decode cM_adds 39 = .ok (.getfield 19, 3) := by decide +kernel
theorem dM_adds_42 : decode cM_adds 42 = .ok (.iload_n 2, 1) := by decide +kernel
theorem dM_adds_43 : decode cM_adds 43 = .ok (.iload_n 3, 1) := by decide +kernel
theorem dM_adds_44 : decode cM_adds 44 = .ok (.bipush 10, 2) := by decide +kernel
theorem dM_adds_46 : decode cM_adds 46 = .ok (.irem, 1) := by decide +kernel
theorem dM_adds_47 : decode cM_adds 47 = .ok (.iastore, 1) := by decide +kernel
theorem dM_adds_48 : decode cM_adds 48 = .ok (.iload_n 3, 1) := by decide +kernel
theorem dM_adds_49 : decode cM_adds 49 = .ok (.bipush 10, 2) := by decide +kernel
theorem dM_adds_51 : decode cM_adds 51 = .ok (.idiv, 1) := by decide +kernel
theorem dM_adds_52 : decode cM_adds 52 = .ok (.istore_n 1, 1) := by decide +kernel
theorem dM_adds_53 : decode cM_adds 53 = .ok (.iinc 2 1, 3) := by decide +kernel
theorem dM_adds_56 : decode cM_adds 56 = .ok (.goto (-41), 3) := by decide +kernel
theorem dM_adds_59 : decode cM_adds 59 = .ok (.aload_n 0, 1) := by decide +kernel
theorem dM_adds_60 : decode cM_adds 60 = .ok (.aload_n 0, 1) := by decide +kernel
theorem dM_adds_61 : decode cM_adds 61 = .ok (.getfield 55, 3) := by decide +kernel
theorem dM_adds_64 : decode cM_adds 64 = .ok (.putfield 40, 3) := by decide +kernel
theorem dM_adds_67 : decode cM_adds 67 = .ok (.return_, 1) := by decide +kernel
theorem dM_adds_68 : decode cM_adds 68 = .ok (.aload_n 0, 1) := by decide +kernel
theorem dM_adds_69 : decode cM_adds 69 = .ok (.getfield 13, 3) := by decide +kernel
theorem dM_adds_72 : decode cM_adds 72 = .ok (.aload_n 0, 1) := by decide +kernel
theorem dM_adds_73 : decode cM_adds 73 = .ok (.getfield 16, 3) := by decide +kernel
theorem dM_adds_76 : decode cM_adds 76 = .ok (.invokestatic 68, 3) := by decide +kernel
theorem dM_adds_79 : decode cM_adds 79 = .ok (.ifCond .lt 7, 3) := by decide +kernel
theorem dM_adds_82 : decode cM_adds 82 = .ok (.iconst 1, 1) := by decide +kernel
theorem dM_adds_83 : decode cM_adds 83 = .ok (.goto 4, 3) := by decide +kernel
theorem dM_adds_86 : decode cM_adds 86 = .ok (.iconst 0, 1) := by decide +kernel
theorem dM_adds_87 : decode cM_adds 87 = .ok (.istore_n 1, 1) := by decide +kernel
theorem dM_adds_88 : decode cM_adds 88 = .ok (.iconst 0, 1) := by decide +kernel
theorem dM_adds_89 : decode cM_adds 89 = .ok (.istore_n 2, 1) := by decide +kernel
theorem dM_adds_90 : decode cM_adds 90 = .ok (.iconst 0, 1) := by decide +kernel
theorem dM_adds_91 : decode cM_adds 91 = .ok (.istore_n 3, 1) := by decide +kernel
theorem dM_adds_92 : decode cM_adds 92 = .ok (.iload_n 3, 1) := by decide +kernel
theorem dM_adds_93 : decode cM_adds 93 = .ok (.sipush 200, 3) := by decide +kernel
theorem dM_adds_96 : decode cM_adds 96 = .ok (.if_icmp .ge 70, 3) := by decide +kernel
theorem dM_adds_99 : decode cM_adds 99 = .ok (.iload_n 1, 1) := by decide +kernel
theorem dM_adds_100 : decode cM_adds 100 = .ok (.ifCond .eq 19, 3) := by decide +kernel
theorem dM_adds_103 : decode cM_adds 103 = .ok (.aload_n 0, 1) := by decide +kernel
theorem dM_adds_104 : decode cM_adds 104 = .ok (.getfield 13, 3) := by decide +kernel
theorem dM_adds_107 : decode cM_adds 107 = .ok (.iload_n 3, 1) := by decide +kernel
theorem dM_adds_108 : decode cM_adds 108 = .ok (.iaload, 1) := by decide +kernel
theorem dM_adds_109 : decode cM_adds 109 = .ok (.aload_n 0, 1) := by decide +kernel
theorem dM_adds_110 : decode cM_adds 110 = .ok (.getfield 16, 3) := by decide +kernel
theorem dM_adds_113 : decode cM_adds 113 = .ok (.iload_n 3, 1) := by decide +kernel
theorem dM_adds_114 : decode cM_adds 114 = .ok (.iaload, 1) := by decide +kernel
theorem dM_adds_115 : decode cM_adds 115 = .ok (.isub, 1) := by decide +kernel
theorem dM_adds_116 : decode cM_adds 116 = .ok (.goto 16, 3) := by decide +kernel
theorem dM_adds_119 : decode cM_adds 119 = .ok (.aload_n 0, 1) := by decide +kernel
theorem dM_adds_120 : decode cM_adds 120 = .ok (.getfield 16, 3) := by decide +kernel
theorem dM_adds_123 : decode cM_adds 123 = .ok (.iload_n 3, 1) := by decide +kernel
theorem dM_adds_124 : decode cM_adds 124 = .ok (.iaload, 1) := by decide +kernel
theorem dM_adds_125 : decode cM_adds 125 = .ok (.aload_n 0, 1) := by decide +kernel
theorem dM_adds_126 : decode cM_adds 126 = .ok (.getfield 13, 3) := by decide +kernel
theorem dM_adds_129 : decode cM_adds 129 = .ok (.iload_n 3, 1) := by decide +kernel
theorem dM_adds_130 : decode cM_adds 130 = .ok (.iaload, 1) := by decide +kernel
theorem dM_adds_131 : decode cM_adds 131 = .ok (.isub, 1) := by decide +kernel
theorem dM_adds_132 : decode cM_adds 132 = .ok (.iload_n 2, 1) := by decide +kernel
theorem dM_adds_133 : decode cM_adds 133 = .ok (.isub, 1) := by decide +kernel
theorem dM_adds_134 : decode cM_adds 134 = .ok (.istore 4, 2) := by decide +kernel
theorem dM_adds_136 : decode cM_adds 136 = .ok (.iload 4, 2) := by decide +kernel
theorem dM_adds_138 : decode cM_adds 138 = .ok (.ifCond .ge 7, 3) := by decide +kernel
theorem dM_adds_141 : decode cM_adds 141 = .ok (.iconst 1, 1) := by decide +kernel
theorem dM_adds_142 : decode cM_adds 142 = .ok (.goto 4, 3) := by decide +kernel
theorem dM_adds_145 : decode cM_adds 145 = .ok (.iconst 0, 1) := by decide +kernel
theorem dM_adds_146 : decode cM_adds 146 = .ok (.istore_n 2, 1) := by decide +kernel
theorem dM_adds_147 : decode cM_adds 147 = .ok (.aload_n 0, 1) := by decide +kernel
theorem dM_adds_148 : decode cM_adds 148 = .ok (.getfield 19, 3) := by decide +kernel
theorem dM_adds_151 : decode cM_adds 151 = .ok (.iload_n 3, 1) := by decide +kernel
theorem dM_adds_152 : decode cM_adds 152 = .ok (.iload 4, 2) := by decide +kernel
theorem dM_adds_154 : decode cM_adds 154 = .ok (.bipush 10, 2) := by decide +kernel
theorem dM_adds_156 : decode cM_adds 156 = .ok (.iload_n 2, 1) := by decide +kernel
theorem dM_adds_157 : decode cM_adds 157 = .ok (.imul, 1) := by decide +kernel
theorem dM_adds_158 : decode cM_adds 158 = .ok (.iadd, 1) := by decide +kernel
theorem dM_adds_159 : decode cM_adds 159 = .ok (.iastore, 1) := by decide +kernel
theorem dM_adds_160 : decode cM_adds 160 = .ok (.iinc 3 1, 3) := by decide +kernel
theorem dM_adds_163 : decode cM_adds 163 = .ok (.goto (-71), 3) := by decide +kernel
theorem dM_adds_166 : decode cM_adds 166 = .ok (.aload_n 0, 1) := by decide +kernel
theorem dM_adds_167 : decode cM_adds 167 = .ok (.iload_n 1, 1) := by decide +kernel
theorem dM_adds_168 : decode cM_adds 168 = .ok (.ifCond .eq 10, 3) := by decide +kernel
theorem dM_adds_171 : decode cM_adds 171 = .ok (.aload_n 0, 1) := by decide +kernel
theorem dM_adds_172 : decode cM_adds 172 = .ok (.getfield 55, 3) := by decide +kernel
theorem dM_adds_175 : decode cM_adds 175 = .ok (.goto 7, 3) := by decide +kernel
theorem dM_adds_178 : decode cM_adds 178 = .ok (.aload_n 0, 1) := by decide +kernel
theorem dM_adds_179 : decode cM_adds 179 = .ok (.getfield 58, 3) := by decide +kernel
theorem dM_adds_182 : decode cM_adds 182 = .ok (.putfield 40, 3) := by decide +kernel
theorem dM_adds_185 : decode cM_adds 185 = .ok (.return_, 1) := by decide +kernel
theorem dM_sum_0 : decode cM_sum 0 = .ok (.aload_n 0, 1) := by decide +kernel
theorem dM_sum_1 : decode cM_sum 1 = .ok (.iload_n 1, 1) := by decide +kernel
theorem dM_sum_2 : decode cM_sum 2 = .ok (.iload_n 2, 1) := by decide +kernel
theorem dM_sum_3 : decode cM_sum 3 = .ok (.iload_n 3, 1) := by decide +kernel
theorem dM_sum_4 : decode cM_sum 4 = .ok (.iload 4, 2) := by decide +kernel
theorem dM_sum_6 : decode cM_sum 6 = .ok (.iload 5, 2) := by decide +kernel
theorem dM_sum_8 : decode cM_sum 8 = .ok (.iload 6, 2) := by decide +kernel
theorem dM_sum_10 : decode cM_sum 10 = .ok (.invokevirtual 72, 3) := by decide +kernel
theorem dM_sum_13 : decode cM_sum 13 = .ok (.istore 7, 2) := by decide +kernel
theorem dM_sum_15 : decode cM_sum 15 = .ok (.iload 7, 2) := by decide +kernel
theorem dM_sum_17 : decode cM_sum 17 = .ok (.ifCond .ge 6, 3) := by decide +kernel
theorem dM_sum_20 : decode cM_sum 20 = .ok (.iload 7, 2) := by decide +kernel
theorem dM_sum_22 : decode cM_sum 22 = .ok (.ireturn, 1) := by decide +kernel
theorem dM_sum_23 : decode cM_sum 23 = .ok (.aload_n 0, 1) := by decide +kernel
theorem dM_sum_24 : decode cM_sum 24 = .ok (.invokevirtual 76, 3) := by decide +kernel
theorem dM_sum_27 : decode cM_sum 27 = .ok (.aload_n 0, 1) := by decide +kernel
theorem dM_sum_28 : decode cM_sum 28 = .ok (.iload 5, 2) := by decide +kernel
theorem dM_sum_30 : decode cM_sum 30 = .ok (.iload 6, 2) := by decide +kernel
theorem dM_sum_32 : decode cM_sum 32 = .ok (.invokevirtual 79, 3) := by decide +kernel
theorem dM_sum_35 : decode cM_sum 35 = .ok (.ireturn, 1) := by decide +kernel
theorem dM_less_0 : decode cM_less 0 = .ok (.aload_n 0, 1) := by decide +kernel
theorem dM_less_1 : decode cM_less 1 = .ok (.iload_n 1, 1) := by decide +kernel
theorem dM_less_2 : decode cM_less 2 = .ok (.iload_n 2, 1) := by decide +kernel
theorem dM_less_3 : decode cM_less 3 = .ok (.iload_n 3, 1) := by decide +kernel
theorem dM_less_4 : decode cM_less 4 = .ok (.iload 4, 2) := by decide +kernel
theorem dM_less_6 : decode cM_less 6 = .ok (.iload 5, 2) := by decide +kernel
theorem dM_less_8 : decode cM_less 8 = .ok (.iload 6, 2) := by decide +kernel
theorem dM_less_10 : decode cM_less 10 = .ok (.invokevirtual 72, 3) := by decide +kernel
theorem dM_less_13 : decode cM_less 13 = .ok (.istore 7, 2) := by decide +kernel
theorem dM_less_15 : decode cM_less 15 = .ok (.iload 7, 2) := by decide +kernel
theorem dM_less_17 : decode cM_less 17 = .ok (.ifCond .ge 6, 3) := by decide +kernel
theorem dM_less_20 : decode cM_less 20 = .ok (.iload 7, 2) := by decide +kernel
theorem dM_less_22 : decode cM_less 22 = .ok (.ireturn, 1) := by decide +kernel
theorem dM_less_23 : decode cM_less 23 = .ok (.aload_n 0, 1) := by decide +kernel
theorem dM_less_24 : decode cM_less 24 = .ok (.aload_n 0, 1) := by decide +kernel
theorem dM_less_25 : decode cM_less 25 = .ok (.getfield 55, 3) := by decide +kernel
theorem dM_less_28 : decode cM_less 28 = .ok (.ifCond .ne 7, 3) := by decide +kernel
theorem dM_less_31 : decode cM_less 31 = .ok (.iconst 1, 1) := by decide +kernel
theorem dM_less_32 : decode cM_less 32 = .ok (.goto 4, 3) := by decide +kernel
theorem dM_less_35 : decode cM_less 35 = .ok (.iconst 0, 1) := by decide +kernel
theorem dM_less_36 : decode cM_less 36 = .ok (.putfield 55, 3) := by decide +kernel
theorem dM_less_39 : decode cM_less 39 = .ok (.aload_n 0, 1) := by decide +kernel
theorem dM_less_40 : decode cM_less 40 = .ok (.invokevirtual 76, 3) := by decide +kernel
theorem dM_less_43 : decode cM_less 43 = .ok (.aload_n 0, 1) := by decide +kernel
theorem dM_less_44 : decode cM_less 44 = .ok (.iload 5, 2) := by decide +kernel
theorem dM_less_46 : decode cM_less 46 = .ok (.iload 6, 2) := by decide +kernel
theorem dM_less_48 : decode cM_less 48 = .ok (.invokevirtual 79, 3) := by decide +kernel
theorem dM_less_51 : decode cM_less 51 = .ok (.ireturn, 1) := by decide +kernel
theorem dM_product_0 : decode cM_product 0 = .ok (.aload_n 0, 1) := by decide +kernel
theorem dM_product_1 : decode cM_product 1 = .ok (.iload_n 1, 1) := by decide +kernel
theorem dM_product_2 : decode cM_product 2 = .ok (.iload_n 2, 1) := by decide +kernel
theorem dM_product_3 : decode cM_product 3 = .ok (.iload_n 3, 1) := by decide +kernel
theorem dM_product_4 : decode cM_product 4 = .ok (.iload 4, 2) := by decide +kernel
theorem dM_product_6 : decode cM_product 6 = .ok (.iload 5, 2) := by decide +kernel
theorem dM_product_8 : decode cM_product 8 = .ok (.iload 6, 2) := by decide +kernel
theorem dM_product_10 : decode cM_product 10 = .ok (.invokevirtual 72, 3) := by decide +kernel
theorem dM_product_13 : decode cM_product 13 = .ok (.istore 7, 2) := by decide +kernel
theorem dM_product_15 : decode cM_product 15 = .ok (.iload 7, 2) := by decide +kernel
theorem dM_product_17 : decode cM_product 17 = .ok (.ifCond .ge 6, 3) := by decide +kernel
theorem dM_product_20 : decode cM_product 20 = .ok (.iload 7, 2) := by decide +kernel
theorem dM_product_22 : decode cM_product 22 = .ok (.ireturn, 1) := by decide +kernel
theorem dM_product_23 : decode cM_product 23 = .ok (.iconst 0, 1) := by decide +kernel
theorem dM_product_24 : decode cM_product 24 = .ok (.istore 8, 2) := by decide +kernel
theorem dM_product_26 : decode cM_product 26 = .ok (.iload 8, 2) := by decide +kernel
theorem dM_product_28 : decode cM_product 28 = .ok (.sipush 200, 3) := by decide +kernel
theorem dM_product_31 : decode cM_product 31 = .ok (.if_icmp .ge 17, 3) := by decide +kernel
theorem dM_product_34 : decode cM_product 34 = .ok (.aload_n 0, 1) := by decide +kernel
theorem dM_product_35 : decode cM_product 35 = .ok (.getfield 19, 3) := by decide +kernel
theorem dM_product_38 : decode cM_product 38 = .ok (.iload 8, 2) := by decide +kernel
theorem dM_product_40 : decode cM_product 40 = .ok (.iconst 0, 1) := by decide +kernel
theorem dM_product_41 : decode cM_product 41 = .ok (.iastore, 1) := by decide +kernel
theorem dM_product_42 : decode cM_product 42 = .ok (.iinc 8 1, 3) := by decide +kernel
theorem dM_product_45 : decode cM_product 45 = .ok (.goto (-19), 3) := by decide +kernel
theorem dM_product_48 : decode cM_product 48 = .ok (.iconst 0, 1) := by decide +kernel
theorem dM_product_49 : decode cM_product 49 = .ok (.istore 8, 2) := by decide +kernel
theorem dM_product_51 : decode cM_product 51 = .ok (.iload 8, 2) := by decide +kernel
theorem dM_product_53 : decode cM_product 53 = .ok (.bipush 31, 2) := by decide +kernel
theorem dM_product_55 : decode cM_product 55 = .ok (.if_icmp .ge 53, 3) := by decide +kernel
theorem dM_product_58 : decode cM_product 58 = .ok (.iconst 0, 1) := by decide +kernel
theorem dM_product_59 : decode cM_product 59 = .ok (.istore 9, 2) := by decide +kernel
theorem dM_product_61 : decode cM_product 61 = .ok (.iload 9, 2) := by decide +kernel
theorem dM_product_63 : decode cM_product 63 = .ok (.bipush 31, 2) := by decide +kernel
theorem dM_product_65 : decode cM_product 65 = .ok (.if_icmp .ge 37, 3) := by decide +kernel
theorem dM_product_68 : decode cM_product 68 = .ok (.aload_n 0, 1) := by decide +kernel
theorem dM_product_69 : decode cM_product 69 = .ok (.getfield 19, 3) := by decide +kernel
theorem dM_product_72 : decode cM_product 72 = .ok (.iload 8, 2) := by decide +kernel
theorem dM_product_74 : decode cM_product 74 = .ok (.iload 9, 2) := by decide +kernel
theorem dM_product_76 : decode cM_product 76 = .ok (.iadd, 1) := by decide +kernel
theorem dM_product_77 : decode cM_product 77 = .ok (.dup2, 1) := by decide +kernel
theorem dM_product_78 : decode cM_product 78 = .ok (.iaload, 1) := by decide +kernel
theorem dM_product_79 : decode cM_product 79 = .ok (.aload_n 0, 1) := by decide +kernel
theorem dM_product_80 : decode cM_product 80 = .ok (.getfield 13, 3) := by decide +kernel
theorem dM_product_83 : decode cM_product 83 = .ok (.iload 8, 2) := by decide +kernel
theorem dM_product_85 : decode cM_product 85 = .ok (.iaload, 1) := by decide +kernel
theorem dM_product_86 : decode cM_product 86 = .ok (.aload_n 0, 1) := by decide +kernel
theorem dM_product_87 : decode cM_product 87 = .ok (.getfield 16, 3) := by decide +kernel
theorem dM_product_90 : decode cM_product 90 = .ok (.iload 9, 2) := by decide +kernel
theorem dM_product_92 : decode cM_product 92 = .ok (.iaload, 1) := by decide +kernel
theorem dM_product_93 : decode cM_product 93 = .ok (.imul, 1) := by decide +kernel
theorem dM_product_94 : decode cM_product 94 = .ok (.iadd, 1) := by decide +kernel
theorem dM_product_95 : decode cM_product 95 = .ok (.iastore, 1) := by decide +kernel
theorem dM_product_96 : decode cM_product 96 = .ok (.iinc 9 1, 3) := by decide +kernel
theorem dM_product_99 : decode cM_product 99 = .ok (.goto (-38), 3) := by decide +kernel
theorem dM_product_102 : decode cM_product 102 = .ok (.iinc 8 1, 3) := by decide +kernel
theorem dM_product_105 : decode cM_product 105 = .ok (.goto (-54), 3) := by decide +kernel
theorem dM_product_108 : decode cM_product 108 = .ok (.iconst 0, 1) := by decide +kernel
theorem dM_product_109 : decode cM_product 109 = .ok (.istore 8, 2) := by decide +kernel
theorem dM_product_111 : decode cM_product 111 = .ok (.iload 8, 2) := by decide +kernel
theorem dM_product_113 : decode cM_product 113 = .ok (.iconst 1, 1) := by decide +kernel
theorem dM_product_114 : decode cM_product 114 = .ok (.iadd, 1) := by decide +kernel
theorem dM_product_115 : decode cM_product 115 = .ok (.sipush 200, 3) := by decide +kernel
theorem dM_product_118 : decode cM_product 118 = .ok (.if_icmp .ge 48, 3) := by decide +kernel
theorem dM_product_121 : decode cM_product 121 = .ok (.aload_n 0, 1) := by decide +kernel
theorem dM_product_122 : decode cM_product 122 = .ok (.getfield 19, 3) := by decide +kernel
theorem dM_product_125 : decode cM_product 125 = .ok (.iload 8, 2) := by decide +kernel
theorem dM_product_127 : decode cM_product 127 = .ok (.iconst 1, 1) := by decide +kernel
theorem dM_product_128 : decode cM_product 128 = .ok (.iadd, 1) := by decide +kernel
theorem dM_product_129 : decode cM_product 129 = .ok (.dup2, 1) := by decide +kernel
theorem dM_product_130 : decode cM_product 130 = .ok (.iaload, 1) := by decide +kernel
theorem dM_product_131 : decode cM_product 131 = .ok (.aload_n 0, 1) := by decide +kernel
theorem dM_product_132 : decode cM_product 132 = .ok (.getfield 19, 3) := by decide +kernel
theorem dM_product_135 : decode cM_product 135 = .ok (.iload 8, 2) := by decide +kernel
theorem dM_product_137 : decode cM_product 137 = .ok (.iaload, 1) := by decide +kernel
theorem dM_product_138 : decode cM_product 138 = .ok (.bipush 10, 2) := by decide +kernel
theorem dM_product_140 : decode cM_product 140 = .ok (.idiv, 1) := by decide +kernel
theorem dM_product_141 : decode cM_product 141 = .ok (.iadd, 1) := by decide +kernel
theorem dM_product_142 : decode cM_product 142 = .ok (.iastore, 1) := by decide +kernel
theorem dM_product_143 : decode cM_product 143 = .ok (.aload_n 0, 1) := by decide +kernel
theorem dM_product_144 : decode cM_product 144 = .ok (.getfield 19, 3) := by decide +kernel
theorem dM_product_147 : decode cM_product 147 = .ok (.iload 8, 2) := by decide +kernel
theorem dM_product_149 : decode cM_product 149 = .ok (.aload_n 0, 1) := by decide +kernel
theorem dM_product_150 : decode cM_product 150 = .ok (.getfield 19, 3) := by decide +kernel
theorem dM_product_153 : decode cM_product 153 = .ok (.iload 8, 2) := by decide +kernel
theorem dM_product_155 : decode cM_product 155 = .ok (.iaload, 1) := by decide +kernel
theorem dM_product_156 : decode cM_product 156 = .ok (.bipush 10, 2) := by decide +kernel
theorem dM_product_158 : decode cM_product 158 = .ok (.irem, 1) := by decide +kernel
theorem dM_product_159 : decode cM_product 159 = .ok (.iastore, 1) := by decide +kernel
theorem dM_product_160 : decode cM_product 160 = .ok (.iinc 8 1, 3) := by decide +kernel
theorem dM_product_163 : decode cM_product 163 = .ok (.goto (-52), 3) := by decide +kernel
theorem dM_product_166 : decode cM_product 166 = .ok (.aload_n 0, 1) := by decide +kernel
theorem dM_product_167 : decode cM_product 167 = .ok (.aload_n 0, 1) := by decide +kernel
theorem dM_product_168 : decode cM_product 168 = .ok (.getfield 55, 3) := by decide +kernel
theorem dM_product_171 : decode cM_product 171 = .ok (.aload_n 0, 1) := by decide +kernel
theorem dM_product_172 : decode cM_product 172 = .ok (.getfield 58, 3) := by decide +kernel
theorem dM_product_175 : decode cM_product 175 = .ok (.if_icmp .eq 7, 3) := by decide +kernel
theorem dM_product_178 : decode cM_product 178 = .ok (.iconst 1, 1) := by decide +kernel
theorem dM_product_179 : decode cM_product 179 = .ok (.goto 4, 3) := by decide +kernel
theorem dM_product_182 : decode cM_product 182 = .ok (.iconst 0, 1) := by decide +kernel
theorem dM_product_183 : decode cM_product 183 = .ok (.putfield 40, 3) := by decide +kernel
theorem dM_product_186 : decode cM_product 186 = .ok (.aload_n 0, 1) := by decide +kernel
theorem dM_product_187 : decode cM_product 187 = .ok (.iload 5, 2) := by decide +kernel
theorem dM_product_189 : decode cM_product 189 = .ok (.iload 6, 2) := by decide +kernel
theorem dM_product_191 : decode cM_product 191 = .ok (.invokevirtual 79, 3) := by decide +kernel
theorem dM_product_194 : decode cM_product 194 = .ok (.ireturn, 1) := by decide +kernel
theorem dM_quotient_0 : decode cM_quotient 0 = .ok (.aload_n 0, 1) := by decide +kernel
theorem dM_quotient_1 : decode cM_quotient 1 = .ok (.iload_n 1, 1) := by decide +kernel
theorem dM_quotient_2 : decode cM_quotient 2 = .ok (.iload_n 2, 1) := by decide +kernel
theorem dM_quotient_3 : decode cM_quotient 3 = .ok (.iload_n 3, 1) := by decide +kernel
theorem dM_quotient_4 : decode cM_quotient 4 = .ok (.iload 4, 2) := by decide +kernel
theorem dM_quotient_6 : decode cM_quotient 6 = .ok (.iload 5, 2) := by decide +kernel
theorem dM_quotient_8 : decode cM_quotient 8 = .ok (.iload 6, 2) := by decide +kernel
theorem dM_quotient_10 : decode cM_quotient 10 = .ok (.invokevirtual 72, 3) := by decide +kernel
theorem dM_quotient_13 : decode cM_quotient 13 = .ok (.istore 7, 2) := by decide +kernel
theorem dM_quotient_15 : decode cM_quotient 15 = .ok (.iload 7, 2) := by decide +kernel
theorem dM_quotient_17 : decode cM_quotient 17 = .ok (.ifCond .ge 6, 3) := by decide +kernel
theorem dM_quotient_20 : decode cM_quotient 20 = .ok (.iload 7, 2) := by decide +kernel
theorem dM_quotient_22 : decode cM_quotient 22 = .ok (.ireturn, 1) := by decide +kernel
theorem dM_quotient_23 : decode cM_quotient 23 = .ok (.aload_n 0, 1) := by decide +kernel
theorem dM_quotient_24 : decode cM_quotient 24 = .ok (.getfield 13, 3) := by decide +kernel
theorem dM_quotient_27 : decode cM_quotient 27 = .ok (.invokestatic 36, 3) := by decide +kernel
theorem dM_quotient_30 : decode cM_quotient 30 = .ok (.ifCond .eq 6, 3) := by decide +kernel
theorem dM_quotient_33 : decode cM_quotient 33 = .ok (.bipush (-3), 2) := by decide +kernel
theorem dM_quotient_35 : decode cM_quotient 35 = .ok (.ireturn, 1) := by decide +kernel
theorem dM_quotient_36 : decode cM_quotient 36 = .ok (.iconst 0, 1) := by decide +kernel
theorem dM_quotient_37 : decode cM_quotient 37 = .ok (.istore 8, 2) := by decide +kernel
theorem dM_quotient_39 : decode cM_quotient 39 = .ok (.iload 8, 2) := by decide +kernel
theorem dM_quotient_41 : decode cM_quotient 41 = .ok (.sipush 200, 3) := by decide +kernel
theorem dM_quotient_44 : decode cM_quotient 44 = .ok (.if_icmp .ge 25, 3) := by decide +kernel
theorem dM_quotient_47 : decode cM_quotient 47 = .ok (.aload_n 0, 1) := by decide +kernel
theorem dM_quotient_48 : decode cM_quotient 48 = .ok (.getfield 19, 3) := by decide +kernel
theorem dM_quotient_51 : decode cM_quotient 51 = .ok (.iload 8, 2) := by decide +kernel
theorem dM_quotient_53 : decode cM_quotient 53 = .ok (.iconst 0, 1) := by decide +kernel
theorem dM_quotient_54 : decode cM_quotient 54 = .ok (.iastore, 1) := by decide +kernel
theorem dM_quotient_55 : decode cM_quotient 55 = .ok (.aload_n 0, 1) := by decide +kernel
theorem dM_quotient_56 : decode cM_quotient 56 = .ok (.getfield 22, 3) := by decide +kernel
theorem dM_quotient_59 : decode cM_quotient 59 = .ok (.iload 8, 2) := by decide +kernel
theorem dM_quotient_61 : decode cM_quotient 61 = .ok (.iconst 0, 1) := by decide +kernel
theorem dM_quotient_62 : decode cM_quotient 62 = .ok (.iastore, 1) := by decide +kernel
theorem dM_quotient_63 : decode cM_quotient 63 = .ok (.iinc 8 1, 3) := by decide +kernel
theorem dM_quotient_66 : decode cM_quotient 66 = .ok (.goto (-27), 3) := by decide +kernel
theorem dM_quotient_69 : decode cM_quotient 69 = .ok (.bipush 30, 2) := by decide +kernel
theorem dM_quotient_71 : decode cM_quotient 71 = .ok (.istore 8, 2) := by decide +kernel
theorem dM_quotient_73 : decode cM_quotient 73 = .ok (.iload 8, 2) := by decide +kernel
theorem dM_quotient_75 : decode cM_quotient 75 = .ok (.ifCond .lt 162, 3) := by decide +kernel
theorem dM_quotient_78 : decode cM_quotient 78 = .ok (.sipush 199, 3) := by decide +kernel
theorem dM_quotient_81 : decode cM_quotient 81 = .ok (.istore 9, 2) := by decide +kernel
theorem dM_quotient_83 : decode cM_quotient 83 = .ok (.iload 9, 2) := by decide +kernel
theorem dM_quotient_85 : decode cM_quotient 85 = .ok (.ifCond .le 25, 3) := by decide +kernel
theorem dM_quotient_88 : decode cM_quotient 88 = .ok (.aload_n 0, 1) := by decide +kernel
theorem dM_quotient_89 : decode cM_quotient 89 = .ok (.getfield 22, 3) := by decide +kernel
theorem dM_quotient_92 : decode cM_quotient 92 = .ok (.iload 9, 2) := by decide +kernel
theorem dM_quotient_94 : decode cM_quotient 94 = .ok (.aload_n 0, 1) := by decide +kernel
theorem dM_quotient_95 : decode cM_quotient 95 = .ok (.getfield 22, 3) := by decide +kernel
theorem dM_quotient_98 : decode cM_quotient 98 = .ok (.iload 9, 2) := by decide +kernel
theorem dM_quotient_100 : decode cM_quotient 100 = .ok (.iconst 1, 1) := by decide +kernel
theorem dM_quotient_101 : decode cM_quotient 101 = .ok (.isub, 1) := by decide +kernel
theorem dM_quotient_102 : decode cM_quotient 102 = .ok (.iaload, 1) := by decide +kernel
theorem dM_quotient_103 : decode cM_quotient 103 = .ok (.iastore, 1) := by decide +kernel
theorem dM_quotient_104 : decode cM_quotient 104 = .ok (.iinc 9 (-1), 3) := by decide +kernel
theorem dM_quotient_107 : decode cM_quotient 107 = .ok (.goto (-24), 3) := by decide +kernel
theorem dM_quotient_110 : decode cM_quotient 110 = .ok (.aload_n 0, 1) := by decide +kernel
theorem dM_quotient_111 : decode cM_quotient 111 = .ok (.getfield 22, 3) := by decide +kernel
theorem dM_quotient_114 : decode cM_quotient 114 = .ok (.iconst 0, 1) := by decide +kernel
theorem dM_quotient_115 : decode cM_quotient 115 = .ok (.aload_n 0, 1) := by decide +kernel
theorem dM_quotient_116 : decode cM_quotient 116 = .ok (.getfield 16, 3) := by decide +kernel
theorem dM_quotient_119 : decode cM_quotient 119 = .ok (.iload 8, 2) := by decide +kernel
theorem dM_quotient_121 : decode cM_quotient 121 = .ok (.iaload, 1) := by decide +kernel
theorem dM_quotient_122 : decode cM_quotient 122 = .ok (.iastore, 1) := by decide +kernel
theorem dM_quotient_123 : decode cM_quotient 123 = .ok (.iconst 0, 1) := by decide +kernel
theorem dM_quotient_124 : decode cM_quotient 124 = .ok (.istore 9, 2) := by decide +kernel
theorem dM_quotient_126 : decode cM_quotient 126 = .ok (.iload 9, 2) := by decide +kernel
theorem dM_quotient_128 : decode cM_quotient 128 = .ok (.bipush 9, 2) := by decide +kernel
theorem dM_quotient_130 : decode cM_quotient 130 = .ok (.if_icmp .ge 101, 3) := by decide +kernel
theorem dM_quotient_133 : decode cM_quotient 133 = .ok (.aload_n 0, 1) := by decide +kernel
theorem dM_quotient_134 : decode cM_quotient 134 = .ok (.getfield 22, 3) := by decide +kernel
theorem dM_quotient_137 : decode cM_quotient 137 = .ok (.aload_n 0, 1) := by decide +kernel
theorem dM_quotient_138 : decode cM_quotient 138 = .ok (.getfield 13, 3) := by decide +kernel
theorem dM_quotient_141 : decode cM_quotient 141 = .ok (.invokestatic 68, 3) := by decide +kernel
theorem dM_quotient_144 : decode cM_quotient 144 = .ok (.ifCond .lt 87, 3) := by decide +kernel
theorem dM_quotient_147 : decode cM_quotient 147 = .ok (.iconst 0, 1) := by decide +kernel
theorem dM_quotient_148 : decode cM_quotient 148 = .ok (.istore 10, 2) := by decide +kernel
theorem dM_quotient_150 : decode cM_quotient 150 = .ok (.iconst 0, 1) := by decide +kernel
theorem dM_quotient_151 : decode cM_quotient 151 = .ok (.istore 11, 2) := by decide +kernel
theorem dM_quotient_153 : decode cM_quotient 153 = .ok (.iload 11, 2) := by decide +kernel
theorem dM_quotient_155 : decode cM_quotient 155 = .ok (.sipush 200, 3) := by decide +kernel
theorem dM_quotient_158 : decode cM_quotient 158 = .ok (.if_icmp .ge 56, 3) := by decide +kernel
theorem dM_quotient_161 : decode cM_quotient 161 = .ok (.aload_n 0, 1) := by decide +kernel
theorem dM_quotient_162 : decode cM_quotient 162 = .ok (.getfield 22, 3) := by decide +kernel
theorem dM_quotient_165 : decode cM_quotient 165 = .ok (.iload 11, 2) := by decide +kernel
theorem dM_quotient_167 : decode cM_quotient 167 = .ok (.iaload, 1) := by decide +kernel
theorem dM_quotient_168 : decode cM_quotient 168 = .ok (.aload_n 0, 1) := by decide +kernel
theorem dM_quotient_169 : decode cM_quotient 169 = .ok (.getfield 13, 3) := by decide +kernel
theorem dM_quotient_172 : decode cM_quotient 172 = .ok (.iload 11, 2) := by decide +kernel
theorem dM_quotient_174 : decode cM_quotient 174 = .ok (.iaload, 1) := by decide +kernel
theorem dM_quotient_175 : decode cM_quotient 175 = .ok (.isub, 1) := by decide +kernel
theorem dM_quotient_176 : decode cM_quotient 176 = .ok (.iload 10, 2) := by decide +kernel
theorem dM_quotient_178 : decode cM_quotient 178 = .ok (.isub, 1) := by decide +kernel
theorem dM_quotient_179 : decode cM_quotient 179 = .ok (.istore 12, 2) := by decide +kernel
theorem dM_quotient_181 : decode cM_quotient 181 = .ok (.iload 12, 2) := by decide +kernel
theorem dM_quotient_183 : decode cM_quotient 183 = .ok (.ifCond .ge 7, 3) := by decide +kernel
theorem dM_quotient_186 : decode cM_quotient 186 = .ok (.iconst 1, 1) := by decide +kernel
theorem dM_quotient_187 : decode cM_quotient 187 = .ok (.goto 4, 3) := by decide +kernel
theorem dM_quotient_190 : decode cM_quotient 190 = .ok (.iconst 0, 1) := by decide +kernel
theorem dM_quotient_191 : decode cM_quotient 191 = .ok (.istore 10, 2) := by decide +kernel
theorem dM_quotient_193 : decode cM_quotient 193 = .ok (.aload_n 0, 1) := by decide +kernel
theorem dM_quotient_194 : decode cM_quotient 194 = .ok (.getfield 22, 3) := by decide +kernel
theorem dM_quotient_197 : decode cM_quotient 197 = .ok (.iload 11, 2) := by decide +kernel
theorem dM_quotient_199 : decode cM_quotient 199 = .ok (.iload 12, 2) := by decide +kernel
theorem dM_quotient_201 : decode cM_quotient 201 = .ok (.bipush 10, 2) := by decide +kernel
theorem dM_quotient_203 : decode cM_quotient 203 = .ok (.iload 10, 2) := by decide +kernel
theorem dM_quotient_205 : decode cM_quotient 205 = .ok (.imul, 1) := by decide +kernel
theorem dM_quotient_206 : decode cM_quotient 206 = .ok (.iadd, 1) := by decide +kernel
theorem dM_quotient_207 : decode cM_quotient 207 = .ok (.iastore, 1) := by decide +kernel
theorem dM_quotient_208 : decode cM_quotient 208 = .ok (.iinc 11 1, 3) := by decide +kernel
theorem dM_quotient_211 : decode cM_quotient 211 = .ok (.goto (-58), 3) := by decide +kernel
theorem dM_quotient_214 : decode cM_quotient 214 = .ok (.aload_n 0, 1) := by decide +kernel
theorem dM_quotient_215 : decode cM_quotient 215 = .ok (.getfield 19, 3) := by decide +kernel
theorem dM_quotient_218 : decode cM_quotient 218 = .ok (.iload 8, 2) := by decide +kernel
theorem dM_quotient_220 : decode cM_quotient 220 = .ok (.dup2, 1) := by decide +kernel
theorem dM_quotient_221 : decode cM_quotient 221 = .ok (.iaload, 1) := by decide +kernel
theorem dM_quotient_222 : decode cM_quotient 222 = .ok (.iconst 1, 1) := by decide +kernel
theorem dM_quotient_223 : decode cM_quotient 223 = .ok (.iadd, 1) := by decide +kernel
theorem dM_quotient_224 : decode cM_quotient 224 = .ok (.iastore, 1) := by decide +kernel
theorem dM_quotient_225 : decode cM_quotient 225 = .ok (.iinc 9 1, 3) := by decide +kernel
theorem dM_quotient_228 : decode cM_quotient 228 = .ok (.goto (-102), 3) := by decide +kernel
theorem dM_quotient_231 : decode cM_quotient 231 = .ok (.iinc 8 (-1), 3) := by decide +kernel
theorem dM_quotient_234 : decode cM_quotient 234 = .ok (.goto (-161), 3) := by decide +kernel
theorem dM_quotient_237 : decode cM_quotient 237 = .ok (.aload_n 0, 1) := by decide +kernel
theorem dM_quotient_238 : decode cM_quotient 238 = .ok (.aload_n 0, 1) := by decide +kernel
theorem dM_quotient_239 : decode cM_quotient 239 = .ok (.getfield 55, 3) := by decide +kernel
theorem dM_quotient_242 : decode cM_quotient 242 = .ok (.aload_n 0, 1) := by decide +kernel
theorem dM_quotient_243 : decode cM_quotient 243 = .ok (.getfield 58, 3) := by decide +kernel
theorem dM_quotient_246 : decode cM_quotient 246 = .ok (.if_icmp .eq 7, 3) := by decide +kernel
theorem dM_quotient_249 : decode cM_quotient 249 = .ok (.iconst 1, 1) := by decide +kernel
theorem dM_quotient_250 : decode cM_quotient 250 = .ok (.goto 4, 3) := by decide +kernel
theorem dM_quotient_253 : decode cM_quotient 253 = .ok (.iconst 0, 1) := by decide +kernel
theorem dM_quotient_254 : decode cM_quotient 254 = .ok (.putfield 40, 3) := by decide +kernel
theorem dM_quotient_257 : decode cM_quotient 257 = .ok (.aload_n 0, 1) := by decide +kernel
theorem dM_quotient_258 : decode cM_quotient 258 = .ok (.iload 5, 2) := by decide +kernel
theorem dM_quotient_260 : decode cM_quotient 260 = .ok (.iload 6, 2) := by decide +kernel
theorem dM_quotient_262 : decode cM_quotient 262 = .ok (.invokevirtual 79, 3) := by decide +kernel
theorem dM_quotient_265 : decode cM_quotient 265 = .ok (.ireturn, 1) := by decide +kernel
theorem dM_shift_0 : decode cM_shift 0 = .ok (.iload_n 1, 1) := by decide +kernel
theorem dM_shift_1 : decode cM_shift 1 = .ok (.iload_n 2, 1) := by decide +kernel
theorem dM_shift_2 : decode cM_shift 2 = .ok (.invokestatic 61, 3) := by decide +kernel
theorem dM_shift_5 : decode cM_shift 5 = .ok (.ifCond .eq 37, 3) := by decide +kernel
theorem dM_shift_8 : decode cM_shift 8 = .ok (.iload 5, 2) := by decide +kernel
theorem dM_shift_10 : decode cM_shift 10 = .ok (.iload 6, 2) := by decide +kernel
theorem dM_shift_12 : decode cM_shift 12 = .ok (.invokestatic 61, 3) := by decide +kernel
theorem dM_shift_15 : decode cM_shift 15 = .ok (.ifCond .eq 27, 3) := by decide +kernel
theorem dM_shift_18 : decode cM_shift 18 = .ok (.iload_n 3, 1) := by decide +kernel
theorem dM_shift_19 : decode cM_shift 19 = .ok (.bipush (-99), 2) := by decide +kernel
theorem dM_shift_21 : decode cM_shift 21 = .ok (.if_icmp .lt 21, 3) := by decide +kernel
theorem dM_shift_24 : decode cM_shift 24 = .ok (.iload_n 3, 1) := by decide +kernel
theorem dM_shift_25 : decode cM_shift 25 = .ok (.bipush 99, 2) := by decide +kernel
theorem dM_shift_27 : decode cM_shift 27 = .ok (.if_icmp .gt 15, 3) := by decide +kernel
theorem dM_shift_30 : decode cM_shift 30 = .ok (.iload 4, 2) := by decide +kernel
theorem dM_shift_32 : decode cM_shift 32 = .ok (.ifCond .lt 10, 3) := by decide +kernel
theorem dM_shift_35 : decode cM_shift 35 = .ok (.iload 4, 2) := by decide +kernel
theorem dM_shift_37 : decode cM_shift 37 = .ok (.bipush 9, 2) := by decide +kernel
theorem dM_shift_39 : decode cM_shift 39 = .ok (.if_icmp .le 5, 3) := by decide +kernel
theorem dM_shift_42 : decode cM_shift 42 = .ok (.iconst (-1), 1) := by decide +kernel
theorem dM_shift_43 : decode cM_shift 43 = .ok (.ireturn, 1) := by decide +kernel
theorem dM_shift_44 : decode cM_shift 44 = .ok (.aload_n 0, 1) := by decide +kernel
theorem dM_shift_45 : decode cM_shift 45 = .ok (.iload_n 1, 1) := by decide +kernel
theorem dM_shift_46 : decode cM_shift 46 = .ok (.iload_n 2, 1) := by decide +kernel
theorem dM_shift_47 : decode cM_shift 47 = .ok (.aload_n 0, 1) := by decide +kernel
theorem dM_shift_48 : decode cM_shift 48 = .ok (.getfield 13, 3) := by decide +kernel
theorem dM_shift_51 : decode cM_shift 51 = .ok (.invokevirtual 51, 3) := by decide +kernel
theorem dM_shift_54 : decode cM_shift 54 = .ok (.istore 7, 2) := by decide +kernel
theorem dM_shift_56 : decode cM_shift 56 = .ok (.iload 7, 2) := by decide +kernel
theorem dM_shift_58 : decode cM_shift 58 = .ok (.ifCond .ne 6, 3) := by decide +kernel
theorem dM_shift_61 : decode cM_shift 61 = .ok (.bipush (-2), 2) := by decide +kernel
theorem dM_shift_63 : decode cM_shift 63 = .ok (.ireturn, 1) := by decide +kernel
theorem dM_shift_64 : decode cM_shift 64 = .ok (.aload_n 0, 1) := by decide +kernel
theorem dM_shift_65 : decode cM_shift 65 = .ok (.iload 7, 2) := by decide +kernel
theorem dM_shift_67 : decode cM_shift 67 = .ok (.iconst 2, 1) := by decide +kernel
theorem dM_shift_68 : decode cM_shift 68 = .ok (.if_icmp .ne 7, 3) := by decide +kernel
theorem dM_shift_71 : decode cM_shift 71 = .ok (.iconst 1, 1) := by decide +kernel
theorem dM_shift_72 : decode cM_shift 72 = .ok (.goto 4, 3) := by decide +kernel
theorem dM_shift_75 : decode cM_shift 75 = .ok (.iconst 0, 1) := by decide +kernel
theorem dM_shift_76 : decode cM_shift 76 = .ok (.putfield 40, 3) := by decide +kernel
theorem dM_shift_79 : decode cM_shift 79 = .ok (.iconst 0, 1) := by decide +kernel
theorem dM_shift_80 : decode cM_shift 80 = .ok (.istore 8, 2) := by decide +kernel
theorem dM_shift_82 : decode cM_shift 82 = .ok (.iload 8, 2) := by decide +kernel
theorem dM_shift_84 : decode cM_shift 84 = .ok (.sipush 200, 3) := by decide +kernel
theorem dM_shift_87 : decode cM_shift 87 = .ok (.if_icmp .ge 17, 3) := by decide +kernel
theorem dM_shift_90 : decode cM_shift 90 = .ok (.aload_n 0, 1) := by decide +kernel
theorem dM_shift_91 : decode cM_shift 91 = .ok (.getfield 19, 3) := by decide +kernel
theorem dM_shift_94 : decode cM_shift 94 = .ok (.iload 8, 2) := by decide +kernel
theorem dM_shift_96 : decode cM_shift 96 = .ok (.iconst 0, 1) := by decide +kernel
theorem dM_shift_97 : decode cM_shift 97 = .ok (.iastore, 1) := by decide +kernel
theorem dM_shift_98 : decode cM_shift 98 = .ok (.iinc 8 1, 3) := by decide +kernel
theorem dM_shift_101 : decode cM_shift 101 = .ok (.goto (-19), 3) := by decide +kernel
theorem dM_shift_104 : decode cM_shift 104 = .ok (.iload_n 3, 1) := by decide +kernel
theorem dM_shift_105 : decode cM_shift 105 = .ok (.ifCond .lt 38, 3) := by decide +kernel
theorem dM_shift_108 : decode cM_shift 108 = .ok (.iconst 0, 1) := by decide +kernel
theorem dM_shift_109 : decode cM_shift 109 = .ok (.istore 8, 2) := by decide +kernel
theorem dM_shift_111 : decode cM_shift 111 = .ok (.iload 8, 2) := by decide +kernel
theorem dM_shift_113 : decode cM_shift 113 = .ok (.bipush 31, 2) := by decide +kernel
theorem dM_shift_115 : decode cM_shift 115 = .ok (.if_icmp .ge 25, 3) := by decide +kernel
theorem dM_shift_118 : decode cM_shift 118 = .ok (.aload_n 0, 1) := by decide +kernel
theorem dM_shift_119 : decode cM_shift 119 = .ok (.getfield 19, 3) := by decide +kernel
theorem dM_shift_122 : decode cM_shift 122 = .ok (.iload 8, 2) := by decide +kernel
theorem dM_shift_124 : decode cM_shift 124 = .ok (.iload_n 3, 1) := by decide +kernel
theorem dM_shift_125 : decode cM_shift 125 = .ok (.iadd, 1) := by decide +kernel
theorem dM_shift_126 : decode cM_shift 126 = .ok (.aload_n 0, 1) := by decide +kernel
theorem dM_shift_127 : decode cM_shift 127 = .ok (.getfield 13, 3) := by decide +kernel
theorem dM_shift_130 : decode cM_shift 130 = .ok (.iload 8, 2) := by decide +kernel
theorem dM_shift_132 : decode cM_shift 132 = .ok (.iaload, 1) := by decide +kernel
theorem dM_shift_133 : decode cM_shift 133 = .ok (.iastore, 1) := by decide +kernel
theorem dM_shift_134 : decode cM_shift 134 = .ok (.iinc 8 1, 3) := by decide +kernel
theorem dM_shift_137 : decode cM_shift 137 = .ok (.goto (-26), 3) := by decide +kernel
theorem dM_shift_140 : decode cM_shift 140 = .ok (.goto 69, 3) := by decide +kernel
theorem dM_shift_143 : decode cM_shift 143 = .ok (.aload_n 0, 1) := by decide +kernel
theorem dM_shift_144 : decode cM_shift 144 = .ok (.getfield 13, 3) := by decide +kernel
theorem dM_shift_147 : decode cM_shift 147 = .ok (.iload_n 3, 1) := by decide +kernel
theorem dM_shift_148 : decode cM_shift 148 = .ok (.ineg, 1) := by decide +kernel
theorem dM_shift_149 : decode cM_shift 149 = .ok (.iconst 1, 1) := by decide +kernel
theorem dM_shift_150 : decode cM_shift 150 = .ok (.isub, 1) := by decide +kernel
theorem dM_shift_151 : decode cM_shift 151 = .ok (.iaload, 1) := by decide +kernel
theorem dM_shift_152 : decode cM_shift 152 = .ok (.iload 4, 2) := by decide +kernel
theorem dM_shift_154 : decode cM_shift 154 = .ok (.iadd, 1) := by decide +kernel
theorem dM_shift_155 : decode cM_shift 155 = .ok (.bipush 10, 2) := by decide +kernel
theorem dM_shift_157 : decode cM_shift 157 = .ok (.idiv, 1) := by decide +kernel
theorem dM_shift_158 : decode cM_shift 158 = .ok (.istore 8, 2) := by decide +kernel
theorem dM_shift_160 : decode cM_shift 160 = .ok (.iconst 0, 1) := by decide +kernel
theorem dM_shift_161 : decode cM_shift 161 = .ok (.istore 9, 2) := by decide +kernel
theorem dM_shift_163 : decode cM_shift 163 = .ok (.iload 9, 2) := by decide +kernel
theorem dM_shift_165 : decode cM_shift 165 = .ok (.bipush 40, 2) := by decide +kernel
theorem dM_shift_167 : decode cM_shift 167 = .ok (.if_icmp .ge 42, 3) := by decide +kernel
theorem dM_shift_170 : decode cM_shift 170 = .ok (.aload_n 0, 1) := by decide +kernel
theorem dM_shift_171 : decode cM_shift 171 = .ok (.getfield 13, 3) := by decide +kernel
theorem dM_shift_174 : decode cM_shift 174 = .ok (.iload 9, 2) := by decide +kernel
theorem dM_shift_176 : decode cM_shift 176 = .ok (.iload_n 3, 1) := by decide +kernel
theorem dM_shift_177 : decode cM_shift 177 = .ok (.isub, 1) := by decide +kernel
theorem dM_shift_178 : decode cM_shift 178 = .ok (.iaload, 1) := by decide +kernel
theorem dM_shift_179 : decode cM_shift 179 = .ok (.iload 8, 2) := by decide +kernel
theorem dM_shift_181 : decode cM_shift 181 = .ok (.iadd, 1) := by decide +kernel
theorem dM_shift_182 : decode cM_shift 182 = .ok (.istore 10, 2) := by decide +kernel
theorem dM_shift_184 : decode cM_shift 184 = .ok (.aload_n 0, 1) := by decide +kernel
theorem dM_shift_185 : decode cM_shift 185 = .ok (.getfield 19, 3) := by decide +kernel
theorem dM_shift_188 : decode cM_shift 188 = .ok (.iload 9, 2) := by decide +kernel
theorem dM_shift_190 : decode cM_shift 190 = .ok (.iload 10, 2) := by decide +kernel
theorem dM_shift_192 : decode cM_shift 192 = .ok (.bipush 10, 2) := by decide +kernel
theorem dM_shift_194 : decode cM_shift 194 = .ok (.irem, 1) := by decide +kernel
theorem dM_shift_195 : decode cM_shift 195 = .ok (.iastore, 1) := by decide +kernel
theorem dM_shift_196 : decode cM_shift 196 = .ok (.iload 10, 2) := by decide +kernel
theorem dM_shift_198 : decode cM_shift 198 = .ok (.bipush 10, 2) := by decide +kernel
theorem dM_shift_200 : decode cM_shift 200 = .ok (.idiv, 1) := by decide +kernel
theorem dM_shift_201 : decode cM_shift 201 = .ok (.istore 8, 2) := by decide +kernel
theorem dM_shift_203 : decode cM_shift 203 = .ok (.iinc 9 1, 3) := by decide +kernel
theorem dM_shift_206 : decode cM_shift 206 = .ok (.goto (-43), 3) := by decide +kernel
theorem dM_shift_209 : decode cM_shift 209 = .ok (.aload_n 0, 1) := by decide +kernel
theorem dM_shift_210 : decode cM_shift 210 = .ok (.iload 5, 2) := by decide +kernel
theorem dM_shift_212 : decode cM_shift 212 = .ok (.iload 6, 2) := by decide +kernel
theorem dM_shift_214 : decode cM_shift 214 = .ok (.invokevirtual 79, 3) := by decide +kernel
theorem dM_shift_217 : decode cM_shift 217 = .ok (.ireturn, 1) := by decide +kernel
theorem dM_compare_0 : decode cM_compare 0 = .ok (.iload_n 1, 1) := by decide +kernel
theorem dM_compare_1 : decode cM_compare 1 = .ok (.iload_n 2, 1) := by decide +kernel
theorem dM_compare_2 : decode cM_compare 2 = .ok (.invokestatic 61, 3) := by decide +kernel
theorem dM_compare_5 : decode cM_compare 5 = .ok (.ifCond .eq 12, 3) := by decide +kernel
theorem dM_compare_8 : decode cM_compare 8 = .ok (.iload_n 3, 1) := by decide +kernel
theorem dM_compare_9 : decode cM_compare 9 = .ok (.iload 4, 2) := by decide +kernel
theorem dM_compare_11 : decode cM_compare 11 = .ok (.invokestatic 61, 3) := by decide +kernel
theorem dM_compare_14 : decode cM_compare 14 = .ok (.ifCond .ne 5, 3) := by decide +kernel
theorem dM_compare_17 : decode cM_compare 17 = .ok (.iconst (-1), 1) := by decide +kernel
theorem dM_compare_18 : decode cM_compare 18 = .ok (.ireturn, 1) := by decide +kernel
theorem dM_compare_19 : decode cM_compare 19 = .ok (.aload_n 0, 1) := by decide +kernel
theorem dM_compare_20 : decode cM_compare 20 = .ok (.iload_n 1, 1) := by decide +kernel
theorem dM_compare_21 : decode cM_compare 21 = .ok (.iload_n 2, 1) := by decide +kernel
theorem dM_compare_22 : decode cM_compare 22 = .ok (.iload_n 3, 1) := by decide +kernel
theorem dM_compare_23 : decode cM_compare 23 = .ok (.iload 4, 2) := by decide +kernel
theorem dM_compare_25 : decode cM_compare 25 = .ok (.invokevirtual 64, 3) := by decide +kernel
theorem dM_compare_28 : decode cM_compare 28 = .ok (.istore 5, 2) := by decide +kernel
theorem dM_compare_30 : decode cM_compare 30 = .ok (.iload 5, 2) := by decide +kernel
theorem dM_compare_32 : decode cM_compare 32 = .ok (.ifCond .ge 6, 3) := by decide +kernel
theorem dM_compare_35 : decode cM_compare 35 = .ok (.iload 5, 2) := by decide +kernel
theorem dM_compare_37 : decode cM_compare 37 = .ok (.ireturn, 1) := by decide +kernel
theorem dM_compare_38 : decode cM_compare 38 = .ok (.aload_n 0, 1) := by decide +kernel
theorem dM_compare_39 : decode cM_compare 39 = .ok (.getfield 13, 3) := by decide +kernel
theorem dM_compare_42 : decode cM_compare 42 = .ok (.invokestatic 36, 3) := by decide +kernel
theorem dM_compare_45 : decode cM_compare 45 = .ok (.ifCond .eq 17, 3) := by decide +kernel
theorem dM_compare_48 : decode cM_compare 48 = .ok (.aload_n 0, 1) := by decide +kernel
theorem dM_compare_49 : decode cM_compare 49 = .ok (.getfield 16, 3) := by decide +kernel
theorem dM_compare_52 : decode cM_compare 52 = .ok (.invokestatic 36, 3) := by decide +kernel
theorem dM_compare_55 : decode cM_compare 55 = .ok (.ifCond .eq 7, 3) := by decide +kernel
theorem dM_compare_58 : decode cM_compare 58 = .ok (.iconst 1, 1) := by decide +kernel
theorem dM_compare_59 : decode cM_compare 59 = .ok (.goto 4, 3) := by decide +kernel
theorem dM_compare_62 : decode cM_compare 62 = .ok (.iconst 0, 1) := by decide +kernel
theorem dM_compare_63 : decode cM_compare 63 = .ok (.istore 6, 2) := by decide +kernel
theorem dM_compare_65 : decode cM_compare 65 = .ok (.aload_n 0, 1) := by decide +kernel
theorem dM_compare_66 : decode cM_compare 66 = .ok (.getfield 13, 3) := by decide +kernel
theorem dM_compare_69 : decode cM_compare 69 = .ok (.aload_n 0, 1) := by decide +kernel
theorem dM_compare_70 : decode cM_compare 70 = .ok (.getfield 16, 3) := by decide +kernel
theorem dM_compare_73 : decode cM_compare 73 = .ok (.invokestatic 68, 3) := by decide +kernel
theorem dM_compare_76 : decode cM_compare 76 = .ok (.istore 7, 2) := by decide +kernel
theorem dM_compare_78 : decode cM_compare 78 = .ok (.iload 6, 2) := by decide +kernel
theorem dM_compare_80 : decode cM_compare 80 = .ok (.ifCond .ne 19, 3) := by decide +kernel
theorem dM_compare_83 : decode cM_compare 83 = .ok (.iload 7, 2) := by decide +kernel
theorem dM_compare_85 : decode cM_compare 85 = .ok (.ifCond .ne 16, 3) := by decide +kernel
theorem dM_compare_88 : decode cM_compare 88 = .ok (.aload_n 0, 1) := by decide +kernel
theorem dM_compare_89 : decode cM_compare 89 = .ok (.getfield 55, 3) := by decide +kernel
theorem dM_compare_92 : decode cM_compare 92 = .ok (.aload_n 0, 1) := by decide +kernel
theorem dM_compare_93 : decode cM_compare 93 = .ok (.getfield 58, 3) := by decide +kernel
theorem dM_compare_96 : decode cM_compare 96 = .ok (.if_icmp .ne 5, 3) := by decide +kernel
theorem dM_compare_99 : decode cM_compare 99 = .ok (.iconst 4, 1) := by decide +kernel
theorem dM_compare_100 : decode cM_compare 100 = .ok (.ireturn, 1) := by decide +kernel
theorem dM_compare_101 : decode cM_compare 101 = .ok (.aload_n 0, 1) := by decide +kernel
theorem dM_compare_102 : decode cM_compare 102 = .ok (.getfield 55, 3) := by decide +kernel
theorem dM_compare_105 : decode cM_compare 105 = .ok (.aload_n 0, 1) := by decide +kernel
theorem dM_compare_106 : decode cM_compare 106 = .ok (.getfield 58, 3) := by decide +kernel
theorem dM_compare_109 : decode cM_compare 109 = .ok (.if_icmp .eq 45, 3) := by decide +kernel
theorem dM_compare_112 : decode cM_compare 112 = .ok (.aload_n 0, 1) := by decide +kernel
theorem dM_compare_113 : decode cM_compare 113 = .ok (.getfield 55, 3) := by decide +kernel
theorem dM_compare_116 : decode cM_compare 116 = .ok (.ifCond .eq 13, 3) := by decide +kernel
theorem dM_compare_119 : decode cM_compare 119 = .ok (.aload_n 0, 1) := by decide +kernel
theorem dM_compare_120 : decode cM_compare 120 = .ok (.getfield 13, 3) := by decide +kernel
theorem dM_compare_123 : decode cM_compare 123 = .ok (.invokestatic 36, 3) := by decide +kernel
theorem dM_compare_126 : decode cM_compare 126 = .ok (.ifCond .eq 20, 3) := by decide +kernel
theorem dM_compare_129 : decode cM_compare 129 = .ok (.aload_n 0, 1) := by decide +kernel
theorem dM_compare_130 : decode cM_compare 130 = .ok (.getfield 13, 3) := by decide +kernel
theorem dM_compare_133 : decode cM_compare 133 = .ok (.invokestatic 36, 3) := by decide +kernel
theorem dM_compare_136 : decode cM_compare 136 = .ok (.ifCond .eq 14, 3) := by decide +kernel
theorem dM_compare_139 : decode cM_compare 139 = .ok (.aload_n 0, 1) := by decide +kernel
theorem dM_compare_140 : decode cM_compare 140 = .ok (.getfield 58, 3) := by decide +kernel
theorem dM_compare_143 : decode cM_compare 143 = .ok (.ifCond .ne 7, 3) := by decide +kernel
theorem dM_compare_146 : decode cM_compare 146 = .ok (.iconst 1, 1) := by decide +kernel
theorem dM_compare_147 : decode cM_compare 147 = .ok (.goto 37, 3) := by decide +kernel
theorem dM_compare_150 : decode cM_compare 150 = .ok (.iconst 0, 1) := by decide +kernel
theorem dM_compare_151 : decode cM_compare 151 = .ok (.goto 33, 3) := by decide +kernel
theorem dM_compare_154 : decode cM_compare 154 = .ok (.aload_n 0, 1) := by decide +kernel
theorem dM_compare_155 : decode cM_compare 155 = .ok (.getfield 55, 3) := by decide +kernel
theorem dM_compare_158 : decode cM_compare 158 = .ok (.ifCond .eq 16, 3) := by decide +kernel
theorem dM_compare_161 : decode cM_compare 161 = .ok (.iload 7, 2) := by decide +kernel
theorem dM_compare_163 : decode cM_compare 163 = .ok (.ifCond .le 7, 3) := by decide +kernel
theorem dM_compare_166 : decode cM_compare 166 = .ok (.iconst 1, 1) := by decide +kernel
theorem dM_compare_167 : decode cM_compare 167 = .ok (.goto 17, 3) := by decide +kernel
theorem dM_compare_170 : decode cM_compare 170 = .ok (.iconst 0, 1) := by decide +kernel
theorem dM_compare_171 : decode cM_compare 171 = .ok (.goto 13, 3) := by decide +kernel
theorem dM_compare_174 : decode cM_compare 174 = .ok (.iload 7, 2) := by decide +kernel
theorem dM_compare_176 : decode cM_compare 176 = .ok (.ifCond .ge 7, 3) := by decide +kernel
theorem dM_compare_179 : decode cM_compare 179 = .ok (.iconst 1, 1) := by decide +kernel
theorem dM_compare_180 : decode cM_compare 180 = .ok (.goto 4, 3) := by decide +kernel
theorem dM_compare_183 : decode cM_compare 183 = .ok (.iconst 0, 1) := by decide +kernel
theorem dM_compare_184 : decode cM_compare 184 = .ok (.istore 8, 2) := by decide +kernel
theorem dM_compare_186 : decode cM_compare 186 = .ok (.iload 8, 2) := by decide +kernel
theorem dM_compare_188 : decode cM_compare 188 = .ok (.ifCond .eq 8, 3) := by decide +kernel
theorem dM_compare_191 : decode cM_compare 191 = .ok (.bipush 8, 2) := by decide +kernel
theorem dM_compare_193 : decode cM_compare 193 = .ok (.goto 4, 3) := by decide +kernel
theorem dM_compare_196 : decode cM_compare 196 = .ok (.iconst 0, 1) := by decide +kernel
theorem dM_compare_197 : decode cM_compare 197 = .ok (.ireturn, 1) := by decide +kernel
theorem dM_number_0 : decode cM_number 0 = .ok (.iload_n 2, 1) := by decide +kernel
theorem dM_number_1 : decode cM_number 1 = .ok (.iload_n 3, 1) := by decide +kernel
theorem dM_number_2 : decode cM_number 2 = .ok (.invokestatic 61, 3) := by decide +kernel
theorem dM_number_5 : decode cM_number 5 = .ok (.ifCond .ne 5, 3) := by decide +kernel
theorem dM_number_8 : decode cM_number 8 = .ok (.iconst (-1), 1) := by decide +kernel
theorem dM_number_9 : decode cM_number 9 = .ok (.ireturn, 1) := by decide +kernel
theorem dM_number_10 : decode cM_number 10 = .ok (.iload_n 1, 1) := by decide +kernel
theorem dM_number_11 : decode cM_number 11 = .ok (.ifCond .ge 9, 3) := by decide +kernel
theorem dM_number_14 : decode cM_number 14 = .ok (.iload_n 1, 1) := by decide +kernel
theorem dM_number_15 : decode cM_number 15 = .ok (.i2l, 1) := by decide +kernel
theorem dM_number_16 : decode cM_number 16 = .ok (.lneg, 1) := by decide +kernel
theorem dM_number_17 : decode cM_number 17 = .ok (.goto 5, 3) := by decide +kernel
theorem dM_number_20 : decode cM_number 20 = .ok (.iload_n 1, 1) := by decide +kernel
theorem dM_number_21 : decode cM_number 21 = .ok (.i2l, 1) := by decide +kernel
theorem dM_number_22 : decode cM_number 22 = .ok (.lstore 4, 2) := by decide +kernel
theorem dM_number_24 : decode cM_number 24 = .ok (.iconst 0, 1) := by decide +kernel
theorem dM_number_25 : decode cM_number 25 = .ok (.istore 6, 2) := by decide +kernel
theorem dM_number_27 : decode cM_number 27 = .ok (.iload 6, 2) := by decide +kernel
theorem dM_number_29 : decode cM_number 29 = .ok (.sipush 200, 3) := by decide +kernel
theorem dM_number_32 : decode cM_number 32 = .ok (.if_icmp .ge 31, 3) := by decide +kernel
theorem dM_number_35 : decode cM_number 35 = .ok (.aload_n 0, 1) := by decide +kernel
theorem dM_number_36 : decode cM_number 36 = .ok (.getfield 19, 3) := by decide +kernel
theorem dM_number_39 : decode cM_number 39 = .ok (.iload 6, 2) := by decide +kernel
theorem dM_number_41 : decode cM_number 41 = .ok (.lload 4, 2) := by decide +kernel
theorem dM_number_43 : decode cM_number 43 = .ok (.ldc2_w 83, 3) := by decide +kernel
theorem dM_number_46 : decode cM_number 46 = .ok (.lrem, 1) := by decide +kernel
theorem dM_number_47 : decode cM_number 47 = .ok (.l2i, 1) := by decide +kernel
theorem dM_number_48 : decode cM_number 48 = .ok (.iastore, 1) := by decide +kernel
theorem dM_number_49 : decode cM_number 49 = .ok (.lload 4, 2) := by decide +kernel
theorem dM_number_51 : decode cM_number 51 = .ok (.ldc2_w 83, 3) := by decide +kernel
theorem dM_number_54 : decode cM_number 54 = .ok (.ldiv, 1) := by decide +kernel
theorem dM_number_55 : decode cM_number 55 = .ok (.lstore 4, 2) := by decide +kernel
theorem dM_number_57 : decode cM_number 57 = .ok (.iinc 6 1, 3) := by decide +kernel
theorem dM_number_60 : decode cM_number 60 = .ok (.goto (-33), 3) := by decide +kernel
theorem dM_number_63 : decode cM_number 63 = .ok (.aload_n 0, 1) := by decide +kernel
theorem dM_number_64 : decode cM_number 64 = .ok (.iload_n 1, 1) := by decide +kernel
theorem dM_number_65 : decode cM_number 65 = .ok (.ifCond .ge 7, 3) := by decide +kernel
theorem dM_number_68 : decode cM_number 68 = .ok (.iconst 1, 1) := by decide +kernel
theorem dM_number_69 : decode cM_number 69 = .ok (.goto 4, 3) := by decide +kernel
theorem dM_number_72 : decode cM_number 72 = .ok (.iconst 0, 1) := by decide +kernel
theorem dM_number_73 : decode cM_number 73 = .ok (.putfield 40, 3) := by decide +kernel
theorem dM_number_76 : decode cM_number 76 = .ok (.aload_n 0, 1) := by decide +kernel
theorem dM_number_77 : decode cM_number 77 = .ok (.iload_n 2, 1) := by decide +kernel
theorem dM_number_78 : decode cM_number 78 = .ok (.iload_n 3, 1) := by decide +kernel
theorem dM_number_79 : decode cM_number 79 = .ok (.invokevirtual 79, 3) := by decide +kernel
theorem dM_number_82 : decode cM_number 82 = .ok (.ireturn, 1) := by decide +kernel
theorem dM_value_0 : decode cM_value 0 = .ok (.iload_n 1, 1) := by decide +kernel
theorem dM_value_1 : decode cM_value 1 = .ok (.iload_n 2, 1) := by decide +kernel
theorem dM_value_2 : decode cM_value 2 = .ok (.invokestatic 61, 3) := by decide +kernel
theorem dM_value_5 : decode cM_value 5 = .ok (.ifCond .ne 5, 3) := by decide +kernel
theorem dM_value_8 : decode cM_value 8 = .ok (.lconst 0, 1) := by decide +kernel
theorem dM_value_9 : decode cM_value 9 = .ok (.lreturn, 1) := by decide +kernel
theorem dM_value_10 : decode cM_value 10 = .ok (.aload_n 0, 1) := by decide +kernel
theorem dM_value_11 : decode cM_value 11 = .ok (.iload_n 1, 1) := by decide +kernel
theorem dM_value_12 : decode cM_value 12 = .ok (.iload_n 2, 1) := by decide +kernel
theorem dM_value_13 : decode cM_value 13 = .ok (.aload_n 0, 1) := by decide +kernel
theorem dM_value_14 : decode cM_value 14 = .ok (.getfield 13, 3) := by decide +kernel
theorem dM_value_17 : decode cM_value 17 = .ok (.invokevirtual 51, 3) := by decide +kernel
theorem dM_value_20 : decode cM_value 20 = .ok (.istore_n 3, 1) := by decide +kernel
theorem dM_value_21 : decode cM_value 21 = .ok (.iload_n 3, 1) := by decide +kernel
theorem dM_value_22 : decode cM_value 22 = .ok (.ifCond .ne 5, 3) := by decide +kernel
theorem dM_value_25 : decode cM_value 25 = .ok (.lconst 0, 1) := by decide +kernel
theorem dM_value_26 : decode cM_value 26 = .ok (.lreturn, 1) := by decide +kernel
theorem dM_value_27 : decode cM_value 27 = .ok (.lconst 0, 1) := by decide +kernel
theorem dM_value_28 : decode cM_value 28 = .ok (.lstore 4, 2) := by decide +kernel
theorem dM_value_30 : decode cM_value 30 = .ok (.bipush 30, 2) := by decide +kernel
theorem dM_value_32 : decode cM_value 32 = .ok (.istore 6, 2) := by decide +kernel
theorem dM_value_34 : decode cM_value 34 = .ok (.iload 6, 2) := by decide +kernel
theorem dM_value_36 : decode cM_value 36 = .ok (.ifCond .lt 26, 3) := by decide +kernel
theorem dM_value_39 : decode cM_value 39 = .ok (.ldc2_w 83, 3) := by decide +kernel
theorem dM_value_42 : decode cM_value 42 = .ok (.lload 4, 2) := by decide +kernel
theorem dM_value_44 : decode cM_value 44 = .ok (.lmul, 1) := by decide +kernel
theorem dM_value_45 : decode cM_value 45 = .ok (.aload_n 0, 1) := by decide +kernel
theorem dM_value_46 : decode cM_value 46 = .ok (.getfield 13, 3) := by decide +kernel
theorem dM_value_49 : decode cM_value 49 = .ok (.iload 6, 2) := by decide +kernel
theorem dM_value_51 : decode cM_value 51 = .ok (.iaload, 1) := by decide +kernel
theorem dM_value_52 : decode cM_value 52 = .ok (.i2l, 1) := by decide +kernel
theorem dM_value_53 : decode cM_value 53 = .ok (.ladd, 1) := by decide +kernel
theorem dM_value_54 : decode cM_value 54 = .ok (.lstore 4, 2) := by decide +kernel
theorem dM_value_56 : decode cM_value 56 = .ok (.iinc 6 (-1), 3) := by decide +kernel
theorem dM_value_59 : decode cM_value 59 = .ok (.goto (-25), 3) := by decide +kernel
theorem dM_value_62 : decode cM_value 62 = .ok (.iload_n 3, 1) := by decide +kernel
theorem dM_value_63 : decode cM_value 63 = .ok (.iconst 2, 1) := by decide +kernel
theorem dM_value_64 : decode cM_value 64 = .ok (.if_icmp .ne 9, 3) := by decide +kernel
theorem dM_value_67 : decode cM_value 67 = .ok (.lload 4, 2) := by decide +kernel
theorem dM_value_69 : decode cM_value 69 = .ok (.lneg, 1) := by decide +kernel
theorem dM_value_70 : decode cM_value 70 = .ok (.goto 5, 3) := by decide +kernel
theorem dM_value_73 : decode cM_value 73 = .ok (.lload 4, 2) := by decide +kernel
theorem dM_value_75 : decode cM_value 75 = .ok (.lreturn, 1) := by decide +kernel
theorem dM_characters_0 : decode cM_characters 0 = .ok (.iload_n 1, 1) := by decide +kernel
theorem dM_characters_1 : decode cM_characters 1 = .ok (.iload_n 2, 1) := by decide +kernel
theorem dM_characters_2 : decode cM_characters 2 = .ok (.invokestatic 61, 3) := by decide +kernel
theorem dM_characters_5 : decode cM_characters 5 = .ok (.ifCond .eq 21, 3) := by decide +kernel
theorem dM_characters_8 : decode cM_characters 8 = .ok (.iload_n 3, 1) := by decide +kernel
theorem dM_characters_9 : decode cM_characters 9 = .ok (.invokestatic 28, 3) := by decide +kernel
theorem dM_characters_12 : decode cM_characters 12 = .ok (.ifCond .eq 14, 3) := by decide +kernel
theorem dM_characters_15 : decode cM_characters 15 = .ok (.iload 4, 2) := by decide +kernel
theorem dM_characters_17 : decode cM_characters 17 = .ok (.iload_n 3, 1) := by decide +kernel
theorem dM_characters_18 : decode cM_characters 18 = .ok (.iconst 1, 1) := by decide +kernel
theorem dM_characters_19 : decode cM_characters 19 = .ok (.iadd, 1) := by decide +kernel
theorem dM_characters_20 : decode cM_characters 20 = .ok (.invokestatic 32, 3) := by decide +kernel
theorem dM_characters_23 : decode cM_characters 23 = .ok (.ifCond .ne 5, 3) := by decide +kernel
theorem dM_characters_26 : decode cM_characters 26 = .ok (.iconst (-1), 1) := by decide +kernel
theorem dM_characters_27 : decode cM_characters 27 = .ok (.ireturn, 1) := by decide +kernel
theorem dM_characters_28 : decode cM_characters 28 = .ok (.aload_n 0, 1) := by decide +kernel
theorem dM_characters_29 : decode cM_characters 29 = .ok (.iload_n 1, 1) := by decide +kernel
theorem dM_characters_30 : decode cM_characters 30 = .ok (.iload_n 2, 1) := by decide +kernel
theorem dM_characters_31 : decode cM_characters 31 = .ok (.aload_n 0, 1) := by decide +kernel
theorem dM_characters_32 : decode cM_characters 32 = .ok (.getfield 19, 3) := by decide +kernel
theorem dM_characters_35 : decode cM_characters 35 = .ok (.invokevirtual 51, 3) := by decide +kernel
theorem dM_characters_38 : decode cM_characters 38 = .ok (.istore 5, 2) := by decide +kernel
theorem dM_characters_40 : decode cM_characters 40 = .ok (.iload 5, 2) := by decide +kernel
theorem dM_characters_42 : decode cM_characters 42 = .ok (.ifCond .ne 6, 3) := by decide +kernel
theorem dM_characters_45 : decode cM_characters 45 = .ok (.bipush (-2), 2) := by decide +kernel
theorem dM_characters_47 : decode cM_characters 47 = .ok (.ireturn, 1) := by decide +kernel
theorem dM_characters_48 : decode cM_characters 48 = .ok (.aload_n 0, 1) := by decide +kernel
theorem dM_characters_49 : decode cM_characters 49 = .ok (.iload 5, 2) := by decide +kernel
theorem dM_characters_51 : decode cM_characters 51 = .ok (.iconst 2, 1) := by decide +kernel
theorem dM_characters_52 : decode cM_characters 52 = .ok (.if_icmp .ne 7, 3) := by decide +kernel
theorem dM_characters_55 : decode cM_characters 55 = .ok (.iconst 1, 1) := by decide +kernel
theorem dM_characters_56 : decode cM_characters 56 = .ok (.goto 4, 3) := by decide +kernel
theorem dM_characters_59 : decode cM_characters 59 = .ok (.iconst 0, 1) := by decide +kernel
theorem dM_characters_60 : decode cM_characters 60 = .ok (.putfield 40, 3) := by decide +kernel
theorem dM_characters_63 : decode cM_characters 63 = .ok (.aload_n 0, 1) := by decide +kernel
theorem dM_characters_64 : decode cM_characters 64 = .ok (.iload_n 3, 1) := by decide +kernel
theorem dM_characters_65 : decode cM_characters 65 = .ok (.invokevirtual 44, 3) := by decide +kernel
theorem dM_characters_68 : decode cM_characters 68 = .ok (.istore 6, 2) := by decide +kernel
theorem dM_characters_70 : decode cM_characters 70 = .ok (.aload_n 0, 1) := by decide +kernel
theorem dM_characters_71 : decode cM_characters 71 = .ok (.iload 6, 2) := by decide +kernel
theorem dM_characters_73 : decode cM_characters 73 = .ok (.invokevirtual 47, 3) := by decide +kernel
theorem dM_characters_76 : decode cM_characters 76 = .ok (.istore 7, 2) := by decide +kernel
theorem dM_characters_78 : decode cM_characters 78 = .ok (.aload_n 0, 1) := by decide +kernel
theorem dM_characters_79 : decode cM_characters 79 = .ok (.getfield 7, 3) := by decide +kernel
theorem dM_characters_82 : decode cM_characters 82 = .ok (.iload 4, 2) := by decide +kernel
theorem dM_characters_84 : decode cM_characters 84 = .ok (.iload 7, 2) := by decide +kernel
theorem dM_characters_86 : decode cM_characters 86 = .ok (.bipush 8, 2) := by decide +kernel
theorem dM_characters_88 : decode cM_characters 88 = .ok (.iand, 1) := by decide +kernel
theorem dM_characters_89 : decode cM_characters 89 = .ok (.ifCond .eq 8, 3) := by decide +kernel
theorem dM_characters_92 : decode cM_characters 92 = .ok (.bipush 45, 2) := by decide +kernel
theorem dM_characters_94 : decode cM_characters 94 = .ok (.goto 5, 3) := by decide +kernel
theorem dM_characters_97 : decode cM_characters 97 = .ok (.bipush 43, 2) := by decide +kernel
theorem dM_characters_99 : decode cM_characters 99 = .ok (.iastore, 1) := by decide +kernel
theorem dM_characters_100 : decode cM_characters 100 = .ok (.iconst 0, 1) := by decide +kernel
theorem dM_characters_101 : decode cM_characters 101 = .ok (.istore 8, 2) := by decide +kernel
theorem dM_characters_103 : decode cM_characters 103 = .ok (.iload 8, 2) := by decide +kernel
theorem dM_characters_105 : decode cM_characters 105 = .ok (.iload_n 3, 1) := by decide +kernel
theorem dM_characters_106 : decode cM_characters 106 = .ok (.if_icmp .ge 31, 3) := by decide +kernel
theorem dM_characters_109 : decode cM_characters 109 = .ok (.aload_n 0, 1) := by decide +kernel
theorem dM_characters_110 : decode cM_characters 110 = .ok (.getfield 7, 3) := by decide +kernel
theorem dM_characters_113 : decode cM_characters 113 = .ok (.iload 4, 2) := by decide +kernel
theorem dM_characters_115 : decode cM_characters 115 = .ok (.iload_n 3, 1) := by decide +kernel
theorem dM_characters_116 : decode cM_characters 116 = .ok (.iadd, 1) := by decide +kernel
theorem dM_characters_117 : decode cM_characters 117 = .ok (.iload 8, 2) := by decide +kernel
theorem dM_characters_119 : decode cM_characters 119 = .ok (.isub, 1) := by decide +kernel
theorem dM_characters_120 : decode cM_characters 120 = .ok (.bipush 48, 2) := by decide +kernel
theorem dM_characters_122 : decode cM_characters 122 = .ok (.aload_n 0, 1) := by decide +kernel
theorem dM_characters_123 : decode cM_characters 123 = .ok (.getfield 19, 3) := by decide +kernel
theorem dM_characters_126 : decode cM_characters 126 = .ok (.iload 8, 2) := by decide +kernel
theorem dM_characters_128 : decode cM_characters 128 = .ok (.iaload, 1) := by decide +kernel
theorem dM_characters_129 : decode cM_characters 129 = .ok (.iadd, 1) := by decide +kernel
theorem dM_characters_130 : decode cM_characters 130 = .ok (.iastore, 1) := by decide +kernel
theorem dM_characters_131 : decode cM_characters 131 = .ok (.iinc 8 1, 3) := by decide +kernel
theorem dM_characters_134 : decode cM_characters 134 = .ok (.goto (-31), 3) := by decide +kernel
theorem dM_characters_137 : decode cM_characters 137 = .ok (.iload 7, 2) := by decide +kernel
theorem dM_characters_139 : decode cM_characters 139 = .ok (.ireturn, 1) := by decide +kernel
theorem dM_digits_0 : decode cM_digits 0 = .ok (.iload_n 1, 1) := by decide +kernel
theorem dM_digits_1 : decode cM_digits 1 = .ok (.invokestatic 28, 3) := by decide +kernel
theorem dM_digits_4 : decode cM_digits 4 = .ok (.ifCond .eq 22, 3) := by decide +kernel
theorem dM_digits_7 : decode cM_digits 7 = .ok (.iload_n 2, 1) := by decide +kernel
theorem dM_digits_8 : decode cM_digits 8 = .ok (.iload_n 1, 1) := by decide +kernel
theorem dM_digits_9 : decode cM_digits 9 = .ok (.iconst 1, 1) := by decide +kernel
theorem dM_digits_10 : decode cM_digits 10 = .ok (.iadd, 1) := by decide +kernel
theorem dM_digits_11 : decode cM_digits 11 = .ok (.invokestatic 32, 3) := by decide +kernel
theorem dM_digits_14 : decode cM_digits 14 = .ok (.ifCond .eq 12, 3) := by decide +kernel
theorem dM_digits_17 : decode cM_digits 17 = .ok (.iload_n 3, 1) := by decide +kernel
theorem dM_digits_18 : decode cM_digits 18 = .ok (.iload 4, 2) := by decide +kernel
theorem dM_digits_20 : decode cM_digits 20 = .ok (.invokestatic 61, 3) := by decide +kernel
theorem dM_digits_23 : decode cM_digits 23 = .ok (.ifCond .ne 5, 3) := by decide +kernel
theorem dM_digits_26 : decode cM_digits 26 = .ok (.iconst (-1), 1) := by decide +kernel
theorem dM_digits_27 : decode cM_digits 27 = .ok (.ireturn, 1) := by decide +kernel
theorem dM_digits_28 : decode cM_digits 28 = .ok (.aload_n 0, 1) := by decide +kernel
theorem dM_digits_29 : decode cM_digits 29 = .ok (.getfield 7, 3) := by decide +kernel
theorem dM_digits_32 : decode cM_digits 32 = .ok (.iload_n 2, 1) := by decide +kernel
theorem dM_digits_33 : decode cM_digits 33 = .ok (.iaload, 1) := by decide +kernel
theorem dM_digits_34 : decode cM_digits 34 = .ok (.istore 5, 2) := by decide +kernel
theorem dM_digits_36 : decode cM_digits 36 = .ok (.iload 5, 2) := by decide +kernel
theorem dM_digits_38 : decode cM_digits 38 = .ok (.bipush 43, 2) := by decide +kernel
theorem dM_digits_40 : decode cM_digits 40 = .ok (.if_icmp .eq 17, 3) := by decide +kernel
theorem dM_digits_43 : decode cM_digits 43 = .ok (.iload 5, 2) := by decide +kernel
theorem dM_digits_45 : decode cM_digits 45 = .ok (.bipush 45, 2) := by decide +kernel
theorem dM_digits_47 : decode cM_digits 47 = .ok (.if_icmp .eq 10, 3) := by decide +kernel
theorem dM_digits_50 : decode cM_digits 50 = .ok (.iload 5, 2) := by decide +kernel
theorem dM_digits_52 : decode cM_digits 52 = .ok (.bipush 32, 2) := by decide +kernel
theorem dM_digits_54 : decode cM_digits 54 = .ok (.if_icmp .ne 7, 3) := by decide +kernel
theorem dM_digits_57 : decode cM_digits 57 = .ok (.iconst 1, 1) := by decide +kernel
theorem dM_digits_58 : decode cM_digits 58 = .ok (.goto 4, 3) := by decide +kernel
theorem dM_digits_61 : decode cM_digits 61 = .ok (.iconst 0, 1) := by decide +kernel
theorem dM_digits_62 : decode cM_digits 62 = .ok (.istore 6, 2) := by decide +kernel
theorem dM_digits_64 : decode cM_digits 64 = .ok (.iconst 0, 1) := by decide +kernel
theorem dM_digits_65 : decode cM_digits 65 = .ok (.istore 7, 2) := by decide +kernel
theorem dM_digits_67 : decode cM_digits 67 = .ok (.iload 7, 2) := by decide +kernel
theorem dM_digits_69 : decode cM_digits 69 = .ok (.sipush 200, 3) := by decide +kernel
theorem dM_digits_72 : decode cM_digits 72 = .ok (.if_icmp .ge 71, 3) := by decide +kernel
theorem dM_digits_75 : decode cM_digits 75 = .ok (.iload 7, 2) := by decide +kernel
theorem dM_digits_77 : decode cM_digits 77 = .ok (.iload_n 1, 1) := by decide +kernel
theorem dM_digits_78 : decode cM_digits 78 = .ok (.if_icmp .ge 17, 3) := by decide +kernel
theorem dM_digits_81 : decode cM_digits 81 = .ok (.aload_n 0, 1) := by decide +kernel
theorem dM_digits_82 : decode cM_digits 82 = .ok (.getfield 7, 3) := by decide +kernel
theorem dM_digits_85 : decode cM_digits 85 = .ok (.iload_n 2, 1) := by decide +kernel
theorem dM_digits_86 : decode cM_digits 86 = .ok (.iload_n 1, 1) := by decide +kernel
theorem dM_digits_87 : decode cM_digits 87 = .ok (.iadd, 1) := by decide +kernel
theorem dM_digits_88 : decode cM_digits 88 = .ok (.iload 7, 2) := by decide +kernel
theorem dM_digits_90 : decode cM_digits 90 = .ok (.isub, 1) := by decide +kernel
theorem dM_digits_91 : decode cM_digits 91 = .ok (.iaload, 1) := by decide +kernel
theorem dM_digits_92 : decode cM_digits 92 = .ok (.goto 5, 3) := by decide +kernel
theorem dM_digits_95 : decode cM_digits 95 = .ok (.bipush 48, 2) := by decide +kernel
theorem dM_digits_97 : decode cM_digits 97 = .ok (.istore 8, 2) := by decide +kernel
theorem dM_digits_99 : decode cM_digits 99 = .ok (.iload 6, 2) := by decide +kernel
theorem dM_digits_101 : decode cM_digits 101 = .ok (.ifCond .eq 21, 3) := by decide +kernel
theorem dM_digits_104 : decode cM_digits 104 = .ok (.iload 8, 2) := by decide +kernel
theorem dM_digits_106 : decode cM_digits 106 = .ok (.bipush 48, 2) := by decide +kernel
theorem dM_digits_108 : decode cM_digits 108 = .ok (.if_icmp .lt 14, 3) := by decide +kernel
theorem dM_digits_111 : decode cM_digits 111 = .ok (.iload 8, 2) := by decide +kernel
theorem dM_digits_113 : decode cM_digits 113 = .ok (.bipush 57, 2) := by decide +kernel
theorem dM_digits_115 : decode cM_digits 115 = .ok (.if_icmp .gt 7, 3) := by decide +kernel
theorem dM_digits_118 : decode cM_digits 118 = .ok (.iconst 1, 1) := by decide +kernel
theorem dM_digits_119 : decode cM_digits 119 = .ok (.goto 4, 3) := by decide +kernel
theorem dM_digits_122 : decode cM_digits 122 = .ok (.iconst 0, 1) := by decide +kernel
theorem dM_digits_123 : decode cM_digits 123 = .ok (.istore 6, 2) := by decide +kernel
theorem dM_digits_125 : decode cM_digits 125 = .ok (.aload_n 0, 1) := by decide +kernel
theorem dM_digits_126 : decode cM_digits 126 = .ok (.getfield 19, 3) := by decide +kernel
theorem dM_digits_129 : decode cM_digits 129 = .ok (.iload 7, 2) := by decide +kernel
theorem dM_digits_131 : decode cM_digits 131 = .ok (.iload 8, 2) := by decide +kernel
theorem dM_digits_133 : decode cM_digits 133 = .ok (.bipush 48, 2) := by decide +kernel
theorem dM_digits_135 : decode cM_digits 135 = .ok (.isub, 1) := by decide +kernel
theorem dM_digits_136 : decode cM_digits 136 = .ok (.iastore, 1) := by decide +kernel
theorem dM_digits_137 : decode cM_digits 137 = .ok (.iinc 7 1, 3) := by decide +kernel
theorem dM_digits_140 : decode cM_digits 140 = .ok (.goto (-73), 3) := by decide +kernel
theorem dM_digits_143 : decode cM_digits 143 = .ok (.iload 6, 2) := by decide +kernel
theorem dM_digits_145 : decode cM_digits 145 = .ok (.ifCond .ne 6, 3) := by decide +kernel
theorem dM_digits_148 : decode cM_digits 148 = .ok (.bipush (-2), 2) := by decide +kernel
theorem dM_digits_150 : decode cM_digits 150 = .ok (.ireturn, 1) := by decide +kernel
theorem dM_digits_151 : decode cM_digits 151 = .ok (.aload_n 0, 1) := by decide +kernel
theorem dM_digits_152 : decode cM_digits 152 = .ok (.iload 5, 2) := by decide +kernel
theorem dM_digits_154 : decode cM_digits 154 = .ok (.bipush 45, 2) := by decide +kernel
theorem dM_digits_156 : decode cM_digits 156 = .ok (.if_icmp .ne 7, 3) := by decide +kernel
theorem dM_digits_159 : decode cM_digits 159 = .ok (.iconst 1, 1) := by decide +kernel
theorem dM_digits_160 : decode cM_digits 160 = .ok (.goto 4, 3) := by decide +kernel
theorem dM_digits_163 : decode cM_digits 163 = .ok (.iconst 0, 1) := by decide +kernel
theorem dM_digits_164 : decode cM_digits 164 = .ok (.putfield 40, 3) := by decide +kernel
theorem dM_digits_167 : decode cM_digits 167 = .ok (.aload_n 0, 1) := by decide +kernel
theorem dM_digits_168 : decode cM_digits 168 = .ok (.iload_n 3, 1) := by decide +kernel
theorem dM_digits_169 : decode cM_digits 169 = .ok (.iload 4, 2) := by decide +kernel
theorem dM_digits_171 : decode cM_digits 171 = .ok (.invokevirtual 79, 3) := by decide +kernel
theorem dM_digits_174 : decode cM_digits 174 = .ok (.ireturn, 1) := by decide +kernel
theorem dM_edit_0 : decode cM_edit 0 = .ok (.iload_n 1, 1) := by decide +kernel
theorem dM_edit_1 : decode cM_edit 1 = .ok (.iload_n 2, 1) := by decide +kernel
theorem dM_edit_2 : decode cM_edit 2 = .ok (.invokestatic 61, 3) := by decide +kernel
theorem dM_edit_5 : decode cM_edit 5 = .ok (.ifCond .ne 5, 3) := by decide +kernel
theorem dM_edit_8 : decode cM_edit 8 = .ok (.iconst (-1), 1) := by decide +kernel
theorem dM_edit_9 : decode cM_edit 9 = .ok (.ireturn, 1) := by decide +kernel
theorem dM_edit_10 : decode cM_edit 10 = .ok (.aload_n 0, 1) := by decide +kernel
theorem dM_edit_11 : decode cM_edit 11 = .ok (.iload_n 1, 1) := by decide +kernel
theorem dM_edit_12 : decode cM_edit 12 = .ok (.iload_n 2, 1) := by decide +kernel
theorem dM_edit_13 : decode cM_edit 13 = .ok (.aload_n 0, 1) := by decide +kernel
theorem dM_edit_14 : decode cM_edit 14 = .ok (.getfield 13, 3) := by decide +kernel
theorem dM_edit_17 : decode cM_edit 17 = .ok (.invokevirtual 51, 3) := by decide +kernel
theorem dM_edit_20 : decode cM_edit 20 = .ok (.istore 5, 2) := by decide +kernel
theorem dM_edit_22 : decode cM_edit 22 = .ok (.iload 5, 2) := by decide +kernel
theorem dM_edit_24 : decode cM_edit 24 = .ok (.ifCond .ne 6, 3) := by decide +kernel
theorem dM_edit_27 : decode cM_edit 27 = .ok (.bipush (-2), 2) := by decide +kernel
theorem dM_edit_29 : decode cM_edit 29 = .ok (.ireturn, 1) := by decide +kernel
theorem dM_edit_30 : decode cM_edit 30 = .ok (.aload_n 0, 1) := by decide +kernel
theorem dM_edit_31 : decode cM_edit 31 = .ok (.getfield 13, 3) := by decide +kernel
theorem dM_edit_34 : decode cM_edit 34 = .ok (.invokestatic 36, 3) := by decide +kernel
theorem dM_edit_37 : decode cM_edit 37 = .ok (.istore 6, 2) := by decide +kernel
theorem dM_edit_39 : decode cM_edit 39 = .ok (.iload 5, 2) := by decide +kernel
theorem dM_edit_41 : decode cM_edit 41 = .ok (.iconst 2, 1) := by decide +kernel
theorem dM_edit_42 : decode cM_edit 42 = .ok (.if_icmp .ne 12, 3) := by decide +kernel
theorem dM_edit_45 : decode cM_edit 45 = .ok (.iload 6, 2) := by decide +kernel
theorem dM_edit_47 : decode cM_edit 47 = .ok (.ifCond .ne 7, 3) := by decide +kernel
theorem dM_edit_50 : decode cM_edit 50 = .ok (.iconst 1, 1) := by decide +kernel
theorem dM_edit_51 : decode cM_edit 51 = .ok (.goto 4, 3) := by decide +kernel
theorem dM_edit_54 : decode cM_edit 54 = .ok (.iconst 0, 1) := by decide +kernel
theorem dM_edit_55 : decode cM_edit 55 = .ok (.istore 7, 2) := by decide +kernel
theorem dM_edit_57 : decode cM_edit 57 = .ok (.bipush 32, 2) := by decide +kernel
theorem dM_edit_59 : decode cM_edit 59 = .ok (.istore 8, 2) := by decide +kernel
theorem dM_edit_61 : decode cM_edit 61 = .ok (.iload 7, 2) := by decide +kernel
theorem dM_edit_63 : decode cM_edit 63 = .ok (.ifCond .eq 8, 3) := by decide +kernel
theorem dM_edit_66 : decode cM_edit 66 = .ok (.bipush 45, 2) := by decide +kernel
theorem dM_edit_68 : decode cM_edit 68 = .ok (.goto 5, 3) := by decide +kernel
theorem dM_edit_71 : decode cM_edit 71 = .ok (.bipush 32, 2) := by decide +kernel
theorem dM_edit_73 : decode cM_edit 73 = .ok (.istore 9, 2) := by decide +kernel
theorem dM_edit_75 : decode cM_edit 75 = .ok (.iconst 0, 1) := by decide +kernel
theorem dM_edit_76 : decode cM_edit 76 = .ok (.istore 10, 2) := by decide +kernel
theorem dM_edit_78 : decode cM_edit 78 = .ok (.iload_n 1, 1) := by decide +kernel
theorem dM_edit_79 : decode cM_edit 79 = .ok (.istore 11, 2) := by decide +kernel
theorem dM_edit_81 : decode cM_edit 81 = .ok (.iconst 0, 1) := by decide +kernel
theorem dM_edit_82 : decode cM_edit 82 = .ok (.istore 12, 2) := by decide +kernel
theorem dM_edit_84 : decode cM_edit 84 = .ok (.iload_n 3, 1) := by decide +kernel
theorem dM_edit_85 : decode cM_edit 85 = .ok (.istore 13, 2) := by decide +kernel
theorem dM_edit_87 : decode cM_edit 87 = .ok (.iconst 1, 1) := by decide +kernel
theorem dM_edit_88 : decode cM_edit 88 = .ok (.istore 14, 2) := by decide +kernel
theorem dM_edit_90 : decode cM_edit 90 = .ok (.iconst 1, 1) := by decide +kernel
theorem dM_edit_91 : decode cM_edit 91 = .ok (.istore 15, 2) := by decide +kernel
theorem dM_edit_93 : decode cM_edit 93 = .ok (.iconst 1, 1) := by decide +kernel
theorem dM_edit_94 : decode cM_edit 94 = .ok (.istore 16, 2) := by decide +kernel
theorem dM_edit_96 : decode cM_edit 96 = .ok (.iload 15, 2) := by decide +kernel
theorem dM_edit_98 : decode cM_edit 98 = .ok (.ifCond .eq 664, 3) := by decide +kernel
theorem dM_edit_101 : decode cM_edit 101 = .ok (.iload 14, 2) := by decide +kernel
theorem dM_edit_103 : decode cM_edit 103 = .ok (.ifCond .eq 659, 3) := by decide +kernel
theorem dM_edit_106 : decode cM_edit 106 = .ok (.iload 13, 2) := by decide +kernel
theorem dM_edit_108 : decode cM_edit 108 = .ok (.ifCond .lt 15, 3) := by decide +kernel
theorem dM_edit_111 : decode cM_edit 111 = .ok (.iload 13, 2) := by decide +kernel
theorem dM_edit_113 : decode cM_edit 113 = .ok (.sipush 256, 3) := by decide +kernel
theorem dM_edit_116 : decode cM_edit 116 = .ok (.if_icmp .ge 7, 3) := by decide +kernel
theorem dM_edit_119 : decode cM_edit 119 = .ok (.iconst 1, 1) := by decide +kernel
theorem dM_edit_120 : decode cM_edit 120 = .ok (.goto 4, 3) := by decide +kernel
theorem dM_edit_123 : decode cM_edit 123 = .ok (.iconst 0, 1) := by decide +kernel
theorem dM_edit_124 : decode cM_edit 124 = .ok (.istore 14, 2) := by decide +kernel
theorem dM_edit_126 : decode cM_edit 126 = .ok (.iload 14, 2) := by decide +kernel
theorem dM_edit_128 : decode cM_edit 128 = .ok (.ifCond .eq 13, 3) := by decide +kernel
theorem dM_edit_131 : decode cM_edit 131 = .ok (.aload_n 0, 1) := by decide +kernel
theorem dM_edit_132 : decode cM_edit 132 = .ok (.getfield 7, 3) := by decide +kernel
theorem dM_edit_135 : decode cM_edit 135 = .ok (.iload 13, 2) := by decide +kernel
theorem dM_edit_137 : decode cM_edit 137 = .ok (.iaload, 1) := by decide +kernel
theorem dM_edit_138 : decode cM_edit 138 = .ok (.goto 4, 3) := by decide +kernel
theorem dM_edit_141 : decode cM_edit 141 = .ok (.iconst 0, 1) := by decide +kernel
theorem dM_edit_142 : decode cM_edit 142 = .ok (.istore 17, 2) := by decide +kernel
theorem dM_edit_144 : decode cM_edit 144 = .ok (.iinc 13 1, 3) := by decide +kernel
theorem dM_edit_147 : decode cM_edit 147 = .ok (.iload 17, 2) := by decide +kernel
theorem dM_edit_149 : decode cM_edit 149 = .ok (.ifCond .eq 7, 3) := by decide +kernel
theorem dM_edit_152 : decode cM_edit 152 = .ok (.iconst 1, 1) := by decide +kernel
theorem dM_edit_153 : decode cM_edit 153 = .ok (.goto 4, 3) := by decide +kernel
theorem dM_edit_156 : decode cM_edit 156 = .ok (.iconst 0, 1) := by decide +kernel
theorem dM_edit_157 : decode cM_edit 157 = .ok (.istore 15, 2) := by decide +kernel
theorem dM_edit_159 : decode cM_edit 159 = .ok (.iload 14, 2) := by decide +kernel
theorem dM_edit_161 : decode cM_edit 161 = .ok (.ifCond .eq 19, 3) := by decide +kernel
theorem dM_edit_164 : decode cM_edit 164 = .ok (.iload 16, 2) := by decide +kernel
theorem dM_edit_166 : decode cM_edit 166 = .ok (.bipush 64, 2) := by decide +kernel
theorem dM_edit_168 : decode cM_edit 168 = .ok (.if_icmp .lt 8, 3) := by decide +kernel
theorem dM_edit_171 : decode cM_edit 171 = .ok (.iload 15, 2) := by decide +kernel
theorem dM_edit_173 : decode cM_edit 173 = .ok (.ifCond .ne 7, 3) := by decide +kernel
theorem dM_edit_176 : decode cM_edit 176 = .ok (.iconst 1, 1) := by decide +kernel
theorem dM_edit_177 : decode cM_edit 177 = .ok (.goto 4, 3) := by decide +kernel
theorem dM_edit_180 : decode cM_edit 180 = .ok (.iconst 0, 1) := by decide +kernel
theorem dM_edit_181 : decode cM_edit 181 = .ok (.istore 14, 2) := by decide +kernel
theorem dM_edit_183 : decode cM_edit 183 = .ok (.iload 17, 2) := by decide +kernel
theorem dM_edit_185 : decode cM_edit 185 = .ok (.iconst 4, 1) := by decide +kernel
theorem dM_edit_186 : decode cM_edit 186 = .ok (.if_icmp .lt 14, 3) := by decide +kernel
theorem dM_edit_189 : decode cM_edit 189 = .ok (.iload 17, 2) := by decide +kernel
theorem dM_edit_191 : decode cM_edit 191 = .ok (.bipush 8, 2) := by decide +kernel
theorem dM_edit_193 : decode cM_edit 193 = .ok (.if_icmp .gt 7, 3) := by decide +kernel
theorem dM_edit_196 : decode cM_edit 196 = .ok (.iconst 1, 1) := by decide +kernel
theorem dM_edit_197 : decode cM_edit 197 = .ok (.goto 4, 3) := by decide +kernel
theorem dM_edit_200 : decode cM_edit 200 = .ok (.iconst 0, 1) := by decide +kernel
theorem dM_edit_201 : decode cM_edit 201 = .ok (.istore 18, 2) := by decide +kernel
theorem dM_edit_203 : decode cM_edit 203 = .ok (.iload 18, 2) := by decide +kernel
theorem dM_edit_205 : decode cM_edit 205 = .ok (.ifCond .eq 23, 3) := by decide +kernel
theorem dM_edit_208 : decode cM_edit 208 = .ok (.iload 14, 2) := by decide +kernel
theorem dM_edit_210 : decode cM_edit 210 = .ok (.ifCond .eq 15, 3) := by decide +kernel
theorem dM_edit_213 : decode cM_edit 213 = .ok (.iload 13, 2) := by decide +kernel
theorem dM_edit_215 : decode cM_edit 215 = .ok (.sipush 256, 3) := by decide +kernel
theorem dM_edit_218 : decode cM_edit 218 = .ok (.if_icmp .ge 7, 3) := by decide +kernel
theorem dM_edit_221 : decode cM_edit 221 = .ok (.iconst 1, 1) := by decide +kernel
theorem dM_edit_222 : decode cM_edit 222 = .ok (.goto 4, 3) := by decide +kernel
theorem dM_edit_225 : decode cM_edit 225 = .ok (.iconst 0, 1) := by decide +kernel
theorem dM_edit_226 : decode cM_edit 226 = .ok (.istore 14, 2) := by decide +kernel
theorem dM_edit_228 : decode cM_edit 228 = .ok (.iload 18, 2) := by decide +kernel
theorem dM_edit_230 : decode cM_edit 230 = .ok (.ifCond .eq 18, 3) := by decide +kernel
theorem dM_edit_233 : decode cM_edit 233 = .ok (.iload 14, 2) := by decide +kernel
theorem dM_edit_235 : decode cM_edit 235 = .ok (.ifCond .eq 13, 3) := by decide +kernel
theorem dM_edit_238 : decode cM_edit 238 = .ok (.aload_n 0, 1) := by decide +kernel
theorem dM_edit_239 : decode cM_edit 239 = .ok (.getfield 7, 3) := by decide +kernel
theorem dM_edit_242 : decode cM_edit 242 = .ok (.iload 13, 2) := by decide +kernel
theorem dM_edit_244 : decode cM_edit 244 = .ok (.iaload, 1) := by decide +kernel
theorem dM_edit_245 : decode cM_edit 245 = .ok (.goto 4, 3) := by decide +kernel
theorem dM_edit_248 : decode cM_edit 248 = .ok (.iconst 0, 1) := by decide +kernel
theorem dM_edit_249 : decode cM_edit 249 = .ok (.istore 19, 2) := by decide +kernel
theorem dM_edit_251 : decode cM_edit 251 = .ok (.iload 18, 2) := by decide +kernel
theorem dM_edit_253 : decode cM_edit 253 = .ok (.ifCond .eq 6, 3) := by decide +kernel
theorem dM_edit_256 : decode cM_edit 256 = .ok (.iinc 13 1, 3) := by decide +kernel
theorem dM_edit_259 : decode cM_edit 259 = .ok (.iload 17, 2) := by decide +kernel
theorem dM_edit_261 : decode cM_edit 261 = .ok (.bipush 16, 2) := by decide +kernel
theorem dM_edit_263 : decode cM_edit 263 = .ok (.idiv, 1) := by decide +kernel
theorem dM_edit_264 : decode cM_edit 264 = .ok (.istore 20, 2) := by decide +kernel
theorem dM_edit_266 : decode cM_edit 266 = .ok (.iload 17, 2) := by decide +kernel
theorem dM_edit_268 : decode cM_edit 268 = .ok (.bipush 16, 2) := by decide +kernel
theorem dM_edit_270 : decode cM_edit 270 = .ok (.irem, 1) := by decide +kernel
theorem dM_edit_271 : decode cM_edit 271 = .ok (.istore 21, 2) := by decide +kernel
theorem dM_edit_273 : decode cM_edit 273 = .ok (.iload 20, 2) := by decide +kernel
theorem dM_edit_275 : decode cM_edit 275 = .ok (.bipush 8, 2) := by decide +kernel
theorem dM_edit_277 : decode cM_edit 277 = .ok (.if_icmp .lt 19, 3) := by decide +kernel
theorem dM_edit_280 : decode cM_edit 280 = .ok (.iload 20, 2) := by decide +kernel
theorem dM_edit_282 : decode cM_edit 282 = .ok (.bipush 10, 2) := by decide +kernel
theorem dM_edit_284 : decode cM_edit 284 = .ok (.if_icmp .gt 12, 3) := by decide +kernel
theorem dM_edit_287 : decode cM_edit 287 = .ok (.iload 21, 2) := by decide +kernel
theorem dM_edit_289 : decode cM_edit 289 = .ok (.ifCond .le 7, 3) := by decide +kernel
theorem dM_edit_292 : decode cM_edit 292 = .ok (.iconst 1, 1) := by decide +kernel
theorem dM_edit_293 : decode cM_edit 293 = .ok (.goto 4, 3) := by decide +kernel
theorem dM_edit_296 : decode cM_edit 296 = .ok (.iconst 0, 1) := by decide +kernel
theorem dM_edit_297 : decode cM_edit 297 = .ok (.istore 22, 2) := by decide +kernel
theorem dM_edit_299 : decode cM_edit 299 = .ok (.iload 14, 2) := by decide +kernel
theorem dM_edit_301 : decode cM_edit 301 = .ok (.ifCond .eq 19, 3) := by decide +kernel
theorem dM_edit_304 : decode cM_edit 304 = .ok (.iload 17, 2) := by decide +kernel
theorem dM_edit_306 : decode cM_edit 306 = .ok (.bipush 8, 2) := by decide +kernel
theorem dM_edit_308 : decode cM_edit 308 = .ok (.if_icmp .le 8, 3) := by decide +kernel
theorem dM_edit_311 : decode cM_edit 311 = .ok (.iload 22, 2) := by decide +kernel
theorem dM_edit_313 : decode cM_edit 313 = .ok (.ifCond .eq 7, 3) := by decide +kernel
theorem dM_edit_316 : decode cM_edit 316 = .ok (.iconst 1, 1) := by decide +kernel
theorem dM_edit_317 : decode cM_edit 317 = .ok (.goto 4, 3) := by decide +kernel
theorem dM_edit_320 : decode cM_edit 320 = .ok (.iconst 0, 1) := by decide +kernel
theorem dM_edit_321 : decode cM_edit 321 = .ok (.istore 14, 2) := by decide +kernel
theorem dM_edit_323 : decode cM_edit 323 = .ok (.iload 14, 2) := by decide +kernel
theorem dM_edit_325 : decode cM_edit 325 = .ok (.ifCond .eq 12, 3) := by decide +kernel
theorem dM_edit_328 : decode cM_edit 328 = .ok (.iload 17, 2) := by decide +kernel
theorem dM_edit_330 : decode cM_edit 330 = .ok (.iconst 1, 1) := by decide +kernel
theorem dM_edit_331 : decode cM_edit 331 = .ok (.if_icmp .ne 6, 3) := by decide +kernel
theorem dM_edit_334 : decode cM_edit 334 = .ok (.iconst 0, 1) := by decide +kernel
theorem dM_edit_335 : decode cM_edit 335 = .ok (.istore 10, 2) := by decide +kernel
theorem dM_edit_337 : decode cM_edit 337 = .ok (.iload 14, 2) := by decide +kernel
theorem dM_edit_339 : decode cM_edit 339 = .ok (.ifCond .eq 12, 3) := by decide +kernel
theorem dM_edit_342 : decode cM_edit 342 = .ok (.iload 17, 2) := by decide +kernel
theorem dM_edit_344 : decode cM_edit 344 = .ok (.iconst 2, 1) := by decide +kernel
theorem dM_edit_345 : decode cM_edit 345 = .ok (.if_icmp .ne 6, 3) := by decide +kernel
theorem dM_edit_348 : decode cM_edit 348 = .ok (.iconst 1, 1) := by decide +kernel
theorem dM_edit_349 : decode cM_edit 349 = .ok (.istore 10, 2) := by decide +kernel
theorem dM_edit_351 : decode cM_edit 351 = .ok (.iload 14, 2) := by decide +kernel
theorem dM_edit_353 : decode cM_edit 353 = .ok (.ifCond .eq 13, 3) := by decide +kernel
theorem dM_edit_356 : decode cM_edit 356 = .ok (.iload 17, 2) := by decide +kernel
theorem dM_edit_358 : decode cM_edit 358 = .ok (.iconst 4, 1) := by decide +kernel
theorem dM_edit_359 : decode cM_edit 359 = .ok (.if_icmp .ne 7, 3) := by decide +kernel
theorem dM_edit_362 : decode cM_edit 362 = .ok (.iload 19, 2) := by decide +kernel
theorem dM_edit_364 : decode cM_edit 364 = .ok (.istore 8, 2) := by decide +kernel
theorem dM_edit_366 : decode cM_edit 366 = .ok (.iload 14, 2) := by decide +kernel
theorem dM_edit_368 : decode cM_edit 368 = .ok (.ifCond .eq 18, 3) := by decide +kernel
theorem dM_edit_371 : decode cM_edit 371 = .ok (.iload 17, 2) := by decide +kernel
theorem dM_edit_373 : decode cM_edit 373 = .ok (.iconst 5, 1) := by decide +kernel
theorem dM_edit_374 : decode cM_edit 374 = .ok (.if_icmp .ne 12, 3) := by decide +kernel
theorem dM_edit_377 : decode cM_edit 377 = .ok (.iload 7, 2) := by decide +kernel
theorem dM_edit_379 : decode cM_edit 379 = .ok (.ifCond .ne 7, 3) := by decide +kernel
theorem dM_edit_382 : decode cM_edit 382 = .ok (.iload 19, 2) := by decide +kernel
theorem dM_edit_384 : decode cM_edit 384 = .ok (.istore 9, 2) := by decide +kernel
theorem dM_edit_386 : decode cM_edit 386 = .ok (.iload 14, 2) := by decide +kernel
theorem dM_edit_388 : decode cM_edit 388 = .ok (.ifCond .eq 19, 3) := by decide +kernel
theorem dM_edit_391 : decode cM_edit 391 = .ok (.iload 17, 2) := by decide +kernel
theorem dM_edit_393 : decode cM_edit 393 = .ok (.bipush 6, 2) := by decide +kernel
theorem dM_edit_395 : decode cM_edit 395 = .ok (.if_icmp .ne 12, 3) := by decide +kernel
theorem dM_edit_398 : decode cM_edit 398 = .ok (.iload 7, 2) := by decide +kernel
theorem dM_edit_400 : decode cM_edit 400 = .ok (.ifCond .eq 7, 3) := by decide +kernel
theorem dM_edit_403 : decode cM_edit 403 = .ok (.iload 19, 2) := by decide +kernel
theorem dM_edit_405 : decode cM_edit 405 = .ok (.istore 9, 2) := by decide +kernel
theorem dM_edit_407 : decode cM_edit 407 = .ok (.iload 14, 2) := by decide +kernel
theorem dM_edit_409 : decode cM_edit 409 = .ok (.ifCond .eq 64, 3) := by decide +kernel
theorem dM_edit_412 : decode cM_edit 412 = .ok (.iload 17, 2) := by decide +kernel
theorem dM_edit_414 : decode cM_edit 414 = .ok (.bipush 8, 2) := by decide +kernel
theorem dM_edit_416 : decode cM_edit 416 = .ok (.if_icmp .ne 57, 3) := by decide +kernel
theorem dM_edit_419 : decode cM_edit 419 = .ok (.iload 19, 2) := by decide +kernel
theorem dM_edit_421 : decode cM_edit 421 = .ok (.iload 12, 2) := by decide +kernel
theorem dM_edit_423 : decode cM_edit 423 = .ok (.if_icmp .gt 7, 3) := by decide +kernel
theorem dM_edit_426 : decode cM_edit 426 = .ok (.iconst 1, 1) := by decide +kernel
theorem dM_edit_427 : decode cM_edit 427 = .ok (.goto 4, 3) := by decide +kernel
theorem dM_edit_430 : decode cM_edit 430 = .ok (.iconst 0, 1) := by decide +kernel
theorem dM_edit_431 : decode cM_edit 431 = .ok (.istore 14, 2) := by decide +kernel
theorem dM_edit_433 : decode cM_edit 433 = .ok (.iconst 0, 1) := by decide +kernel
theorem dM_edit_434 : decode cM_edit 434 = .ok (.istore 23, 2) := by decide +kernel
theorem dM_edit_436 : decode cM_edit 436 = .ok (.iload 14, 2) := by decide +kernel
theorem dM_edit_438 : decode cM_edit 438 = .ok (.ifCond .eq 35, 3) := by decide +kernel
theorem dM_edit_441 : decode cM_edit 441 = .ok (.iload 6, 2) := by decide +kernel
theorem dM_edit_443 : decode cM_edit 443 = .ok (.ifCond .eq 30, 3) := by decide +kernel
theorem dM_edit_446 : decode cM_edit 446 = .ok (.iload 23, 2) := by decide +kernel
theorem dM_edit_448 : decode cM_edit 448 = .ok (.iload 19, 2) := by decide +kernel
theorem dM_edit_450 : decode cM_edit 450 = .ok (.if_icmp .ge 23, 3) := by decide +kernel
theorem dM_edit_453 : decode cM_edit 453 = .ok (.aload_n 0, 1) := by decide +kernel
theorem dM_edit_454 : decode cM_edit 454 = .ok (.getfield 25, 3) := by decide +kernel
theorem dM_edit_457 : decode cM_edit 457 = .ok (.iload 12, 2) := by decide +kernel
theorem dM_edit_459 : decode cM_edit 459 = .ok (.iconst 1, 1) := by decide +kernel
theorem dM_edit_460 : decode cM_edit 460 = .ok (.isub, 1) := by decide +kernel
theorem dM_edit_461 : decode cM_edit 461 = .ok (.iload 23, 2) := by decide +kernel
theorem dM_edit_463 : decode cM_edit 463 = .ok (.isub, 1) := by decide +kernel
theorem dM_edit_464 : decode cM_edit 464 = .ok (.iload 8, 2) := by decide +kernel
theorem dM_edit_466 : decode cM_edit 466 = .ok (.iastore, 1) := by decide +kernel
theorem dM_edit_467 : decode cM_edit 467 = .ok (.iinc 23 1, 3) := by decide +kernel
theorem dM_edit_470 : decode cM_edit 470 = .ok (.goto (-34), 3) := by decide +kernel
theorem dM_edit_473 : decode cM_edit 473 = .ok (.iload 14, 2) := by decide +kernel
theorem dM_edit_475 : decode cM_edit 475 = .ok (.ifCond .eq 68, 3) := by decide +kernel
theorem dM_edit_478 : decode cM_edit 478 = .ok (.iload 17, 2) := by decide +kernel
theorem dM_edit_480 : decode cM_edit 480 = .ok (.iconst 3, 1) := by decide +kernel
theorem dM_edit_481 : decode cM_edit 481 = .ok (.if_icmp .eq 10, 3) := by decide +kernel
theorem dM_edit_484 : decode cM_edit 484 = .ok (.iload 17, 2) := by decide +kernel
theorem dM_edit_486 : decode cM_edit 486 = .ok (.bipush 7, 2) := by decide +kernel
theorem dM_edit_488 : decode cM_edit 488 = .ok (.if_icmp .ne 55, 3) := by decide +kernel
theorem dM_edit_491 : decode cM_edit 491 = .ok (.iload 12, 2) := by decide +kernel
theorem dM_edit_493 : decode cM_edit 493 = .ok (.bipush 64, 2) := by decide +kernel
theorem dM_edit_495 : decode cM_edit 495 = .ok (.if_icmp .ge 7, 3) := by decide +kernel
theorem dM_edit_498 : decode cM_edit 498 = .ok (.iconst 1, 1) := by decide +kernel
theorem dM_edit_499 : decode cM_edit 499 = .ok (.goto 4, 3) := by decide +kernel
theorem dM_edit_502 : decode cM_edit 502 = .ok (.iconst 0, 1) := by decide +kernel
theorem dM_edit_503 : decode cM_edit 503 = .ok (.istore 14, 2) := by decide +kernel
theorem dM_edit_505 : decode cM_edit 505 = .ok (.iload 14, 2) := by decide +kernel
theorem dM_edit_507 : decode cM_edit 507 = .ok (.ifCond .eq 33, 3) := by decide +kernel
theorem dM_edit_510 : decode cM_edit 510 = .ok (.aload_n 0, 1) := by decide +kernel
theorem dM_edit_511 : decode cM_edit 511 = .ok (.getfield 25, 3) := by decide +kernel
theorem dM_edit_514 : decode cM_edit 514 = .ok (.iload 12, 2) := by decide +kernel
theorem dM_edit_516 : decode cM_edit 516 = .ok (.iload 17, 2) := by decide +kernel
theorem dM_edit_518 : decode cM_edit 518 = .ok (.iconst 3, 1) := by decide +kernel
theorem dM_edit_519 : decode cM_edit 519 = .ok (.if_icmp .ne 8, 3) := by decide +kernel
theorem dM_edit_522 : decode cM_edit 522 = .ok (.iload 9, 2) := by decide +kernel
theorem dM_edit_524 : decode cM_edit 524 = .ok (.goto 15, 3) := by decide +kernel
theorem dM_edit_527 : decode cM_edit 527 = .ok (.iload 10, 2) := by decide +kernel
theorem dM_edit_529 : decode cM_edit 529 = .ok (.ifCond .eq 8, 3) := by decide +kernel
theorem dM_edit_532 : decode cM_edit 532 = .ok (.iload 19, 2) := by decide +kernel
theorem dM_edit_534 : decode cM_edit 534 = .ok (.goto 5, 3) := by decide +kernel
theorem dM_edit_537 : decode cM_edit 537 = .ok (.iload 8, 2) := by decide +kernel
theorem dM_edit_539 : decode cM_edit 539 = .ok (.iastore, 1) := by decide +kernel
theorem dM_edit_540 : decode cM_edit 540 = .ok (.iinc 12 1, 3) := by decide +kernel
theorem dM_edit_543 : decode cM_edit 543 = .ok (.iconst 0, 1) := by decide +kernel
theorem dM_edit_544 : decode cM_edit 544 = .ok (.istore 23, 2) := by decide +kernel
theorem dM_edit_546 : decode cM_edit 546 = .ok (.iload 14, 2) := by decide +kernel
theorem dM_edit_548 : decode cM_edit 548 = .ok (.ifCond .eq 208, 3) := by decide +kernel
theorem dM_edit_551 : decode cM_edit 551 = .ok (.iload 22, 2) := by decide +kernel
theorem dM_edit_553 : decode cM_edit 553 = .ok (.ifCond .eq 203, 3) := by decide +kernel
theorem dM_edit_556 : decode cM_edit 556 = .ok (.iload 23, 2) := by decide +kernel
theorem dM_edit_558 : decode cM_edit 558 = .ok (.iload 21, 2) := by decide +kernel
theorem dM_edit_560 : decode cM_edit 560 = .ok (.if_icmp .ge 196, 3) := by decide +kernel
theorem dM_edit_563 : decode cM_edit 563 = .ok (.iload 20, 2) := by decide +kernel
theorem dM_edit_565 : decode cM_edit 565 = .ok (.bipush 8, 2) := by decide +kernel
theorem dM_edit_567 : decode cM_edit 567 = .ok (.if_icmp .eq 8, 3) := by decide +kernel
theorem dM_edit_570 : decode cM_edit 570 = .ok (.iload 11, 2) := by decide +kernel
theorem dM_edit_572 : decode cM_edit 572 = .ok (.ifCond .le 7, 3) := by decide +kernel
theorem dM_edit_575 : decode cM_edit 575 = .ok (.iconst 1, 1) := by decide +kernel
theorem dM_edit_576 : decode cM_edit 576 = .ok (.goto 4, 3) := by decide +kernel
theorem dM_edit_579 : decode cM_edit 579 = .ok (.iconst 0, 1) := by decide +kernel
theorem dM_edit_580 : decode cM_edit 580 = .ok (.istore 14, 2) := by decide +kernel
theorem dM_edit_582 : decode cM_edit 582 = .ok (.iload 14, 2) := by decide +kernel
theorem dM_edit_584 : decode cM_edit 584 = .ok (.ifCond .eq 22, 3) := by decide +kernel
theorem dM_edit_587 : decode cM_edit 587 = .ok (.iload 20, 2) := by decide +kernel
theorem dM_edit_589 : decode cM_edit 589 = .ok (.bipush 8, 2) := by decide +kernel
theorem dM_edit_591 : decode cM_edit 591 = .ok (.if_icmp .le 15, 3) := by decide +kernel
theorem dM_edit_594 : decode cM_edit 594 = .ok (.aload_n 0, 1) := by decide +kernel
theorem dM_edit_595 : decode cM_edit 595 = .ok (.getfield 13, 3) := by decide +kernel
theorem dM_edit_598 : decode cM_edit 598 = .ok (.iload 11, 2) := by decide +kernel
theorem dM_edit_600 : decode cM_edit 600 = .ok (.iconst 1, 1) := by decide +kernel
theorem dM_edit_601 : decode cM_edit 601 = .ok (.isub, 1) := by decide +kernel
theorem dM_edit_602 : decode cM_edit 602 = .ok (.iaload, 1) := by decide +kernel
theorem dM_edit_603 : decode cM_edit 603 = .ok (.goto 4, 3) := by decide +kernel
theorem dM_edit_606 : decode cM_edit 606 = .ok (.iconst 0, 1) := by decide +kernel
theorem dM_edit_607 : decode cM_edit 607 = .ok (.istore 24, 2) := by decide +kernel
theorem dM_edit_609 : decode cM_edit 609 = .ok (.iload 11, 2) := by decide +kernel
theorem dM_edit_611 : decode cM_edit 611 = .ok (.iload 20, 2) := by decide +kernel
theorem dM_edit_613 : decode cM_edit 613 = .ok (.bipush 8, 2) := by decide +kernel
theorem dM_edit_615 : decode cM_edit 615 = .ok (.if_icmp .le 7, 3) := by decide +kernel
theorem dM_edit_618 : decode cM_edit 618 = .ok (.iconst 1, 1) := by decide +kernel
theorem dM_edit_619 : decode cM_edit 619 = .ok (.goto 4, 3) := by decide +kernel
theorem dM_edit_622 : decode cM_edit 622 = .ok (.iconst 0, 1) := by decide +kernel
theorem dM_edit_623 : decode cM_edit 623 = .ok (.isub, 1) := by decide +kernel
theorem dM_edit_624 : decode cM_edit 624 = .ok (.istore 11, 2) := by decide +kernel
theorem dM_edit_626 : decode cM_edit 626 = .ok (.iload 14, 2) := by decide +kernel
theorem dM_edit_628 : decode cM_edit 628 = .ok (.ifCond .eq 51, 3) := by decide +kernel
theorem dM_edit_631 : decode cM_edit 631 = .ok (.iload 20, 2) := by decide +kernel
theorem dM_edit_633 : decode cM_edit 633 = .ok (.bipush 10, 2) := by decide +kernel
theorem dM_edit_635 : decode cM_edit 635 = .ok (.if_icmp .ne 44, 3) := by decide +kernel
theorem dM_edit_638 : decode cM_edit 638 = .ok (.iload 24, 2) := by decide +kernel
theorem dM_edit_640 : decode cM_edit 640 = .ok (.ifCond .le 39, 3) := by decide +kernel
theorem dM_edit_643 : decode cM_edit 643 = .ok (.iload 10, 2) := by decide +kernel
theorem dM_edit_645 : decode cM_edit 645 = .ok (.ifCond .ne 34, 3) := by decide +kernel
theorem dM_edit_648 : decode cM_edit 648 = .ok (.iload 12, 2) := by decide +kernel
theorem dM_edit_650 : decode cM_edit 650 = .ok (.bipush 64, 2) := by decide +kernel
theorem dM_edit_652 : decode cM_edit 652 = .ok (.if_icmp .ge 7, 3) := by decide +kernel
theorem dM_edit_655 : decode cM_edit 655 = .ok (.iconst 1, 1) := by decide +kernel
theorem dM_edit_656 : decode cM_edit 656 = .ok (.goto 4, 3) := by decide +kernel
theorem dM_edit_659 : decode cM_edit 659 = .ok (.iconst 0, 1) := by decide +kernel
theorem dM_edit_660 : decode cM_edit 660 = .ok (.istore 14, 2) := by decide +kernel
theorem dM_edit_662 : decode cM_edit 662 = .ok (.iload 14, 2) := by decide +kernel
theorem dM_edit_664 : decode cM_edit 664 = .ok (.ifCond .eq 12, 3) := by decide +kernel
theorem dM_edit_667 : decode cM_edit 667 = .ok (.aload_n 0, 1) := by decide +kernel
theorem dM_edit_668 : decode cM_edit 668 = .ok (.getfield 25, 3) := by decide +kernel
theorem dM_edit_671 : decode cM_edit 671 = .ok (.iload 12, 2) := by decide +kernel
theorem dM_edit_673 : decode cM_edit 673 = .ok (.iload 9, 2) := by decide +kernel
theorem dM_edit_675 : decode cM_edit 675 = .ok (.iastore, 1) := by decide +kernel
theorem dM_edit_676 : decode cM_edit 676 = .ok (.iinc 12 1, 3) := by decide +kernel
theorem dM_edit_679 : decode cM_edit 679 = .ok (.iload 20, 2) := by decide +kernel
theorem dM_edit_681 : decode cM_edit 681 = .ok (.bipush 8, 2) := by decide +kernel
theorem dM_edit_683 : decode cM_edit 683 = .ok (.if_icmp .le 11, 3) := by decide +kernel
theorem dM_edit_686 : decode cM_edit 686 = .ok (.iload 24, 2) := by decide +kernel
theorem dM_edit_688 : decode cM_edit 688 = .ok (.ifCond .le 6, 3) := by decide +kernel
theorem dM_edit_691 : decode cM_edit 691 = .ok (.iconst 1, 1) := by decide +kernel
theorem dM_edit_692 : decode cM_edit 692 = .ok (.istore 10, 2) := by decide +kernel
theorem dM_edit_694 : decode cM_edit 694 = .ok (.iload 14, 2) := by decide +kernel
theorem dM_edit_696 : decode cM_edit 696 = .ok (.ifCond .eq 14, 3) := by decide +kernel
theorem dM_edit_699 : decode cM_edit 699 = .ok (.iload 12, 2) := by decide +kernel
theorem dM_edit_701 : decode cM_edit 701 = .ok (.bipush 64, 2) := by decide +kernel
theorem dM_edit_703 : decode cM_edit 703 = .ok (.if_icmp .ge 7, 3) := by decide +kernel
theorem dM_edit_706 : decode cM_edit 706 = .ok (.iconst 1, 1) := by decide +kernel
theorem dM_edit_707 : decode cM_edit 707 = .ok (.goto 4, 3) := by decide +kernel
theorem dM_edit_710 : decode cM_edit 710 = .ok (.iconst 0, 1) := by decide +kernel
theorem dM_edit_711 : decode cM_edit 711 = .ok (.istore 14, 2) := by decide +kernel
theorem dM_edit_713 : decode cM_edit 713 = .ok (.iload 14, 2) := by decide +kernel
theorem dM_edit_715 : decode cM_edit 715 = .ok (.ifCond .eq 32, 3) := by decide +kernel
theorem dM_edit_718 : decode cM_edit 718 = .ok (.aload_n 0, 1) := by decide +kernel
theorem dM_edit_719 : decode cM_edit 719 = .ok (.getfield 25, 3) := by decide +kernel
theorem dM_edit_722 : decode cM_edit 722 = .ok (.iload 12, 2) := by decide +kernel
theorem dM_edit_724 : decode cM_edit 724 = .ok (.iload 20, 2) := by decide +kernel
theorem dM_edit_726 : decode cM_edit 726 = .ok (.bipush 8, 2) := by decide +kernel
theorem dM_edit_728 : decode cM_edit 728 = .ok (.if_icmp .le 16, 3) := by decide +kernel
theorem dM_edit_731 : decode cM_edit 731 = .ok (.iload 10, 2) := by decide +kernel
theorem dM_edit_733 : decode cM_edit 733 = .ok (.ifCond .eq 11, 3) := by decide +kernel
theorem dM_edit_736 : decode cM_edit 736 = .ok (.bipush 48, 2) := by decide +kernel
theorem dM_edit_738 : decode cM_edit 738 = .ok (.iload 24, 2) := by decide +kernel
theorem dM_edit_740 : decode cM_edit 740 = .ok (.iadd, 1) := by decide +kernel
theorem dM_edit_741 : decode cM_edit 741 = .ok (.goto 5, 3) := by decide +kernel
theorem dM_edit_744 : decode cM_edit 744 = .ok (.iload 8, 2) := by decide +kernel
theorem dM_edit_746 : decode cM_edit 746 = .ok (.iastore, 1) := by decide +kernel
theorem dM_edit_747 : decode cM_edit 747 = .ok (.iinc 12 1, 3) := by decide +kernel
theorem dM_edit_750 : decode cM_edit 750 = .ok (.iinc 23 1, 3) := by decide +kernel
theorem dM_edit_753 : decode cM_edit 753 = .ok (.goto (-207), 3) := by decide +kernel
theorem dM_edit_756 : decode cM_edit 756 = .ok (.iinc 16 1, 3) := by decide +kernel
theorem dM_edit_759 : decode cM_edit 759 = .ok (.goto (-663), 3) := by decide +kernel
theorem dM_edit_762 : decode cM_edit 762 = .ok (.iload 14, 2) := by decide +kernel
theorem dM_edit_764 : decode cM_edit 764 = .ok (.ifCond .eq 8, 3) := by decide +kernel
theorem dM_edit_767 : decode cM_edit 767 = .ok (.iload 11, 2) := by decide +kernel
theorem dM_edit_769 : decode cM_edit 769 = .ok (.ifCond .le 6, 3) := by decide +kernel
theorem dM_edit_772 : decode cM_edit 772 = .ok (.bipush (-2), 2) := by decide +kernel
theorem dM_edit_774 : decode cM_edit 774 = .ok (.ireturn, 1) := by decide +kernel
theorem dM_edit_775 : decode cM_edit 775 = .ok (.iload 4, 2) := by decide +kernel
theorem dM_edit_777 : decode cM_edit 777 = .ok (.iload 12, 2) := by decide +kernel
theorem dM_edit_779 : decode cM_edit 779 = .ok (.invokestatic 32, 3) := by decide +kernel
theorem dM_edit_782 : decode cM_edit 782 = .ok (.ifCond .ne 5, 3) := by decide +kernel
theorem dM_edit_785 : decode cM_edit 785 = .ok (.iconst (-1), 1) := by decide +kernel
theorem dM_edit_786 : decode cM_edit 786 = .ok (.ireturn, 1) := by decide +kernel
theorem dM_edit_787 : decode cM_edit 787 = .ok (.iconst 0, 1) := by decide +kernel
theorem dM_edit_788 : decode cM_edit 788 = .ok (.istore 16, 2) := by decide +kernel
theorem dM_edit_790 : decode cM_edit 790 = .ok (.iload 16, 2) := by decide +kernel
theorem dM_edit_792 : decode cM_edit 792 = .ok (.iload 12, 2) := by decide +kernel
theorem dM_edit_794 : decode cM_edit 794 = .ok (.if_icmp .ge 26, 3) := by decide +kernel
theorem dM_edit_797 : decode cM_edit 797 = .ok (.aload_n 0, 1) := by decide +kernel
theorem dM_edit_798 : decode cM_edit 798 = .ok (.getfield 7, 3) := by decide +kernel
theorem dM_edit_801 : decode cM_edit 801 = .ok (.iload 4, 2) := by decide +kernel
theorem dM_edit_803 : decode cM_edit 803 = .ok (.iload 16, 2) := by decide +kernel
theorem dM_edit_805 : decode cM_edit 805 = .ok (.iadd, 1) := by decide +kernel
theorem dM_edit_806 : decode cM_edit 806 = .ok (.aload_n 0, 1) := by decide +kernel
theorem dM_edit_807 : decode cM_edit 807 = .ok (.getfield 25, 3) := by decide +kernel
theorem dM_edit_810 : decode cM_edit 810 = .ok (.iload 16, 2) := by decide +kernel
theorem dM_edit_812 : decode cM_edit 812 = .ok (.iaload, 1) := by decide +kernel
theorem dM_edit_813 : decode cM_edit 813 = .ok (.iastore, 1) := by decide +kernel
theorem dM_edit_814 : decode cM_edit 814 = .ok (.iinc 16 1, 3) := by decide +kernel
theorem dM_edit_817 : decode cM_edit 817 = .ok (.goto (-27), 3) := by decide +kernel
theorem dM_edit_820 : decode cM_edit 820 = .ok (.aload_n 0, 1) := by decide +kernel
theorem dM_edit_821 : decode cM_edit 821 = .ok (.iload 10, 2) := by decide +kernel
theorem dM_edit_823 : decode cM_edit 823 = .ok (.putfield 85, 3) := by decide +kernel
theorem dM_edit_826 : decode cM_edit 826 = .ok (.iload 12, 2) := by decide +kernel
theorem dM_edit_828 : decode cM_edit 828 = .ok (.ireturn, 1) := by decide +kernel
theorem dM_significant_0 : decode cM_significant 0 = .ok (.aload_n 0, 1) := by decide +kernel
theorem dM_significant_1 : decode cM_significant 1 = .ok (.getfield 85, 3) := by decide +kernel
theorem dM_significant_4 : decode cM_significant 4 = .ok (.ireturn, 1) := by decide +kernel
