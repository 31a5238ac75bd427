theorem dW_init_0 : decode cW_init 0 = .ok (.aload_n 0, 1) := by decide +kernel
theorem dW_init_1 : decode cW_init 1 = .ok (.invokespecial 3, 3) := by decide +kernel
theorem dW_init_4 : decode cW_init 4 = .ok (.aload_n 0, 1) := by decide +kernel
theorem dW_init_5 : decode cW_init 5 = .ok (.bipush 64, 2) := by decide +kernel
theorem dW_init_7 : decode cW_init 7 = .ok (.newarray .int, 2) := by decide +kernel
theorem dW_init_9 : decode cW_init 9 = .ok (.putfield 9, 3) := by decide +kernel
theorem dW_init_12 : decode cW_init 12 = .ok (.aload_n 0, 1) := by decide +kernel
theorem dW_init_13 : decode cW_init 13 = .ok (.bipush 31, 2) := by decide +kernel
theorem dW_init_15 : decode cW_init 15 = .ok (.newarray .int, 2) := by decide +kernel
theorem dW_init_17 : decode cW_init 17 = .ok (.putfield 15, 3) := by decide +kernel
theorem dW_init_20 : decode cW_init 20 = .ok (.return_, 1) := by decide +kernel
theorem dW_begin_0 : decode cW_begin 0 = .ok (.iconst 0, 1) := by decide +kernel
theorem dW_begin_1 : decode cW_begin 1 = .ok (.istore_n 3, 1) := by decide +kernel
theorem dW_begin_2 : decode cW_begin 2 = .ok (.iload_n 3, 1) := by decide +kernel
theorem dW_begin_3 : decode cW_begin 3 = .ok (.bipush 31, 2) := by decide +kernel
theorem dW_begin_5 : decode cW_begin 5 = .ok (.if_icmp .ge 20, 3) := by decide +kernel
theorem dW_begin_8 : decode cW_begin 8 = .ok (.aload_n 0, 1) := by decide +kernel
theorem dW_begin_9 : decode cW_begin 9 = .ok (.getfield 15, 3) := by decide +kernel
theorem dW_begin_12 : decode cW_begin 12 = .ok (.iload_n 3, 1) := by decide +kernel
theorem dW_begin_13 : decode cW_begin 13 = .ok (.aload_n 1, 1) := by decide +kernel
theorem dW_begin_14 : decode cW_begin 14 = .ok (.iload_n 3, 1) := by decide +kernel
theorem dW_begin_15 : decode cW_begin 15 = .ok (.invokevirtual 18, 3) := by decide +kernel
theorem dW_begin_18 : decode cW_begin 18 = .ok (.iastore, 1) := by decide +kernel
theorem dW_begin_19 : decode cW_begin 19 = .ok (.iinc 3 1, 3) := by decide +kernel
theorem dW_begin_22 : decode cW_begin 22 = .ok (.goto (-20), 3) := by decide +kernel
theorem dW_begin_25 : decode cW_begin 25 = .ok (.aload_n 0, 1) := by decide +kernel
theorem dW_begin_26 : decode cW_begin 26 = .ok (.iconst 0, 1) := by decide +kernel
theorem dW_begin_27 : decode cW_begin 27 = .ok (.putfield 24, 3) := by decide +kernel
theorem dW_begin_30 : decode cW_begin 30 = .ok (.aload_n 0, 1) := by decide +kernel
theorem dW_begin_31 : decode cW_begin 31 = .ok (.iload_n 2, 1) := by decide +kernel
theorem dW_begin_32 : decode cW_begin 32 = .ok (.putfield 28, 3) := by decide +kernel
theorem dW_begin_35 : decode cW_begin 35 = .ok (.aload_n 0, 1) := by decide +kernel
theorem dW_begin_36 : decode cW_begin 36 = .ok (.iconst 0, 1) := by decide +kernel
theorem dW_begin_37 : decode cW_begin 37 = .ok (.putfield 31, 3) := by decide +kernel
theorem dW_begin_40 : decode cW_begin 40 = .ok (.aload_n 0, 1) := by decide +kernel
theorem dW_begin_41 : decode cW_begin 41 = .ok (.aload_n 1, 1) := by decide +kernel
theorem dW_begin_42 : decode cW_begin 42 = .ok (.getfield 35, 3) := by decide +kernel
theorem dW_begin_45 : decode cW_begin 45 = .ok (.putfield 38, 3) := by decide +kernel
theorem dW_begin_48 : decode cW_begin 48 = .ok (.aload_n 0, 1) := by decide +kernel
theorem dW_begin_49 : decode cW_begin 49 = .ok (.aload_n 1, 1) := by decide +kernel
theorem dW_begin_50 : decode cW_begin 50 = .ok (.invokevirtual 41, 3) := by decide +kernel
theorem dW_begin_53 : decode cW_begin 53 = .ok (.putfield 45, 3) := by decide +kernel
theorem dW_begin_56 : decode cW_begin 56 = .ok (.aload_n 0, 1) := by decide +kernel
theorem dW_begin_57 : decode cW_begin 57 = .ok (.bipush 32, 2) := by decide +kernel
theorem dW_begin_59 : decode cW_begin 59 = .ok (.putfield 48, 3) := by decide +kernel
theorem dW_begin_62 : decode cW_begin 62 = .ok (.aload_n 0, 1) := by decide +kernel
theorem dW_begin_63 : decode cW_begin 63 = .ok (.aload_n 0, 1) := by decide +kernel
theorem dW_begin_64 : decode cW_begin 64 = .ok (.getfield 38, 3) := by decide +kernel
theorem dW_begin_67 : decode cW_begin 67 = .ok (.ifCond .eq 8, 3) := by decide +kernel
theorem dW_begin_70 : decode cW_begin 70 = .ok (.bipush 45, 2) := by decide +kernel
theorem dW_begin_72 : decode cW_begin 72 = .ok (.goto 5, 3) := by decide +kernel
theorem dW_begin_75 : decode cW_begin 75 = .ok (.bipush 32, 2) := by decide +kernel
theorem dW_begin_77 : decode cW_begin 77 = .ok (.putfield 51, 3) := by decide +kernel
theorem dW_begin_80 : decode cW_begin 80 = .ok (.return_, 1) := by decide +kernel
theorem dW_takesNext_0 : decode cW_takesNext 0 = .ok (.iload_n 0, 1) := by decide +kernel
theorem dW_takesNext_1 : decode cW_takesNext 1 = .ok (.iconst 4, 1) := by decide +kernel
theorem dW_takesNext_2 : decode cW_takesNext 2 = .ok (.if_icmp .lt 13, 3) := by decide +kernel
theorem dW_takesNext_5 : decode cW_takesNext 5 = .ok (.iload_n 0, 1) := by decide +kernel
theorem dW_takesNext_6 : decode cW_takesNext 6 = .ok (.bipush 8, 2) := by decide +kernel
theorem dW_takesNext_8 : decode cW_takesNext 8 = .ok (.if_icmp .gt 7, 3) := by decide +kernel
theorem dW_takesNext_11 : decode cW_takesNext 11 = .ok (.iconst 1, 1) := by decide +kernel
theorem dW_takesNext_12 : decode cW_takesNext 12 = .ok (.goto 4, 3) := by decide +kernel
theorem dW_takesNext_15 : decode cW_takesNext 15 = .ok (.iconst 0, 1) := by decide +kernel
theorem dW_takesNext_16 : decode cW_takesNext 16 = .ok (.ireturn, 1) := by decide +kernel
theorem dW_characterAt_0 : decode cW_characterAt 0 = .ok (.iload_n 1, 1) := by decide +kernel
theorem dW_characterAt_1 : decode cW_characterAt 1 = .ok (.ifCond .lt 18, 3) := by decide +kernel
theorem dW_characterAt_4 : decode cW_characterAt 4 = .ok (.iload_n 1, 1) := by decide +kernel
theorem dW_characterAt_5 : decode cW_characterAt 5 = .ok (.bipush 64, 2) := by decide +kernel
theorem dW_characterAt_7 : decode cW_characterAt 7 = .ok (.if_icmp .ge 12, 3) := by decide +kernel
theorem dW_characterAt_10 : decode cW_characterAt 10 = .ok (.aload_n 0, 1) := by decide +kernel
theorem dW_characterAt_11 : decode cW_characterAt 11 = .ok (.getfield 9, 3) := by decide +kernel
theorem dW_characterAt_14 : decode cW_characterAt 14 = .ok (.iload_n 1, 1) := by decide +kernel
theorem dW_characterAt_15 : decode cW_characterAt 15 = .ok (.iaload, 1) := by decide +kernel
theorem dW_characterAt_16 : decode cW_characterAt 16 = .ok (.goto 5, 3) := by decide +kernel
theorem dW_characterAt_19 : decode cW_characterAt 19 = .ok (.bipush 32, 2) := by decide +kernel
theorem dW_characterAt_21 : decode cW_characterAt 21 = .ok (.ireturn, 1) := by decide +kernel
theorem dW_obey_0 : decode cW_obey 0 = .ok (.iload_n 1, 1) := by decide +kernel
theorem dW_obey_1 : decode cW_obey 1 = .ok (.sipush 160, 3) := by decide +kernel
theorem dW_obey_4 : decode cW_obey 4 = .ok (.invokestatic 54, 3) := by decide +kernel
theorem dW_obey_7 : decode cW_obey 7 = .ok (.ifCond .eq 14, 3) := by decide +kernel
theorem dW_obey_10 : decode cW_obey 10 = .ok (.aload_n 0, 1) := by decide +kernel
theorem dW_obey_11 : decode cW_obey 11 = .ok (.iload_n 1, 1) := by decide +kernel
theorem dW_obey_12 : decode cW_obey 12 = .ok (.sipush 160, 3) := by decide +kernel
theorem dW_obey_15 : decode cW_obey 15 = .ok (.isub, 1) := by decide +kernel
theorem dW_obey_16 : decode cW_obey 16 = .ok (.iconst 1, 1) := by decide +kernel
theorem dW_obey_17 : decode cW_obey 17 = .ok (.invokevirtual 58, 3) := by decide +kernel
theorem dW_obey_20 : decode cW_obey 20 = .ok (.ireturn, 1) := by decide +kernel
theorem dW_obey_21 : decode cW_obey 21 = .ok (.iload_n 1, 1) := by decide +kernel
theorem dW_obey_22 : decode cW_obey 22 = .ok (.sipush 144, 3) := by decide +kernel
theorem dW_obey_25 : decode cW_obey 25 = .ok (.invokestatic 54, 3) := by decide +kernel
theorem dW_obey_28 : decode cW_obey 28 = .ok (.ifCond .eq 14, 3) := by decide +kernel
theorem dW_obey_31 : decode cW_obey 31 = .ok (.aload_n 0, 1) := by decide +kernel
theorem dW_obey_32 : decode cW_obey 32 = .ok (.iload_n 1, 1) := by decide +kernel
theorem dW_obey_33 : decode cW_obey 33 = .ok (.sipush 144, 3) := by decide +kernel
theorem dW_obey_36 : decode cW_obey 36 = .ok (.isub, 1) := by decide +kernel
theorem dW_obey_37 : decode cW_obey 37 = .ok (.iconst 0, 1) := by decide +kernel
theorem dW_obey_38 : decode cW_obey 38 = .ok (.invokevirtual 58, 3) := by decide +kernel
theorem dW_obey_41 : decode cW_obey 41 = .ok (.ireturn, 1) := by decide +kernel
theorem dW_obey_42 : decode cW_obey 42 = .ok (.iload_n 1, 1) := by decide +kernel
theorem dW_obey_43 : decode cW_obey 43 = .ok (.sipush 128, 3) := by decide +kernel
theorem dW_obey_46 : decode cW_obey 46 = .ok (.invokestatic 54, 3) := by decide +kernel
theorem dW_obey_49 : decode cW_obey 49 = .ok (.ifCond .eq 13, 3) := by decide +kernel
theorem dW_obey_52 : decode cW_obey 52 = .ok (.aload_n 0, 1) := by decide +kernel
theorem dW_obey_53 : decode cW_obey 53 = .ok (.iload_n 1, 1) := by decide +kernel
theorem dW_obey_54 : decode cW_obey 54 = .ok (.sipush 128, 3) := by decide +kernel
theorem dW_obey_57 : decode cW_obey 57 = .ok (.isub, 1) := by decide +kernel
theorem dW_obey_58 : decode cW_obey 58 = .ok (.invokevirtual 62, 3) := by decide +kernel
theorem dW_obey_61 : decode cW_obey 61 = .ok (.ireturn, 1) := by decide +kernel
theorem dW_obey_62 : decode cW_obey 62 = .ok (.iload_n 1, 1) := by decide +kernel
theorem dW_obey_63 : decode cW_obey 63 = .ok (.invokestatic 66, 3) := by decide +kernel
theorem dW_obey_66 : decode cW_obey 66 = .ok (.ifCond .eq 22, 3) := by decide +kernel
theorem dW_obey_69 : decode cW_obey 69 = .ok (.iload_n 2, 1) := by decide +kernel
theorem dW_obey_70 : decode cW_obey 70 = .ok (.ifCond .lt 16, 3) := by decide +kernel
theorem dW_obey_73 : decode cW_obey 73 = .ok (.aload_n 0, 1) := by decide +kernel
theorem dW_obey_74 : decode cW_obey 74 = .ok (.iload_n 1, 1) := by decide +kernel
theorem dW_obey_75 : decode cW_obey 75 = .ok (.iload_n 2, 1) := by decide +kernel
theorem dW_obey_76 : decode cW_obey 76 = .ok (.invokevirtual 69, 3) := by decide +kernel
theorem dW_obey_79 : decode cW_obey 79 = .ok (.ifCond .eq 7, 3) := by decide +kernel
theorem dW_obey_82 : decode cW_obey 82 = .ok (.iconst 1, 1) := by decide +kernel
theorem dW_obey_83 : decode cW_obey 83 = .ok (.goto 4, 3) := by decide +kernel
theorem dW_obey_86 : decode cW_obey 86 = .ok (.iconst 0, 1) := by decide +kernel
theorem dW_obey_87 : decode cW_obey 87 = .ok (.ireturn, 1) := by decide +kernel
theorem dW_obey_88 : decode cW_obey 88 = .ok (.iload_n 1, 1) := by decide +kernel
theorem dW_obey_89 : decode cW_obey 89 = .ok (.iconst 1, 1) := by decide +kernel
theorem dW_obey_90 : decode cW_obey 90 = .ok (.if_icmp .eq 8, 3) := by decide +kernel
theorem dW_obey_93 : decode cW_obey 93 = .ok (.iload_n 1, 1) := by decide +kernel
theorem dW_obey_94 : decode cW_obey 94 = .ok (.iconst 2, 1) := by decide +kernel
theorem dW_obey_95 : decode cW_obey 95 = .ok (.if_icmp .ne 19, 3) := by decide +kernel
theorem dW_obey_98 : decode cW_obey 98 = .ok (.aload_n 0, 1) := by decide +kernel
theorem dW_obey_99 : decode cW_obey 99 = .ok (.iload_n 1, 1) := by decide +kernel
theorem dW_obey_100 : decode cW_obey 100 = .ok (.iconst 2, 1) := by decide +kernel
theorem dW_obey_101 : decode cW_obey 101 = .ok (.if_icmp .ne 7, 3) := by decide +kernel
theorem dW_obey_104 : decode cW_obey 104 = .ok (.iconst 1, 1) := by decide +kernel
theorem dW_obey_105 : decode cW_obey 105 = .ok (.goto 4, 3) := by decide +kernel
theorem dW_obey_108 : decode cW_obey 108 = .ok (.iconst 0, 1) := by decide +kernel
theorem dW_obey_109 : decode cW_obey 109 = .ok (.putfield 31, 3) := by decide +kernel
theorem dW_obey_112 : decode cW_obey 112 = .ok (.iconst 1, 1) := by decide +kernel
theorem dW_obey_113 : decode cW_obey 113 = .ok (.ireturn, 1) := by decide +kernel
theorem dW_obey_114 : decode cW_obey 114 = .ok (.iload_n 1, 1) := by decide +kernel
theorem dW_obey_115 : decode cW_obey 115 = .ok (.iconst 3, 1) := by decide +kernel
theorem dW_obey_116 : decode cW_obey 116 = .ok (.if_icmp .ne 18, 3) := by decide +kernel
theorem dW_obey_119 : decode cW_obey 119 = .ok (.aload_n 0, 1) := by decide +kernel
theorem dW_obey_120 : decode cW_obey 120 = .ok (.aload_n 0, 1) := by decide +kernel
theorem dW_obey_121 : decode cW_obey 121 = .ok (.getfield 51, 3) := by decide +kernel
theorem dW_obey_124 : decode cW_obey 124 = .ok (.invokevirtual 72, 3) := by decide +kernel
theorem dW_obey_127 : decode cW_obey 127 = .ok (.ifCond .eq 7, 3) := by decide +kernel
theorem dW_obey_130 : decode cW_obey 130 = .ok (.iconst 1, 1) := by decide +kernel
theorem dW_obey_131 : decode cW_obey 131 = .ok (.goto 4, 3) := by decide +kernel
theorem dW_obey_134 : decode cW_obey 134 = .ok (.iconst 0, 1) := by decide +kernel
theorem dW_obey_135 : decode cW_obey 135 = .ok (.ireturn, 1) := by decide +kernel
theorem dW_isRun_0 : decode cW_isRun 0 = .ok (.iload_n 0, 1) := by decide +kernel
theorem dW_isRun_1 : decode cW_isRun 1 = .ok (.iload_n 1, 1) := by decide +kernel
theorem dW_isRun_2 : decode cW_isRun 2 = .ok (.if_icmp .le 15, 3) := by decide +kernel
theorem dW_isRun_5 : decode cW_isRun 5 = .ok (.iload_n 0, 1) := by decide +kernel
theorem dW_isRun_6 : decode cW_isRun 6 = .ok (.iload_n 1, 1) := by decide +kernel
theorem dW_isRun_7 : decode cW_isRun 7 = .ok (.bipush 15, 2) := by decide +kernel
theorem dW_isRun_9 : decode cW_isRun 9 = .ok (.iadd, 1) := by decide +kernel
theorem dW_isRun_10 : decode cW_isRun 10 = .ok (.if_icmp .gt 7, 3) := by decide +kernel
theorem dW_isRun_13 : decode cW_isRun 13 = .ok (.iconst 1, 1) := by decide +kernel
theorem dW_isRun_14 : decode cW_isRun 14 = .ok (.goto 4, 3) := by decide +kernel
theorem dW_isRun_17 : decode cW_isRun 17 = .ok (.iconst 0, 1) := by decide +kernel
theorem dW_isRun_18 : decode cW_isRun 18 = .ok (.ireturn, 1) := by decide +kernel
theorem dW_obeyWithNext_0 : decode cW_obeyWithNext 0 = .ok (.iload_n 1, 1) := by decide +kernel
theorem dW_obeyWithNext_1 : decode cW_obeyWithNext 1 = .ok (.tableswitch 110 4 8 #[35, 42, 63, 84, 104], 35) := by decide +kernel
theorem dW_obeyWithNext_36 : decode cW_obeyWithNext 36 = .ok (.aload_n 0, 1) := by decide +kernel
theorem dW_obeyWithNext_37 : decode cW_obeyWithNext 37 = .ok (.iload_n 2, 1) := by decide +kernel
theorem dW_obeyWithNext_38 : decode cW_obeyWithNext 38 = .ok (.putfield 48, 3) := by decide +kernel
theorem dW_obeyWithNext_41 : decode cW_obeyWithNext 41 = .ok (.iconst 1, 1) := by decide +kernel
theorem dW_obeyWithNext_42 : decode cW_obeyWithNext 42 = .ok (.ireturn, 1) := by decide +kernel
theorem dW_obeyWithNext_43 : decode cW_obeyWithNext 43 = .ok (.aload_n 0, 1) := by decide +kernel
theorem dW_obeyWithNext_44 : decode cW_obeyWithNext 44 = .ok (.aload_n 0, 1) := by decide +kernel
theorem dW_obeyWithNext_45 : decode cW_obeyWithNext 45 = .ok (.getfield 38, 3) := by decide +kernel
theorem dW_obeyWithNext_48 : decode cW_obeyWithNext 48 = .ok (.ifCond .eq 10, 3) := by decide +kernel
theorem dW_obeyWithNext_51 : decode cW_obeyWithNext 51 = .ok (.aload_n 0, 1) := by decide +kernel
theorem dW_obeyWithNext_52 : decode cW_obeyWithNext 52 = .ok (.getfield 51, 3) := by decide +kernel
theorem dW_obeyWithNext_55 : decode cW_obeyWithNext 55 = .ok (.goto 4, 3) := by decide +kernel
theorem dW_obeyWithNext_58 : decode cW_obeyWithNext 58 = .ok (.iload_n 2, 1) := by decide +kernel
theorem dW_obeyWithNext_59 : decode cW_obeyWithNext 59 = .ok (.putfield 51, 3) := by decide +kernel
theorem dW_obeyWithNext_62 : decode cW_obeyWithNext 62 = .ok (.iconst 1, 1) := by decide +kernel
theorem dW_obeyWithNext_63 : decode cW_obeyWithNext 63 = .ok (.ireturn, 1) := by decide +kernel
theorem dW_obeyWithNext_64 : decode cW_obeyWithNext 64 = .ok (.aload_n 0, 1) := by decide +kernel
theorem dW_obeyWithNext_65 : decode cW_obeyWithNext 65 = .ok (.aload_n 0, 1) := by decide +kernel
theorem dW_obeyWithNext_66 : decode cW_obeyWithNext 66 = .ok (.getfield 38, 3) := by decide +kernel
theorem dW_obeyWithNext_69 : decode cW_obeyWithNext 69 = .ok (.ifCond .eq 7, 3) := by decide +kernel
theorem dW_obeyWithNext_72 : decode cW_obeyWithNext 72 = .ok (.iload_n 2, 1) := by decide +kernel
theorem dW_obeyWithNext_73 : decode cW_obeyWithNext 73 = .ok (.goto 7, 3) := by decide +kernel
theorem dW_obeyWithNext_76 : decode cW_obeyWithNext 76 = .ok (.aload_n 0, 1) := by decide +kernel
theorem dW_obeyWithNext_77 : decode cW_obeyWithNext 77 = .ok (.getfield 51, 3) := by decide +kernel
theorem dW_obeyWithNext_80 : decode cW_obeyWithNext 80 = .ok (.putfield 51, 3) := by decide +kernel
theorem dW_obeyWithNext_83 : decode cW_obeyWithNext 83 = .ok (.iconst 1, 1) := by decide +kernel
theorem dW_obeyWithNext_84 : decode cW_obeyWithNext 84 = .ok (.ireturn, 1) := by decide +kernel
theorem dW_obeyWithNext_85 : decode cW_obeyWithNext 85 = .ok (.aload_n 0, 1) := by decide +kernel
theorem dW_obeyWithNext_86 : decode cW_obeyWithNext 86 = .ok (.aload_n 0, 1) := by decide +kernel
theorem dW_obeyWithNext_87 : decode cW_obeyWithNext 87 = .ok (.getfield 31, 3) := by decide +kernel
theorem dW_obeyWithNext_90 : decode cW_obeyWithNext 90 = .ok (.ifCond .eq 7, 3) := by decide +kernel
theorem dW_obeyWithNext_93 : decode cW_obeyWithNext 93 = .ok (.iload_n 2, 1) := by decide +kernel
theorem dW_obeyWithNext_94 : decode cW_obeyWithNext 94 = .ok (.goto 7, 3) := by decide +kernel
theorem dW_obeyWithNext_97 : decode cW_obeyWithNext 97 = .ok (.aload_n 0, 1) := by decide +kernel
theorem dW_obeyWithNext_98 : decode cW_obeyWithNext 98 = .ok (.getfield 48, 3) := by decide +kernel
theorem dW_obeyWithNext_101 : decode cW_obeyWithNext 101 = .ok (.invokevirtual 72, 3) := by decide +kernel
theorem dW_obeyWithNext_104 : decode cW_obeyWithNext 104 = .ok (.ireturn, 1) := by decide +kernel
theorem dW_obeyWithNext_105 : decode cW_obeyWithNext 105 = .ok (.aload_n 0, 1) := by decide +kernel
theorem dW_obeyWithNext_106 : decode cW_obeyWithNext 106 = .ok (.iload_n 2, 1) := by decide +kernel
theorem dW_obeyWithNext_107 : decode cW_obeyWithNext 107 = .ok (.invokevirtual 75, 3) := by decide +kernel
theorem dW_obeyWithNext_110 : decode cW_obeyWithNext 110 = .ok (.ireturn, 1) := by decide +kernel
theorem dW_obeyWithNext_111 : decode cW_obeyWithNext 111 = .ok (.iconst 0, 1) := by decide +kernel
theorem dW_obeyWithNext_112 : decode cW_obeyWithNext 112 = .ok (.ireturn, 1) := by decide +kernel
theorem dW_write_0 : decode cW_write 0 = .ok (.aload_n 0, 1) := by decide +kernel
theorem dW_write_1 : decode cW_write 1 = .ok (.getfield 24, 3) := by decide +kernel
theorem dW_write_4 : decode cW_write 4 = .ok (.ifCond .lt 12, 3) := by decide +kernel
theorem dW_write_7 : decode cW_write 7 = .ok (.aload_n 0, 1) := by decide +kernel
theorem dW_write_8 : decode cW_write 8 = .ok (.getfield 24, 3) := by decide +kernel
theorem dW_write_11 : decode cW_write 11 = .ok (.bipush 64, 2) := by decide +kernel
theorem dW_write_13 : decode cW_write 13 = .ok (.if_icmp .lt 5, 3) := by decide +kernel
theorem dW_write_16 : decode cW_write 16 = .ok (.iconst 0, 1) := by decide +kernel
theorem dW_write_17 : decode cW_write 17 = .ok (.ireturn, 1) := by decide +kernel
theorem dW_write_18 : decode cW_write 18 = .ok (.aload_n 0, 1) := by decide +kernel
theorem dW_write_19 : decode cW_write 19 = .ok (.getfield 9, 3) := by decide +kernel
theorem dW_write_22 : decode cW_write 22 = .ok (.aload_n 0, 1) := by decide +kernel
theorem dW_write_23 : decode cW_write 23 = .ok (.getfield 24, 3) := by decide +kernel
theorem dW_write_26 : decode cW_write 26 = .ok (.iload_n 1, 1) := by decide +kernel
theorem dW_write_27 : decode cW_write 27 = .ok (.iastore, 1) := by decide +kernel
theorem dW_write_28 : decode cW_write 28 = .ok (.aload_n 0, 1) := by decide +kernel
theorem dW_write_29 : decode cW_write 29 = .ok (.dup, 1) := by decide +kernel
theorem dW_write_30 : decode cW_write 30 = .ok (.getfield 24, 3) := by decide +kernel
theorem dW_write_33 : decode cW_write 33 = .ok (.iconst 1, 1) := by decide +kernel
theorem dW_write_34 : decode cW_write 34 = .ok (.iadd, 1) := by decide +kernel
theorem dW_write_35 : decode cW_write 35 = .ok (.putfield 24, 3) := by decide +kernel
theorem dW_write_38 : decode cW_write 38 = .ok (.iconst 1, 1) := by decide +kernel
theorem dW_write_39 : decode cW_write 39 = .ok (.ireturn, 1) := by decide +kernel
theorem dW_writeFills_0 : decode cW_writeFills 0 = .ok (.iconst 0, 1) := by decide +kernel
theorem dW_writeFills_1 : decode cW_writeFills 1 = .ok (.istore_n 2, 1) := by decide +kernel
theorem dW_writeFills_2 : decode cW_writeFills 2 = .ok (.iload_n 2, 1) := by decide +kernel
theorem dW_writeFills_3 : decode cW_writeFills 3 = .ok (.iload_n 1, 1) := by decide +kernel
theorem dW_writeFills_4 : decode cW_writeFills 4 = .ok (.if_icmp .ge 22, 3) := by decide +kernel
theorem dW_writeFills_7 : decode cW_writeFills 7 = .ok (.aload_n 0, 1) := by decide +kernel
theorem dW_writeFills_8 : decode cW_writeFills 8 = .ok (.aload_n 0, 1) := by decide +kernel
theorem dW_writeFills_9 : decode cW_writeFills 9 = .ok (.getfield 48, 3) := by decide +kernel
theorem dW_writeFills_12 : decode cW_writeFills 12 = .ok (.invokevirtual 72, 3) := by decide +kernel
theorem dW_writeFills_15 : decode cW_writeFills 15 = .ok (.ifCond .ne 5, 3) := by decide +kernel
theorem dW_writeFills_18 : decode cW_writeFills 18 = .ok (.iconst 0, 1) := by decide +kernel
theorem dW_writeFills_19 : decode cW_writeFills 19 = .ok (.ireturn, 1) := by decide +kernel
theorem dW_writeFills_20 : decode cW_writeFills 20 = .ok (.iinc 2 1, 3) := by decide +kernel
theorem dW_writeFills_23 : decode cW_writeFills 23 = .ok (.goto (-21), 3) := by decide +kernel
theorem dW_writeFills_26 : decode cW_writeFills 26 = .ok (.iconst 1, 1) := by decide +kernel
theorem dW_writeFills_27 : decode cW_writeFills 27 = .ok (.ireturn, 1) := by decide +kernel
theorem dW_writeDigits_0 : decode cW_writeDigits 0 = .ok (.iload_n 1, 1) := by decide +kernel
theorem dW_writeDigits_1 : decode cW_writeDigits 1 = .ok (.aload_n 0, 1) := by decide +kernel
theorem dW_writeDigits_2 : decode cW_writeDigits 2 = .ok (.getfield 28, 3) := by decide +kernel
theorem dW_writeDigits_5 : decode cW_writeDigits 5 = .ok (.if_icmp .le 5, 3) := by decide +kernel
theorem dW_writeDigits_8 : decode cW_writeDigits 8 = .ok (.iconst 0, 1) := by decide +kernel
theorem dW_writeDigits_9 : decode cW_writeDigits 9 = .ok (.ireturn, 1) := by decide +kernel
theorem dW_writeDigits_10 : decode cW_writeDigits 10 = .ok (.iconst 0, 1) := by decide +kernel
theorem dW_writeDigits_11 : decode cW_writeDigits 11 = .ok (.istore_n 3, 1) := by decide +kernel
theorem dW_writeDigits_12 : decode cW_writeDigits 12 = .ok (.iload_n 3, 1) := by decide +kernel
theorem dW_writeDigits_13 : decode cW_writeDigits 13 = .ok (.iload_n 1, 1) := by decide +kernel
theorem dW_writeDigits_14 : decode cW_writeDigits 14 = .ok (.if_icmp .ge 33, 3) := by decide +kernel
theorem dW_writeDigits_17 : decode cW_writeDigits 17 = .ok (.aload_n 0, 1) := by decide +kernel
theorem dW_writeDigits_18 : decode cW_writeDigits 18 = .ok (.dup, 1) := by decide +kernel
theorem dW_writeDigits_19 : decode cW_writeDigits 19 = .ok (.getfield 28, 3) := by decide +kernel
theorem dW_writeDigits_22 : decode cW_writeDigits 22 = .ok (.iconst 1, 1) := by decide +kernel
theorem dW_writeDigits_23 : decode cW_writeDigits 23 = .ok (.isub, 1) := by decide +kernel
theorem dW_writeDigits_24 : decode cW_writeDigits 24 = .ok (.putfield 28, 3) := by decide +kernel
theorem dW_writeDigits_27 : decode cW_writeDigits 27 = .ok (.aload_n 0, 1) := by decide +kernel
theorem dW_writeDigits_28 : decode cW_writeDigits 28 = .ok (.aload_n 0, 1) := by decide +kernel
theorem dW_writeDigits_29 : decode cW_writeDigits 29 = .ok (.getfield 28, 3) := by decide +kernel
theorem dW_writeDigits_32 : decode cW_writeDigits 32 = .ok (.iload_n 2, 1) := by decide +kernel
theorem dW_writeDigits_33 : decode cW_writeDigits 33 = .ok (.invokevirtual 78, 3) := by decide +kernel
theorem dW_writeDigits_36 : decode cW_writeDigits 36 = .ok (.ifCond .ne 5, 3) := by decide +kernel
theorem dW_writeDigits_39 : decode cW_writeDigits 39 = .ok (.iconst 0, 1) := by decide +kernel
theorem dW_writeDigits_40 : decode cW_writeDigits 40 = .ok (.ireturn, 1) := by decide +kernel
theorem dW_writeDigits_41 : decode cW_writeDigits 41 = .ok (.iinc 3 1, 3) := by decide +kernel
theorem dW_writeDigits_44 : decode cW_writeDigits 44 = .ok (.goto (-32), 3) := by decide +kernel
theorem dW_writeDigits_47 : decode cW_writeDigits 47 = .ok (.iconst 1, 1) := by decide +kernel
theorem dW_writeDigits_48 : decode cW_writeDigits 48 = .ok (.ireturn, 1) := by decide +kernel
theorem dW_writeDigit_0 : decode cW_writeDigit 0 = .ok (.iload_n 1, 1) := by decide +kernel
theorem dW_writeDigit_1 : decode cW_writeDigit 1 = .ok (.ifCond .lt 18, 3) := by decide +kernel
theorem dW_writeDigit_4 : decode cW_writeDigit 4 = .ok (.iload_n 1, 1) := by decide +kernel
theorem dW_writeDigit_5 : decode cW_writeDigit 5 = .ok (.bipush 31, 2) := by decide +kernel
theorem dW_writeDigit_7 : decode cW_writeDigit 7 = .ok (.if_icmp .ge 12, 3) := by decide +kernel
theorem dW_writeDigit_10 : decode cW_writeDigit 10 = .ok (.aload_n 0, 1) := by decide +kernel
theorem dW_writeDigit_11 : decode cW_writeDigit 11 = .ok (.getfield 15, 3) := by decide +kernel
theorem dW_writeDigit_14 : decode cW_writeDigit 14 = .ok (.iload_n 1, 1) := by decide +kernel
theorem dW_writeDigit_15 : decode cW_writeDigit 15 = .ok (.iaload, 1) := by decide +kernel
theorem dW_writeDigit_16 : decode cW_writeDigit 16 = .ok (.goto 4, 3) := by decide +kernel
theorem dW_writeDigit_19 : decode cW_writeDigit 19 = .ok (.iconst 0, 1) := by decide +kernel
theorem dW_writeDigit_20 : decode cW_writeDigit 20 = .ok (.istore_n 3, 1) := by decide +kernel
theorem dW_writeDigit_21 : decode cW_writeDigit 21 = .ok (.iload_n 3, 1) := by decide +kernel
theorem dW_writeDigit_22 : decode cW_writeDigit 22 = .ok (.ifCond .ne 19, 3) := by decide +kernel
theorem dW_writeDigit_25 : decode cW_writeDigit 25 = .ok (.aload_n 0, 1) := by decide +kernel
theorem dW_writeDigit_26 : decode cW_writeDigit 26 = .ok (.getfield 31, 3) := by decide +kernel
theorem dW_writeDigit_29 : decode cW_writeDigit 29 = .ok (.ifCond .ne 12, 3) := by decide +kernel
theorem dW_writeDigit_32 : decode cW_writeDigit 32 = .ok (.aload_n 0, 1) := by decide +kernel
theorem dW_writeDigit_33 : decode cW_writeDigit 33 = .ok (.aload_n 0, 1) := by decide +kernel
theorem dW_writeDigit_34 : decode cW_writeDigit 34 = .ok (.getfield 48, 3) := by decide +kernel
theorem dW_writeDigit_37 : decode cW_writeDigit 37 = .ok (.invokevirtual 72, 3) := by decide +kernel
theorem dW_writeDigit_40 : decode cW_writeDigit 40 = .ok (.ireturn, 1) := by decide +kernel
theorem dW_writeDigit_41 : decode cW_writeDigit 41 = .ok (.iload_n 2, 1) := by decide +kernel
theorem dW_writeDigit_42 : decode cW_writeDigit 42 = .ok (.ifCond .eq 14, 3) := by decide +kernel
theorem dW_writeDigit_45 : decode cW_writeDigit 45 = .ok (.aload_n 0, 1) := by decide +kernel
theorem dW_writeDigit_46 : decode cW_writeDigit 46 = .ok (.getfield 31, 3) := by decide +kernel
theorem dW_writeDigit_49 : decode cW_writeDigit 49 = .ok (.ifCond .ne 7, 3) := by decide +kernel
theorem dW_writeDigit_52 : decode cW_writeDigit 52 = .ok (.iconst 1, 1) := by decide +kernel
theorem dW_writeDigit_53 : decode cW_writeDigit 53 = .ok (.goto 4, 3) := by decide +kernel
theorem dW_writeDigit_56 : decode cW_writeDigit 56 = .ok (.iconst 0, 1) := by decide +kernel
theorem dW_writeDigit_57 : decode cW_writeDigit 57 = .ok (.istore 4, 2) := by decide +kernel
theorem dW_writeDigit_59 : decode cW_writeDigit 59 = .ok (.aload_n 0, 1) := by decide +kernel
theorem dW_writeDigit_60 : decode cW_writeDigit 60 = .ok (.iconst 1, 1) := by decide +kernel
theorem dW_writeDigit_61 : decode cW_writeDigit 61 = .ok (.putfield 31, 3) := by decide +kernel
theorem dW_writeDigit_64 : decode cW_writeDigit 64 = .ok (.iload 4, 2) := by decide +kernel
theorem dW_writeDigit_66 : decode cW_writeDigit 66 = .ok (.ifCond .eq 16, 3) := by decide +kernel
theorem dW_writeDigit_69 : decode cW_writeDigit 69 = .ok (.aload_n 0, 1) := by decide +kernel
theorem dW_writeDigit_70 : decode cW_writeDigit 70 = .ok (.aload_n 0, 1) := by decide +kernel
theorem dW_writeDigit_71 : decode cW_writeDigit 71 = .ok (.getfield 51, 3) := by decide +kernel
theorem dW_writeDigit_74 : decode cW_writeDigit 74 = .ok (.invokevirtual 72, 3) := by decide +kernel
theorem dW_writeDigit_77 : decode cW_writeDigit 77 = .ok (.ifCond .ne 5, 3) := by decide +kernel
theorem dW_writeDigit_80 : decode cW_writeDigit 80 = .ok (.iconst 0, 1) := by decide +kernel
theorem dW_writeDigit_81 : decode cW_writeDigit 81 = .ok (.ireturn, 1) := by decide +kernel
theorem dW_writeDigit_82 : decode cW_writeDigit 82 = .ok (.aload_n 0, 1) := by decide +kernel
theorem dW_writeDigit_83 : decode cW_writeDigit 83 = .ok (.bipush 48, 2) := by decide +kernel
theorem dW_writeDigit_85 : decode cW_writeDigit 85 = .ok (.iload_n 3, 1) := by decide +kernel
theorem dW_writeDigit_86 : decode cW_writeDigit 86 = .ok (.iadd, 1) := by decide +kernel
theorem dW_writeDigit_87 : decode cW_writeDigit 87 = .ok (.invokevirtual 72, 3) := by decide +kernel
theorem dW_writeDigit_90 : decode cW_writeDigit 90 = .ok (.ireturn, 1) := by decide +kernel
theorem dW_fillLast_0 : decode cW_fillLast 0 = .ok (.iload_n 1, 1) := by decide +kernel
theorem dW_fillLast_1 : decode cW_fillLast 1 = .ok (.aload_n 0, 1) := by decide +kernel
theorem dW_fillLast_2 : decode cW_fillLast 2 = .ok (.getfield 24, 3) := by decide +kernel
theorem dW_fillLast_5 : decode cW_fillLast 5 = .ok (.if_icmp .le 5, 3) := by decide +kernel
theorem dW_fillLast_8 : decode cW_fillLast 8 = .ok (.iconst 0, 1) := by decide +kernel
theorem dW_fillLast_9 : decode cW_fillLast 9 = .ok (.ireturn, 1) := by decide +kernel
theorem dW_fillLast_10 : decode cW_fillLast 10 = .ok (.aload_n 0, 1) := by decide +kernel
theorem dW_fillLast_11 : decode cW_fillLast 11 = .ok (.getfield 24, 3) := by decide +kernel
theorem dW_fillLast_14 : decode cW_fillLast 14 = .ok (.iload_n 1, 1) := by decide +kernel
theorem dW_fillLast_15 : decode cW_fillLast 15 = .ok (.isub, 1) := by decide +kernel
theorem dW_fillLast_16 : decode cW_fillLast 16 = .ok (.istore_n 2, 1) := by decide +kernel
theorem dW_fillLast_17 : decode cW_fillLast 17 = .ok (.aload_n 0, 1) := by decide +kernel
theorem dW_fillLast_18 : decode cW_fillLast 18 = .ok (.getfield 45, 3) := by decide +kernel
theorem dW_fillLast_21 : decode cW_fillLast 21 = .ok (.ifCond .eq 37, 3) := by decide +kernel
theorem dW_fillLast_24 : decode cW_fillLast 24 = .ok (.iload_n 2, 1) := by decide +kernel
theorem dW_fillLast_25 : decode cW_fillLast 25 = .ok (.aload_n 0, 1) := by decide +kernel
theorem dW_fillLast_26 : decode cW_fillLast 26 = .ok (.getfield 24, 3) := by decide +kernel
theorem dW_fillLast_29 : decode cW_fillLast 29 = .ok (.if_icmp .ge 29, 3) := by decide +kernel
theorem dW_fillLast_32 : decode cW_fillLast 32 = .ok (.iload_n 2, 1) := by decide +kernel
theorem dW_fillLast_33 : decode cW_fillLast 33 = .ok (.ifCond .lt 19, 3) := by decide +kernel
theorem dW_fillLast_36 : decode cW_fillLast 36 = .ok (.iload_n 2, 1) := by decide +kernel
theorem dW_fillLast_37 : decode cW_fillLast 37 = .ok (.bipush 64, 2) := by decide +kernel
theorem dW_fillLast_39 : decode cW_fillLast 39 = .ok (.if_icmp .ge 13, 3) := by decide +kernel
theorem dW_fillLast_42 : decode cW_fillLast 42 = .ok (.aload_n 0, 1) := by decide +kernel
theorem dW_fillLast_43 : decode cW_fillLast 43 = .ok (.getfield 9, 3) := by decide +kernel
theorem dW_fillLast_46 : decode cW_fillLast 46 = .ok (.iload_n 2, 1) := by decide +kernel
theorem dW_fillLast_47 : decode cW_fillLast 47 = .ok (.aload_n 0, 1) := by decide +kernel
theorem dW_fillLast_48 : decode cW_fillLast 48 = .ok (.getfield 48, 3) := by decide +kernel
theorem dW_fillLast_51 : decode cW_fillLast 51 = .ok (.iastore, 1) := by decide +kernel
theorem dW_fillLast_52 : decode cW_fillLast 52 = .ok (.iinc 2 1, 3) := by decide +kernel
theorem dW_fillLast_55 : decode cW_fillLast 55 = .ok (.goto (-38), 3) := by decide +kernel
theorem dW_fillLast_58 : decode cW_fillLast 58 = .ok (.iconst 1, 1) := by decide +kernel
theorem dW_fillLast_59 : decode cW_fillLast 59 = .ok (.ireturn, 1) := by decide +kernel
