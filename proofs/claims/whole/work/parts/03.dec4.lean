theorem dX6_ratedAs_116 : decode cX6_ratedAs 116 = .ok (.iload 4, 2) := by decide +kernel
theorem dX6_ratedAs_118 : decode cX6_ratedAs 118 = .ok (.iload_n 2, 1) := by decide +kernel
theorem dX6_ratedAs_119 : decode cX6_ratedAs 119 = .ok (.iadd, 1) := by decide +kernel
theorem dX6_ratedAs_120 : decode cX6_ratedAs 120 = .ok (.ireturn, 1) := by decide +kernel
theorem dX6_ratedAs_121 : decode cX6_ratedAs 121 = .ok (.iload 4, 2) := by decide +kernel
theorem dX6_ratedAs_123 : decode cX6_ratedAs 123 = .ok (.aload_n 0, 1) := by decide +kernel
theorem dX6_ratedAs_124 : decode cX6_ratedAs 124 = .ok (.getfield 29, 3) := by decide +kernel
theorem dX6_ratedAs_127 : decode cX6_ratedAs 127 = .ok (.getfield 142, 3) := by decide +kernel
theorem dX6_ratedAs_130 : decode cX6_ratedAs 130 = .ok (.iadd, 1) := by decide +kernel
theorem dX6_ratedAs_131 : decode cX6_ratedAs 131 = .ok (.ireturn, 1) := by decide +kernel
theorem dX6_ratedAs_132 : decode cX6_ratedAs 132 = .ok (.iload 4, 2) := by decide +kernel
theorem dX6_ratedAs_134 : decode cX6_ratedAs 134 = .ok (.ireturn, 1) := by decide +kernel
theorem dX7_init_0 : decode cX7_init 0 = .ok (.aload_n 0, 1) := by decide +kernel
theorem dX7_init_1 : decode cX7_init 1 = .ok (.invokespecial 1, 3) := by decide +kernel
theorem dX7_init_4 : decode cX7_init 4 = .ok (.aload_n 0, 1) := by decide +kernel
theorem dX7_init_5 : decode cX7_init 5 = .ok (.sipush 200, 3) := by decide +kernel
theorem dX7_init_8 : decode cX7_init 8 = .ok (.newarray .int, 2) := by decide +kernel
theorem dX7_init_10 : decode cX7_init 10 = .ok (.putfield 7, 3) := by decide +kernel
theorem dX7_init_13 : decode cX7_init 13 = .ok (.aload_n 0, 1) := by decide +kernel
theorem dX7_init_14 : decode cX7_init 14 = .ok (.bipush 12, 2) := by decide +kernel
theorem dX7_init_16 : decode cX7_init 16 = .ok (.newarray .int, 2) := by decide +kernel
theorem dX7_init_18 : decode cX7_init 18 = .ok (.putfield 13, 3) := by decide +kernel
theorem dX7_init_21 : decode cX7_init 21 = .ok (.aload_n 0, 1) := by decide +kernel
theorem dX7_init_22 : decode cX7_init 22 = .ok (.bipush 48, 2) := by decide +kernel
theorem dX7_init_24 : decode cX7_init 24 = .ok (.newarray .int, 2) := by decide +kernel
theorem dX7_init_26 : decode cX7_init 26 = .ok (.putfield 16, 3) := by decide +kernel
theorem dX7_init_29 : decode cX7_init 29 = .ok (.aload_n 0, 1) := by decide +kernel
theorem dX7_init_30 : decode cX7_init 30 = .ok (.bipush 24, 2) := by decide +kernel
theorem dX7_init_32 : decode cX7_init 32 = .ok (.newarray .int, 2) := by decide +kernel
theorem dX7_init_34 : decode cX7_init 34 = .ok (.putfield 19, 3) := by decide +kernel
theorem dX7_init_37 : decode cX7_init 37 = .ok (.aload_n 0, 1) := by decide +kernel
theorem dX7_init_38 : decode cX7_init 38 = .ok (.bipush 24, 2) := by decide +kernel
theorem dX7_init_40 : decode cX7_init 40 = .ok (.newarray .int, 2) := by decide +kernel
theorem dX7_init_42 : decode cX7_init 42 = .ok (.putfield 22, 3) := by decide +kernel
theorem dX7_init_45 : decode cX7_init 45 = .ok (.aload_n 0, 1) := by decide +kernel
theorem dX7_init_46 : decode cX7_init 46 = .ok (.bipush 17, 2) := by decide +kernel
theorem dX7_init_48 : decode cX7_init 48 = .ok (.newarray .int, 2) := by decide +kernel
theorem dX7_init_50 : decode cX7_init 50 = .ok (.putfield 25, 3) := by decide +kernel
theorem dX7_init_53 : decode cX7_init 53 = .ok (.aload_n 0, 1) := by decide +kernel
theorem dX7_init_54 : decode cX7_init 54 = .ok (.bipush 34, 2) := by decide +kernel
theorem dX7_init_56 : decode cX7_init 56 = .ok (.newarray .int, 2) := by decide +kernel
theorem dX7_init_58 : decode cX7_init 58 = .ok (.putfield 28, 3) := by decide +kernel
theorem dX7_init_61 : decode cX7_init 61 = .ok (.aload_n 0, 1) := by decide +kernel
theorem dX7_init_62 : decode cX7_init 62 = .ok (.iconst 2, 1) := by decide +kernel
theorem dX7_init_63 : decode cX7_init 63 = .ok (.newarray .boolean, 2) := by decide +kernel
theorem dX7_init_65 : decode cX7_init 65 = .ok (.putfield 31, 3) := by decide +kernel
theorem dX7_init_68 : decode cX7_init 68 = .ok (.aload_n 0, 1) := by decide +kernel
theorem dX7_init_69 : decode cX7_init 69 = .ok (.sipush 170, 3) := by decide +kernel
theorem dX7_init_72 : decode cX7_init 72 = .ok (.newarray .int, 2) := by decide +kernel
theorem dX7_init_74 : decode cX7_init 74 = .ok (.putfield 35, 3) := by decide +kernel
theorem dX7_init_77 : decode cX7_init 77 = .ok (.aload_n 0, 1) := by decide +kernel
theorem dX7_init_78 : decode cX7_init 78 = .ok (.bipush 8, 2) := by decide +kernel
theorem dX7_init_80 : decode cX7_init 80 = .ok (.newarray .int, 2) := by decide +kernel
theorem dX7_init_82 : decode cX7_init 82 = .ok (.putfield 38, 3) := by decide +kernel
theorem dX7_init_85 : decode cX7_init 85 = .ok (.aload_n 0, 1) := by decide +kernel
theorem dX7_init_86 : decode cX7_init 86 = .ok (.iconst 5, 1) := by decide +kernel
theorem dX7_init_87 : decode cX7_init 87 = .ok (.newarray .int, 2) := by decide +kernel
theorem dX7_init_89 : decode cX7_init 89 = .ok (.putfield 41, 3) := by decide +kernel
theorem dX7_init_92 : decode cX7_init 92 = .ok (.aload_n 0, 1) := by decide +kernel
theorem dX7_init_93 : decode cX7_init 93 = .ok (.iconst 5, 1) := by decide +kernel
theorem dX7_init_94 : decode cX7_init 94 = .ok (.newarray .int, 2) := by decide +kernel
theorem dX7_init_96 : decode cX7_init 96 = .ok (.putfield 44, 3) := by decide +kernel
theorem dX7_init_99 : decode cX7_init 99 = .ok (.aload_n 0, 1) := by decide +kernel
theorem dX7_init_100 : decode cX7_init 100 = .ok (.bipush 12, 2) := by decide +kernel
theorem dX7_init_102 : decode cX7_init 102 = .ok (.newarray .int, 2) := by decide +kernel
theorem dX7_init_104 : decode cX7_init 104 = .ok (.putfield 47, 3) := by decide +kernel
theorem dX7_init_107 : decode cX7_init 107 = .ok (.aload_n 0, 1) := by decide +kernel
theorem dX7_init_108 : decode cX7_init 108 = .ok (.bipush 24, 2) := by decide +kernel
theorem dX7_init_110 : decode cX7_init 110 = .ok (.newarray .int, 2) := by decide +kernel
theorem dX7_init_112 : decode cX7_init 112 = .ok (.putfield 50, 3) := by decide +kernel
theorem dX7_init_115 : decode cX7_init 115 = .ok (.aload_n 0, 1) := by decide +kernel
theorem dX7_init_116 : decode cX7_init 116 = .ok (.bipush 12, 2) := by decide +kernel
theorem dX7_init_118 : decode cX7_init 118 = .ok (.newarray .int, 2) := by decide +kernel
theorem dX7_init_120 : decode cX7_init 120 = .ok (.putfield 53, 3) := by decide +kernel
theorem dX7_init_123 : decode cX7_init 123 = .ok (.aload_n 0, 1) := by decide +kernel
theorem dX7_init_124 : decode cX7_init 124 = .ok (.bipush 8, 2) := by decide +kernel
theorem dX7_init_126 : decode cX7_init 126 = .ok (.newarray .long, 2) := by decide +kernel
theorem dX7_init_128 : decode cX7_init 128 = .ok (.putfield 56, 3) := by decide +kernel
theorem dX7_init_131 : decode cX7_init 131 = .ok (.aload_n 0, 1) := by decide +kernel
theorem dX7_init_132 : decode cX7_init 132 = .ok (.bipush 8, 2) := by decide +kernel
theorem dX7_init_134 : decode cX7_init 134 = .ok (.newarray .long, 2) := by decide +kernel
theorem dX7_init_136 : decode cX7_init 136 = .ok (.putfield 60, 3) := by decide +kernel
theorem dX7_init_139 : decode cX7_init 139 = .ok (.aload_n 0, 1) := by decide +kernel
theorem dX7_init_140 : decode cX7_init 140 = .ok (.invokevirtual 63, 3) := by decide +kernel
theorem dX7_init_143 : decode cX7_init 143 = .ok (.aload_n 0, 1) := by decide +kernel
theorem dX7_init_144 : decode cX7_init 144 = .ok (.invokevirtual 66, 3) := by decide +kernel
theorem dX7_init_147 : decode cX7_init 147 = .ok (.return_, 1) := by decide +kernel
theorem dX7_in_0 : decode cX7_in 0 = .ok (.iload_n 0, 1) := by decide +kernel
theorem dX7_in_1 : decode cX7_in 1 = .ok (.iload_n 1, 1) := by decide +kernel
theorem dX7_in_2 : decode cX7_in 2 = .ok (.if_icmp .lt 12, 3) := by decide +kernel
theorem dX7_in_5 : decode cX7_in 5 = .ok (.iload_n 0, 1) := by decide +kernel
theorem dX7_in_6 : decode cX7_in 6 = .ok (.iload_n 2, 1) := by decide +kernel
theorem dX7_in_7 : decode cX7_in 7 = .ok (.if_icmp .gt 7, 3) := by decide +kernel
theorem dX7_in_10 : decode cX7_in 10 = .ok (.iconst 1, 1) := by decide +kernel
theorem dX7_in_11 : decode cX7_in 11 = .ok (.goto 4, 3) := by decide +kernel
theorem dX7_in_14 : decode cX7_in 14 = .ok (.iconst 0, 1) := by decide +kernel
theorem dX7_in_15 : decode cX7_in 15 = .ok (.ireturn, 1) := by decide +kernel
theorem dX7_ones_0 : decode cX7_ones 0 = .ok (.iconst 0, 1) := by decide +kernel
theorem dX7_ones_1 : decode cX7_ones 1 = .ok (.istore_n 1, 1) := by decide +kernel
theorem dX7_ones_2 : decode cX7_ones 2 = .ok (.iconst 0, 1) := by decide +kernel
theorem dX7_ones_3 : decode cX7_ones 3 = .ok (.istore_n 2, 1) := by decide +kernel
theorem dX7_ones_4 : decode cX7_ones 4 = .ok (.iload_n 2, 1) := by decide +kernel
theorem dX7_ones_5 : decode cX7_ones 5 = .ok (.bipush 12, 2) := by decide +kernel
theorem dX7_ones_7 : decode cX7_ones 7 = .ok (.if_icmp .ge 17, 3) := by decide +kernel
theorem dX7_ones_10 : decode cX7_ones 10 = .ok (.iload_n 1, 1) := by decide +kernel
theorem dX7_ones_11 : decode cX7_ones 11 = .ok (.iload_n 0, 1) := by decide +kernel
theorem dX7_ones_12 : decode cX7_ones 12 = .ok (.iload_n 2, 1) := by decide +kernel
theorem dX7_ones_13 : decode cX7_ones 13 = .ok (.ishr, 1) := by decide +kernel
theorem dX7_ones_14 : decode cX7_ones 14 = .ok (.iconst 1, 1) := by decide +kernel
theorem dX7_ones_15 : decode cX7_ones 15 = .ok (.iand, 1) := by decide +kernel
theorem dX7_ones_16 : decode cX7_ones 16 = .ok (.iadd, 1) := by decide +kernel
theorem dX7_ones_17 : decode cX7_ones 17 = .ok (.istore_n 1, 1) := by decide +kernel
theorem dX7_ones_18 : decode cX7_ones 18 = .ok (.iinc 2 1, 3) := by decide +kernel
theorem dX7_ones_21 : decode cX7_ones 21 = .ok (.goto (-17), 3) := by decide +kernel
theorem dX7_ones_24 : decode cX7_ones 24 = .ok (.iload_n 1, 1) := by decide +kernel
theorem dX7_ones_25 : decode cX7_ones 25 = .ok (.ireturn, 1) := by decide +kernel
theorem dX7_type_0 : decode cX7_type 0 = .ok (.aload_n 0, 1) := by decide +kernel
theorem dX7_type_1 : decode cX7_type 1 = .ok (.iconst 0, 1) := by decide +kernel
theorem dX7_type_2 : decode cX7_type 2 = .ok (.putfield 69, 3) := by decide +kernel
theorem dX7_type_5 : decode cX7_type 5 = .ok (.iload_n 1, 1) := by decide +kernel
theorem dX7_type_6 : decode cX7_type 6 = .ok (.iconst 0, 1) := by decide +kernel
theorem dX7_type_7 : decode cX7_type 7 = .ok (.sipush 255, 3) := by decide +kernel
theorem dX7_type_10 : decode cX7_type 10 = .ok (.invokestatic 73, 3) := by decide +kernel
theorem dX7_type_13 : decode cX7_type 13 = .ok (.ifCond .ne 5, 3) := by decide +kernel
theorem dX7_type_16 : decode cX7_type 16 = .ok (.iconst (-1), 1) := by decide +kernel
theorem dX7_type_17 : decode cX7_type 17 = .ok (.ireturn, 1) := by decide +kernel
theorem dX7_type_18 : decode cX7_type 18 = .ok (.aload_n 0, 1) := by decide +kernel
theorem dX7_type_19 : decode cX7_type 19 = .ok (.getfield 77, 3) := by decide +kernel
theorem dX7_type_22 : decode cX7_type 22 = .ok (.sipush 200, 3) := by decide +kernel
theorem dX7_type_25 : decode cX7_type 25 = .ok (.if_icmp .ne 6, 3) := by decide +kernel
theorem dX7_type_28 : decode cX7_type 28 = .ok (.bipush (-3), 2) := by decide +kernel
theorem dX7_type_30 : decode cX7_type 30 = .ok (.ireturn, 1) := by decide +kernel
theorem dX7_type_31 : decode cX7_type 31 = .ok (.aload_n 0, 1) := by decide +kernel
theorem dX7_type_32 : decode cX7_type 32 = .ok (.getfield 7, 3) := by decide +kernel
theorem dX7_type_35 : decode cX7_type 35 = .ok (.aload_n 0, 1) := by decide +kernel
theorem dX7_type_36 : decode cX7_type 36 = .ok (.getfield 77, 3) := by decide +kernel
theorem dX7_type_39 : decode cX7_type 39 = .ok (.iload_n 1, 1) := by decide +kernel
theorem dX7_type_40 : decode cX7_type 40 = .ok (.iastore, 1) := by decide +kernel
theorem dX7_type_41 : decode cX7_type 41 = .ok (.aload_n 0, 1) := by decide +kernel
theorem dX7_type_42 : decode cX7_type 42 = .ok (.dup, 1) := by decide +kernel
theorem dX7_type_43 : decode cX7_type 43 = .ok (.getfield 77, 3) := by decide +kernel
theorem dX7_type_46 : decode cX7_type 46 = .ok (.iconst 1, 1) := by decide +kernel
theorem dX7_type_47 : decode cX7_type 47 = .ok (.iadd, 1) := by decide +kernel
theorem dX7_type_48 : decode cX7_type 48 = .ok (.putfield 77, 3) := by decide +kernel
theorem dX7_type_51 : decode cX7_type 51 = .ok (.aload_n 0, 1) := by decide +kernel
theorem dX7_type_52 : decode cX7_type 52 = .ok (.getfield 77, 3) := by decide +kernel
theorem dX7_type_55 : decode cX7_type 55 = .ok (.ireturn, 1) := by decide +kernel
theorem dX7_clear_0 : decode cX7_clear 0 = .ok (.aload_n 0, 1) := by decide +kernel
theorem dX7_clear_1 : decode cX7_clear 1 = .ok (.iconst 0, 1) := by decide +kernel
theorem dX7_clear_2 : decode cX7_clear 2 = .ok (.putfield 69, 3) := by decide +kernel
theorem dX7_clear_5 : decode cX7_clear 5 = .ok (.aload_n 0, 1) := by decide +kernel
theorem dX7_clear_6 : decode cX7_clear 6 = .ok (.getfield 77, 3) := by decide +kernel
theorem dX7_clear_9 : decode cX7_clear 9 = .ok (.istore_n 1, 1) := by decide +kernel
theorem dX7_clear_10 : decode cX7_clear 10 = .ok (.aload_n 0, 1) := by decide +kernel
theorem dX7_clear_11 : decode cX7_clear 11 = .ok (.iconst 0, 1) := by decide +kernel
theorem dX7_clear_12 : decode cX7_clear 12 = .ok (.putfield 77, 3) := by decide +kernel
theorem dX7_clear_15 : decode cX7_clear 15 = .ok (.iload_n 1, 1) := by decide +kernel
theorem dX7_clear_16 : decode cX7_clear 16 = .ok (.ireturn, 1) := by decide +kernel
theorem dX7_letterAt_0 : decode cX7_letterAt 0 = .ok (.iload_n 1, 1) := by decide +kernel
theorem dX7_letterAt_1 : decode cX7_letterAt 1 = .ok (.aload_n 0, 1) := by decide +kernel
theorem dX7_letterAt_2 : decode cX7_letterAt 2 = .ok (.getfield 77, 3) := by decide +kernel
theorem dX7_letterAt_5 : decode cX7_letterAt 5 = .ok (.if_icmp .ge 12, 3) := by decide +kernel
theorem dX7_letterAt_8 : decode cX7_letterAt 8 = .ok (.aload_n 0, 1) := by decide +kernel
theorem dX7_letterAt_9 : decode cX7_letterAt 9 = .ok (.getfield 7, 3) := by decide +kernel
theorem dX7_letterAt_12 : decode cX7_letterAt 12 = .ok (.iload_n 1, 1) := by decide +kernel
theorem dX7_letterAt_13 : decode cX7_letterAt 13 = .ok (.iaload, 1) := by decide +kernel
theorem dX7_letterAt_14 : decode cX7_letterAt 14 = .ok (.goto 4, 3) := by decide +kernel
theorem dX7_letterAt_17 : decode cX7_letterAt 17 = .ok (.iconst (-1), 1) := by decide +kernel
theorem dX7_letterAt_18 : decode cX7_letterAt 18 = .ok (.ireturn, 1) := by decide +kernel
theorem dX7_isLetter_0 : decode cX7_isLetter 0 = .ok (.iload_n 0, 1) := by decide +kernel
theorem dX7_isLetter_1 : decode cX7_isLetter 1 = .ok (.bipush 112, 2) := by decide +kernel
theorem dX7_isLetter_3 : decode cX7_isLetter 3 = .ok (.if_icmp .eq 33, 3) := by decide +kernel
theorem dX7_isLetter_6 : decode cX7_isLetter 6 = .ok (.iload_n 0, 1) := by decide +kernel
theorem dX7_isLetter_7 : decode cX7_isLetter 7 = .ok (.bipush 114, 2) := by decide +kernel
theorem dX7_isLetter_9 : decode cX7_isLetter 9 = .ok (.if_icmp .eq 27, 3) := by decide +kernel
theorem dX7_isLetter_12 : decode cX7_isLetter 12 = .ok (.iload_n 0, 1) := by decide +kernel
theorem dX7_isLetter_13 : decode cX7_isLetter 13 = .ok (.bipush 115, 2) := by decide +kernel
theorem dX7_isLetter_15 : decode cX7_isLetter 15 = .ok (.if_icmp .eq 21, 3) := by decide +kernel
theorem dX7_isLetter_18 : decode cX7_isLetter 18 = .ok (.iload_n 0, 1) := by decide +kernel
theorem dX7_isLetter_19 : decode cX7_isLetter 19 = .ok (.bipush 103, 2) := by decide +kernel
theorem dX7_isLetter_21 : decode cX7_isLetter 21 = .ok (.if_icmp .eq 15, 3) := by decide +kernel
theorem dX7_isLetter_24 : decode cX7_isLetter 24 = .ok (.iload_n 0, 1) := by decide +kernel
theorem dX7_isLetter_25 : decode cX7_isLetter 25 = .ok (.bipush 110, 2) := by decide +kernel
theorem dX7_isLetter_27 : decode cX7_isLetter 27 = .ok (.if_icmp .eq 9, 3) := by decide +kernel
theorem dX7_isLetter_30 : decode cX7_isLetter 30 = .ok (.iload_n 0, 1) := by decide +kernel
theorem dX7_isLetter_31 : decode cX7_isLetter 31 = .ok (.bipush 108, 2) := by decide +kernel
theorem dX7_isLetter_33 : decode cX7_isLetter 33 = .ok (.if_icmp .ne 7, 3) := by decide +kernel
theorem dX7_isLetter_36 : decode cX7_isLetter 36 = .ok (.iconst 1, 1) := by decide +kernel
theorem dX7_isLetter_37 : decode cX7_isLetter 37 = .ok (.goto 4, 3) := by decide +kernel
theorem dX7_isLetter_40 : decode cX7_isLetter 40 = .ok (.iconst 0, 1) := by decide +kernel
theorem dX7_isLetter_41 : decode cX7_isLetter 41 = .ok (.ireturn, 1) := by decide +kernel
theorem dX7_advances_0 : decode cX7_advances 0 = .ok (.aload_n 0, 1) := by decide +kernel
theorem dX7_advances_1 : decode cX7_advances 1 = .ok (.aload_n 0, 1) := by decide +kernel
theorem dX7_advances_2 : decode cX7_advances 2 = .ok (.getfield 80, 3) := by decide +kernel
theorem dX7_advances_5 : decode cX7_advances 5 = .ok (.invokevirtual 83, 3) := by decide +kernel
theorem dX7_advances_8 : decode cX7_advances 8 = .ok (.bipush 32, 2) := by decide +kernel
theorem dX7_advances_10 : decode cX7_advances 10 = .ok (.if_icmp .ne 16, 3) := by decide +kernel
theorem dX7_advances_13 : decode cX7_advances 13 = .ok (.aload_n 0, 1) := by decide +kernel
theorem dX7_advances_14 : decode cX7_advances 14 = .ok (.dup, 1) := by decide +kernel
theorem dX7_advances_15 : decode cX7_advances 15 = .ok (.getfield 80, 3) := by decide +kernel
theorem dX7_advances_18 : decode cX7_advances 18 = .ok (.iconst 1, 1) := by decide +kernel
theorem dX7_advances_19 : decode cX7_advances 19 = .ok (.iadd, 1) := by decide +kernel
theorem dX7_advances_20 : decode cX7_advances 20 = .ok (.putfield 80, 3) := by decide +kernel
theorem dX7_advances_23 : decode cX7_advances 23 = .ok (.goto (-23), 3) := by decide +kernel
theorem dX7_advances_26 : decode cX7_advances 26 = .ok (.aload_n 0, 1) := by decide +kernel
theorem dX7_advances_27 : decode cX7_advances 27 = .ok (.aload_n 0, 1) := by decide +kernel
theorem dX7_advances_28 : decode cX7_advances 28 = .ok (.getfield 80, 3) := by decide +kernel
theorem dX7_advances_31 : decode cX7_advances 31 = .ok (.putfield 87, 3) := by decide +kernel
theorem dX7_advances_34 : decode cX7_advances 34 = .ok (.aload_n 0, 1) := by decide +kernel
theorem dX7_advances_35 : decode cX7_advances 35 = .ok (.aload_n 0, 1) := by decide +kernel
theorem dX7_advances_36 : decode cX7_advances 36 = .ok (.getfield 80, 3) := by decide +kernel
theorem dX7_advances_39 : decode cX7_advances 39 = .ok (.invokevirtual 83, 3) := by decide +kernel
theorem dX7_advances_42 : decode cX7_advances 42 = .ok (.istore_n 1, 1) := by decide +kernel
theorem dX7_advances_43 : decode cX7_advances 43 = .ok (.iload_n 1, 1) := by decide +kernel
theorem dX7_advances_44 : decode cX7_advances 44 = .ok (.ifCond .ge 11, 3) := by decide +kernel
theorem dX7_advances_47 : decode cX7_advances 47 = .ok (.aload_n 0, 1) := by decide +kernel
theorem dX7_advances_48 : decode cX7_advances 48 = .ok (.iconst 0, 1) := by decide +kernel
theorem dX7_advances_49 : decode cX7_advances 49 = .ok (.putfield 90, 3) := by decide +kernel
theorem dX7_advances_52 : decode cX7_advances 52 = .ok (.goto 170, 3) := by decide +kernel
theorem dX7_advances_55 : decode cX7_advances 55 = .ok (.iload_n 1, 1) := by decide +kernel
theorem dX7_advances_56 : decode cX7_advances 56 = .ok (.bipush 48, 2) := by decide +kernel
theorem dX7_advances_58 : decode cX7_advances 58 = .ok (.bipush 57, 2) := by decide +kernel
theorem dX7_advances_60 : decode cX7_advances 60 = .ok (.invokestatic 73, 3) := by decide +kernel
theorem dX7_advances_63 : decode cX7_advances 63 = .ok (.ifCond .eq 118, 3) := by decide +kernel
theorem dX7_advances_66 : decode cX7_advances 66 = .ok (.aload_n 0, 1) := by decide +kernel
theorem dX7_advances_67 : decode cX7_advances 67 = .ok (.iconst 0, 1) := by decide +kernel
theorem dX7_advances_68 : decode cX7_advances 68 = .ok (.putfield 93, 3) := by decide +kernel
theorem dX7_advances_71 : decode cX7_advances 71 = .ok (.aload_n 0, 1) := by decide +kernel
theorem dX7_advances_72 : decode cX7_advances 72 = .ok (.aload_n 0, 1) := by decide +kernel
theorem dX7_advances_73 : decode cX7_advances 73 = .ok (.getfield 80, 3) := by decide +kernel
theorem dX7_advances_76 : decode cX7_advances 76 = .ok (.invokevirtual 83, 3) := by decide +kernel
theorem dX7_advances_79 : decode cX7_advances 79 = .ok (.bipush 48, 2) := by decide +kernel
theorem dX7_advances_81 : decode cX7_advances 81 = .ok (.bipush 57, 2) := by decide +kernel
theorem dX7_advances_83 : decode cX7_advances 83 = .ok (.invokestatic 73, 3) := by decide +kernel
theorem dX7_advances_86 : decode cX7_advances 86 = .ok (.ifCond .eq 55, 3) := by decide +kernel
theorem dX7_advances_89 : decode cX7_advances 89 = .ok (.aload_n 0, 1) := by decide +kernel
theorem dX7_advances_90 : decode cX7_advances 90 = .ok (.aload_n 0, 1) := by decide +kernel
theorem dX7_advances_91 : decode cX7_advances 91 = .ok (.getfield 93, 3) := by decide +kernel
theorem dX7_advances_94 : decode cX7_advances 94 = .ok (.bipush 99, 2) := by decide +kernel
theorem dX7_advances_96 : decode cX7_advances 96 = .ok (.if_icmp .le 10, 3) := by decide +kernel
theorem dX7_advances_99 : decode cX7_advances 99 = .ok (.aload_n 0, 1) := by decide +kernel
theorem dX7_advances_100 : decode cX7_advances 100 = .ok (.getfield 93, 3) := by decide +kernel
theorem dX7_advances_103 : decode cX7_advances 103 = .ok (.goto 22, 3) := by decide +kernel
theorem dX7_advances_106 : decode cX7_advances 106 = .ok (.bipush 10, 2) := by decide +kernel
theorem dX7_advances_108 : decode cX7_advances 108 = .ok (.aload_n 0, 1) := by decide +kernel
theorem dX7_advances_109 : decode cX7_advances 109 = .ok (.getfield 93, 3) := by decide +kernel
theorem dX7_advances_112 : decode cX7_advances 112 = .ok (.imul, 1) := by decide +kernel
theorem dX7_advances_113 : decode cX7_advances 113 = .ok (.aload_n 0, 1) := by decide +kernel
theorem dX7_advances_114 : decode cX7_advances 114 = .ok (.aload_n 0, 1) := by decide +kernel
theorem dX7_advances_115 : decode cX7_advances 115 = .ok (.getfield 80, 3) := by decide +kernel
theorem dX7_advances_118 : decode cX7_advances 118 = .ok (.invokevirtual 83, 3) := by decide +kernel
theorem dX7_advances_121 : decode cX7_advances 121 = .ok (.iadd, 1) := by decide +kernel
theorem dX7_advances_122 : decode cX7_advances 122 = .ok (.bipush 48, 2) := by decide +kernel
theorem dX7_advances_124 : decode cX7_advances 124 = .ok (.isub, 1) := by decide +kernel
theorem dX7_advances_125 : decode cX7_advances 125 = .ok (.putfield 93, 3) := by decide +kernel
theorem dX7_advances_128 : decode cX7_advances 128 = .ok (.aload_n 0, 1) := by decide +kernel
theorem dX7_advances_129 : decode cX7_advances 129 = .ok (.dup, 1) := by decide +kernel
theorem dX7_advances_130 : decode cX7_advances 130 = .ok (.getfield 80, 3) := by decide +kernel
theorem dX7_advances_133 : decode cX7_advances 133 = .ok (.iconst 1, 1) := by decide +kernel
theorem dX7_advances_134 : decode cX7_advances 134 = .ok (.iadd, 1) := by decide +kernel
theorem dX7_advances_135 : decode cX7_advances 135 = .ok (.putfield 80, 3) := by decide +kernel
theorem dX7_advances_138 : decode cX7_advances 138 = .ok (.goto (-67), 3) := by decide +kernel
theorem dX7_advances_141 : decode cX7_advances 141 = .ok (.aload_n 0, 1) := by decide +kernel
theorem dX7_advances_142 : decode cX7_advances 142 = .ok (.aload_n 0, 1) := by decide +kernel
theorem dX7_advances_143 : decode cX7_advances 143 = .ok (.getfield 93, 3) := by decide +kernel
theorem dX7_advances_146 : decode cX7_advances 146 = .ok (.bipush 99, 2) := by decide +kernel
theorem dX7_advances_148 : decode cX7_advances 148 = .ok (.if_icmp .gt 22, 3) := by decide +kernel
theorem dX7_advances_151 : decode cX7_advances 151 = .ok (.iload_n 1, 1) := by decide +kernel
theorem dX7_advances_152 : decode cX7_advances 152 = .ok (.bipush 48, 2) := by decide +kernel
theorem dX7_advances_154 : decode cX7_advances 154 = .ok (.if_icmp .ne 20, 3) := by decide +kernel
theorem dX7_advances_157 : decode cX7_advances 157 = .ok (.aload_n 0, 1) := by decide +kernel
theorem dX7_advances_158 : decode cX7_advances 158 = .ok (.getfield 80, 3) := by decide +kernel
theorem dX7_advances_161 : decode cX7_advances 161 = .ok (.aload_n 0, 1) := by decide +kernel
theorem dX7_advances_162 : decode cX7_advances 162 = .ok (.getfield 87, 3) := by decide +kernel
theorem dX7_advances_165 : decode cX7_advances 165 = .ok (.isub, 1) := by decide +kernel
theorem dX7_advances_166 : decode cX7_advances 166 = .ok (.iconst 1, 1) := by decide +kernel
theorem dX7_advances_167 : decode cX7_advances 167 = .ok (.if_icmp .le 7, 3) := by decide +kernel
theorem dX7_advances_170 : decode cX7_advances 170 = .ok (.iconst 4, 1) := by decide +kernel
theorem dX7_advances_171 : decode cX7_advances 171 = .ok (.goto 4, 3) := by decide +kernel
theorem dX7_advances_174 : decode cX7_advances 174 = .ok (.iconst 2, 1) := by decide +kernel
theorem dX7_advances_175 : decode cX7_advances 175 = .ok (.putfield 90, 3) := by decide +kernel
theorem dX7_advances_178 : decode cX7_advances 178 = .ok (.goto 44, 3) := by decide +kernel
theorem dX7_advances_181 : decode cX7_advances 181 = .ok (.aload_n 0, 1) := by decide +kernel
theorem dX7_advances_182 : decode cX7_advances 182 = .ok (.dup, 1) := by decide +kernel
theorem dX7_advances_183 : decode cX7_advances 183 = .ok (.getfield 80, 3) := by decide +kernel
theorem dX7_advances_186 : decode cX7_advances 186 = .ok (.iconst 1, 1) := by decide +kernel
theorem dX7_advances_187 : decode cX7_advances 187 = .ok (.iadd, 1) := by decide +kernel
theorem dX7_advances_188 : decode cX7_advances 188 = .ok (.putfield 80, 3) := by decide +kernel
theorem dX7_advances_191 : decode cX7_advances 191 = .ok (.aload_n 0, 1) := by decide +kernel
theorem dX7_advances_192 : decode cX7_advances 192 = .ok (.iload_n 1, 1) := by decide +kernel
theorem dX7_advances_193 : decode cX7_advances 193 = .ok (.putfield 93, 3) := by decide +kernel
theorem dX7_advances_196 : decode cX7_advances 196 = .ok (.aload_n 0, 1) := by decide +kernel
theorem dX7_advances_197 : decode cX7_advances 197 = .ok (.iload_n 1, 1) := by decide +kernel
theorem dX7_advances_198 : decode cX7_advances 198 = .ok (.bipush 59, 2) := by decide +kernel
theorem dX7_advances_200 : decode cX7_advances 200 = .ok (.if_icmp .ne 7, 3) := by decide +kernel
theorem dX7_advances_203 : decode cX7_advances 203 = .ok (.iconst 3, 1) := by decide +kernel
theorem dX7_advances_204 : decode cX7_advances 204 = .ok (.goto 15, 3) := by decide +kernel
theorem dX7_advances_207 : decode cX7_advances 207 = .ok (.iload_n 1, 1) := by decide +kernel
theorem dX7_advances_208 : decode cX7_advances 208 = .ok (.invokestatic 96, 3) := by decide +kernel
theorem dX7_advances_211 : decode cX7_advances 211 = .ok (.ifCond .eq 7, 3) := by decide +kernel
theorem dX7_advances_214 : decode cX7_advances 214 = .ok (.iconst 1, 1) := by decide +kernel
theorem dX7_advances_215 : decode cX7_advances 215 = .ok (.goto 4, 3) := by decide +kernel
theorem dX7_advances_218 : decode cX7_advances 218 = .ok (.iconst 4, 1) := by decide +kernel
theorem dX7_advances_219 : decode cX7_advances 219 = .ok (.putfield 90, 3) := by decide +kernel
theorem dX7_advances_222 : decode cX7_advances 222 = .ok (.return_, 1) := by decide +kernel
theorem dX7_isWell_0 : decode cX7_isWell 0 = .ok (.aload_n 0, 1) := by decide +kernel
theorem dX7_isWell_1 : decode cX7_isWell 1 = .ok (.getfield 100, 3) := by decide +kernel
theorem dX7_isWell_4 : decode cX7_isWell 4 = .ok (.ifCond .ge 7, 3) := by decide +kernel
theorem dX7_isWell_7 : decode cX7_isWell 7 = .ok (.iconst 1, 1) := by decide +kernel
theorem dX7_isWell_8 : decode cX7_isWell 8 = .ok (.goto 4, 3) := by decide +kernel
theorem dX7_isWell_11 : decode cX7_isWell 11 = .ok (.iconst 0, 1) := by decide +kernel
theorem dX7_isWell_12 : decode cX7_isWell 12 = .ok (.ireturn, 1) := by decide +kernel
theorem dX7_takesToken_0 : decode cX7_takesToken 0 = .ok (.aload_n 0, 1) := by decide +kernel
theorem dX7_takesToken_1 : decode cX7_takesToken 1 = .ok (.invokevirtual 103, 3) := by decide +kernel
theorem dX7_takesToken_4 : decode cX7_takesToken 4 = .ok (.ifCond .ne 5, 3) := by decide +kernel
theorem dX7_takesToken_7 : decode cX7_takesToken 7 = .ok (.iconst 0, 1) := by decide +kernel
theorem dX7_takesToken_8 : decode cX7_takesToken 8 = .ok (.ireturn, 1) := by decide +kernel
theorem dX7_takesToken_9 : decode cX7_takesToken 9 = .ok (.iload_n 1, 1) := by decide +kernel
theorem dX7_takesToken_10 : decode cX7_takesToken 10 = .ok (.ifCond .ne 13, 3) := by decide +kernel
theorem dX7_takesToken_13 : decode cX7_takesToken 13 = .ok (.aload_n 0, 1) := by decide +kernel
theorem dX7_takesToken_14 : decode cX7_takesToken 14 = .ok (.aload_n 0, 1) := by decide +kernel
theorem dX7_takesToken_15 : decode cX7_takesToken 15 = .ok (.getfield 87, 3) := by decide +kernel
theorem dX7_takesToken_18 : decode cX7_takesToken 18 = .ok (.putfield 100, 3) := by decide +kernel
theorem dX7_takesToken_21 : decode cX7_takesToken 21 = .ok (.iconst 0, 1) := by decide +kernel
theorem dX7_takesToken_22 : decode cX7_takesToken 22 = .ok (.ireturn, 1) := by decide +kernel
theorem dX7_takesToken_23 : decode cX7_takesToken 23 = .ok (.aload_n 0, 1) := by decide +kernel
theorem dX7_takesToken_24 : decode cX7_takesToken 24 = .ok (.getfield 93, 3) := by decide +kernel
theorem dX7_takesToken_27 : decode cX7_takesToken 27 = .ok (.istore_n 2, 1) := by decide +kernel
theorem dX7_takesToken_28 : decode cX7_takesToken 28 = .ok (.aload_n 0, 1) := by decide +kernel
theorem dX7_takesToken_29 : decode cX7_takesToken 29 = .ok (.invokevirtual 107, 3) := by decide +kernel
theorem dX7_takesToken_32 : decode cX7_takesToken 32 = .ok (.iload_n 2, 1) := by decide +kernel
theorem dX7_takesToken_33 : decode cX7_takesToken 33 = .ok (.ireturn, 1) := by decide +kernel
theorem dX7_number_0 : decode cX7_number 0 = .ok (.aload_n 0, 1) := by decide +kernel
theorem dX7_number_1 : decode cX7_number 1 = .ok (.aload_n 0, 1) := by decide +kernel
theorem dX7_number_2 : decode cX7_number 2 = .ok (.getfield 90, 3) := by decide +kernel
theorem dX7_number_5 : decode cX7_number 5 = .ok (.iconst 2, 1) := by decide +kernel
theorem dX7_number_6 : decode cX7_number 6 = .ok (.if_icmp .ne 19, 3) := by decide +kernel
theorem dX7_number_9 : decode cX7_number 9 = .ok (.aload_n 0, 1) := by decide +kernel
theorem dX7_number_10 : decode cX7_number 10 = .ok (.getfield 93, 3) := by decide +kernel
theorem dX7_number_13 : decode cX7_number 13 = .ok (.iload_n 1, 1) := by decide +kernel
theorem dX7_number_14 : decode cX7_number 14 = .ok (.iload_n 2, 1) := by decide +kernel
theorem dX7_number_15 : decode cX7_number 15 = .ok (.invokestatic 73, 3) := by decide +kernel
theorem dX7_number_18 : decode cX7_number 18 = .ok (.ifCond .eq 7, 3) := by decide +kernel
theorem dX7_number_21 : decode cX7_number 21 = .ok (.iconst 1, 1) := by decide +kernel
theorem dX7_number_22 : decode cX7_number 22 = .ok (.goto 4, 3) := by decide +kernel
theorem dX7_number_25 : decode cX7_number 25 = .ok (.iconst 0, 1) := by decide +kernel
theorem dX7_number_26 : decode cX7_number 26 = .ok (.invokevirtual 110, 3) := by decide +kernel
theorem dX7_number_29 : decode cX7_number 29 = .ok (.ireturn, 1) := by decide +kernel
theorem dX7_unlike_0 : decode cX7_unlike 0 = .ok (.aload_n 0, 1) := by decide +kernel
theorem dX7_unlike_1 : decode cX7_unlike 1 = .ok (.aload_n 0, 1) := by decide +kernel
theorem dX7_unlike_2 : decode cX7_unlike 2 = .ok (.getfield 90, 3) := by decide +kernel
theorem dX7_unlike_5 : decode cX7_unlike 5 = .ok (.iconst 2, 1) := by decide +kernel
theorem dX7_unlike_6 : decode cX7_unlike 6 = .ok (.if_icmp .ne 27, 3) := by decide +kernel
theorem dX7_unlike_9 : decode cX7_unlike 9 = .ok (.aload_n 0, 1) := by decide +kernel
theorem dX7_unlike_10 : decode cX7_unlike 10 = .ok (.getfield 93, 3) := by decide +kernel
theorem dX7_unlike_13 : decode cX7_unlike 13 = .ok (.iconst 0, 1) := by decide +kernel
theorem dX7_unlike_14 : decode cX7_unlike 14 = .ok (.iload_n 1, 1) := by decide +kernel
theorem dX7_unlike_15 : decode cX7_unlike 15 = .ok (.invokestatic 73, 3) := by decide +kernel
theorem dX7_unlike_18 : decode cX7_unlike 18 = .ok (.ifCond .eq 15, 3) := by decide +kernel
theorem dX7_unlike_21 : decode cX7_unlike 21 = .ok (.aload_n 0, 1) := by decide +kernel
theorem dX7_unlike_22 : decode cX7_unlike 22 = .ok (.getfield 93, 3) := by decide +kernel
theorem dX7_unlike_25 : decode cX7_unlike 25 = .ok (.iload_n 2, 1) := by decide +kernel
theorem dX7_unlike_26 : decode cX7_unlike 26 = .ok (.if_icmp .eq 7, 3) := by decide +kernel
theorem dX7_unlike_29 : decode cX7_unlike 29 = .ok (.iconst 1, 1) := by decide +kernel
theorem dX7_unlike_30 : decode cX7_unlike 30 = .ok (.goto 4, 3) := by decide +kernel
theorem dX7_unlike_33 : decode cX7_unlike 33 = .ok (.iconst 0, 1) := by decide +kernel
theorem dX7_unlike_34 : decode cX7_unlike 34 = .ok (.invokevirtual 110, 3) := by decide +kernel
theorem dX7_unlike_37 : decode cX7_unlike 37 = .ok (.ireturn, 1) := by decide +kernel
theorem dX7_begins_0 : decode cX7_begins 0 = .ok (.aload_n 0, 1) := by decide +kernel
theorem dX7_begins_1 : decode cX7_begins 1 = .ok (.iconst 0, 1) := by decide +kernel
theorem dX7_begins_2 : decode cX7_begins 2 = .ok (.putfield 114, 3) := by decide +kernel
theorem dX7_begins_5 : decode cX7_begins 5 = .ok (.aload_n 0, 1) := by decide +kernel
theorem dX7_begins_6 : decode cX7_begins 6 = .ok (.getfield 13, 3) := by decide +kernel
theorem dX7_begins_9 : decode cX7_begins 9 = .ok (.bipush 6, 2) := by decide +kernel
theorem dX7_begins_11 : decode cX7_begins 11 = .ok (.iconst 2, 1) := by decide +kernel
theorem dX7_begins_12 : decode cX7_begins 12 = .ok (.iastore, 1) := by decide +kernel
theorem dX7_begins_13 : decode cX7_begins 13 = .ok (.aload_n 0, 1) := by decide +kernel
theorem dX7_begins_14 : decode cX7_begins 14 = .ok (.getfield 13, 3) := by decide +kernel
theorem dX7_begins_17 : decode cX7_begins 17 = .ok (.bipush 7, 2) := by decide +kernel
theorem dX7_begins_19 : decode cX7_begins 19 = .ok (.iconst 0, 1) := by decide +kernel
theorem dX7_begins_20 : decode cX7_begins 20 = .ok (.iastore, 1) := by decide +kernel
theorem dX7_begins_21 : decode cX7_begins 21 = .ok (.aload_n 0, 1) := by decide +kernel
theorem dX7_begins_22 : decode cX7_begins 22 = .ok (.getfield 13, 3) := by decide +kernel
theorem dX7_begins_25 : decode cX7_begins 25 = .ok (.bipush 8, 2) := by decide +kernel
theorem dX7_begins_27 : decode cX7_begins 27 = .ok (.iconst 0, 1) := by decide +kernel
theorem dX7_begins_28 : decode cX7_begins 28 = .ok (.iastore, 1) := by decide +kernel
theorem dX7_begins_29 : decode cX7_begins 29 = .ok (.aload_n 0, 1) := by decide +kernel
theorem dX7_begins_30 : decode cX7_begins 30 = .ok (.getfield 13, 3) := by decide +kernel
theorem dX7_begins_33 : decode cX7_begins 33 = .ok (.bipush 9, 2) := by decide +kernel
theorem dX7_begins_35 : decode cX7_begins 35 = .ok (.iconst 1, 1) := by decide +kernel
theorem dX7_begins_36 : decode cX7_begins 36 = .ok (.iastore, 1) := by decide +kernel
theorem dX7_begins_37 : decode cX7_begins 37 = .ok (.aload_n 0, 1) := by decide +kernel
theorem dX7_begins_38 : decode cX7_begins 38 = .ok (.getfield 13, 3) := by decide +kernel
theorem dX7_begins_41 : decode cX7_begins 41 = .ok (.bipush 10, 2) := by decide +kernel
theorem dX7_begins_43 : decode cX7_begins 43 = .ok (.iconst 2, 1) := by decide +kernel
theorem dX7_begins_44 : decode cX7_begins 44 = .ok (.iastore, 1) := by decide +kernel
theorem dX7_begins_45 : decode cX7_begins 45 = .ok (.aload_n 0, 1) := by decide +kernel
theorem dX7_begins_46 : decode cX7_begins 46 = .ok (.getfield 13, 3) := by decide +kernel
theorem dX7_begins_49 : decode cX7_begins 49 = .ok (.bipush 11, 2) := by decide +kernel
theorem dX7_begins_51 : decode cX7_begins 51 = .ok (.iconst 1, 1) := by decide +kernel
theorem dX7_begins_52 : decode cX7_begins 52 = .ok (.iastore, 1) := by decide +kernel
theorem dX7_begins_53 : decode cX7_begins 53 = .ok (.bipush 12, 2) := by decide +kernel
theorem dX7_begins_55 : decode cX7_begins 55 = .ok (.istore_n 1, 1) := by decide +kernel
theorem dX7_begins_56 : decode cX7_begins 56 = .ok (.iload_n 1, 1) := by decide +kernel
theorem dX7_begins_57 : decode cX7_begins 57 = .ok (.bipush 24, 2) := by decide +kernel
theorem dX7_begins_59 : decode cX7_begins 59 = .ok (.if_icmp .ge 16, 3) := by decide +kernel
theorem dX7_begins_62 : decode cX7_begins 62 = .ok (.aload_n 0, 1) := by decide +kernel
theorem dX7_begins_63 : decode cX7_begins 63 = .ok (.getfield 22, 3) := by decide +kernel
theorem dX7_begins_66 : decode cX7_begins 66 = .ok (.iload_n 1, 1) := by decide +kernel
theorem dX7_begins_67 : decode cX7_begins 67 = .ok (.iconst 0, 1) := by decide +kernel
theorem dX7_begins_68 : decode cX7_begins 68 = .ok (.iastore, 1) := by decide +kernel
theorem dX7_begins_69 : decode cX7_begins 69 = .ok (.iinc 1 1, 3) := by decide +kernel
theorem dX7_begins_72 : decode cX7_begins 72 = .ok (.goto (-16), 3) := by decide +kernel
theorem dX7_begins_75 : decode cX7_begins 75 = .ok (.return_, 1) := by decide +kernel
theorem dX7_bitOf_0 : decode cX7_bitOf 0 = .ok (.iload_n 0, 1) := by decide +kernel
theorem dX7_bitOf_1 : decode cX7_bitOf 1 = .ok (.bipush 103, 2) := by decide +kernel
theorem dX7_bitOf_3 : decode cX7_bitOf 3 = .ok (.if_icmp .ne 7, 3) := by decide +kernel
theorem dX7_bitOf_6 : decode cX7_bitOf 6 = .ok (.iconst 1, 1) := by decide +kernel
theorem dX7_bitOf_7 : decode cX7_bitOf 7 = .ok (.goto 14, 3) := by decide +kernel
theorem dX7_bitOf_10 : decode cX7_bitOf 10 = .ok (.iload_n 0, 1) := by decide +kernel
theorem dX7_bitOf_11 : decode cX7_bitOf 11 = .ok (.bipush 110, 2) := by decide +kernel
theorem dX7_bitOf_13 : decode cX7_bitOf 13 = .ok (.if_icmp .ne 7, 3) := by decide +kernel
theorem dX7_bitOf_16 : decode cX7_bitOf 16 = .ok (.iconst 2, 1) := by decide +kernel
theorem dX7_bitOf_17 : decode cX7_bitOf 17 = .ok (.goto 4, 3) := by decide +kernel
theorem dX7_bitOf_20 : decode cX7_bitOf 20 = .ok (.iconst 4, 1) := by decide +kernel
theorem dX7_bitOf_21 : decode cX7_bitOf 21 = .ok (.ireturn, 1) := by decide +kernel
theorem dX7_mayBegin_0 : decode cX7_mayBegin 0 = .ok (.aload_n 0, 1) := by decide +kernel
theorem dX7_mayBegin_1 : decode cX7_mayBegin 1 = .ok (.getfield 93, 3) := by decide +kernel
theorem dX7_mayBegin_4 : decode cX7_mayBegin 4 = .ok (.bipush 112, 2) := by decide +kernel
theorem dX7_mayBegin_6 : decode cX7_mayBegin 6 = .ok (.if_icmp .ne 15, 3) := by decide +kernel
theorem dX7_mayBegin_9 : decode cX7_mayBegin 9 = .ok (.iload_n 1, 1) := by decide +kernel
theorem dX7_mayBegin_10 : decode cX7_mayBegin 10 = .ok (.ifCond .ne 7, 3) := by decide +kernel
theorem dX7_mayBegin_13 : decode cX7_mayBegin 13 = .ok (.iconst 1, 1) := by decide +kernel
theorem dX7_mayBegin_14 : decode cX7_mayBegin 14 = .ok (.goto 65, 3) := by decide +kernel
theorem dX7_mayBegin_17 : decode cX7_mayBegin 17 = .ok (.iconst 0, 1) := by decide +kernel
theorem dX7_mayBegin_18 : decode cX7_mayBegin 18 = .ok (.goto 61, 3) := by decide +kernel
theorem dX7_mayBegin_21 : decode cX7_mayBegin 21 = .ok (.aload_n 0, 1) := by decide +kernel
theorem dX7_mayBegin_22 : decode cX7_mayBegin 22 = .ok (.getfield 93, 3) := by decide +kernel
theorem dX7_mayBegin_25 : decode cX7_mayBegin 25 = .ok (.bipush 114, 2) := by decide +kernel
theorem dX7_mayBegin_27 : decode cX7_mayBegin 27 = .ok (.if_icmp .ne 23, 3) := by decide +kernel
theorem dX7_mayBegin_30 : decode cX7_mayBegin 30 = .ok (.aload_n 0, 1) := by decide +kernel
theorem dX7_mayBegin_31 : decode cX7_mayBegin 31 = .ok (.getfield 13, 3) := by decide +kernel
theorem dX7_mayBegin_34 : decode cX7_mayBegin 34 = .ok (.bipush 7, 2) := by decide +kernel
theorem dX7_mayBegin_36 : decode cX7_mayBegin 36 = .ok (.iaload, 1) := by decide +kernel
theorem dX7_mayBegin_37 : decode cX7_mayBegin 37 = .ok (.bipush 12, 2) := by decide +kernel
theorem dX7_mayBegin_39 : decode cX7_mayBegin 39 = .ok (.if_icmp .ge 7, 3) := by decide +kernel
theorem dX7_mayBegin_42 : decode cX7_mayBegin 42 = .ok (.iconst 1, 1) := by decide +kernel
theorem dX7_mayBegin_43 : decode cX7_mayBegin 43 = .ok (.goto 36, 3) := by decide +kernel
theorem dX7_mayBegin_46 : decode cX7_mayBegin 46 = .ok (.iconst 0, 1) := by decide +kernel
theorem dX7_mayBegin_47 : decode cX7_mayBegin 47 = .ok (.goto 32, 3) := by decide +kernel
theorem dX7_mayBegin_50 : decode cX7_mayBegin 50 = .ok (.aload_n 0, 1) := by decide +kernel
theorem dX7_mayBegin_51 : decode cX7_mayBegin 51 = .ok (.getfield 93, 3) := by decide +kernel
theorem dX7_mayBegin_54 : decode cX7_mayBegin 54 = .ok (.bipush 115, 2) := by decide +kernel
theorem dX7_mayBegin_56 : decode cX7_mayBegin 56 = .ok (.if_icmp .eq 18, 3) := by decide +kernel
theorem dX7_mayBegin_59 : decode cX7_mayBegin 59 = .ok (.aload_n 0, 1) := by decide +kernel
theorem dX7_mayBegin_60 : decode cX7_mayBegin 60 = .ok (.getfield 114, 3) := by decide +kernel
theorem dX7_mayBegin_63 : decode cX7_mayBegin 63 = .ok (.aload_n 0, 1) := by decide +kernel
theorem dX7_mayBegin_64 : decode cX7_mayBegin 64 = .ok (.getfield 93, 3) := by decide +kernel
theorem dX7_mayBegin_67 : decode cX7_mayBegin 67 = .ok (.invokestatic 117, 3) := by decide +kernel
theorem dX7_mayBegin_70 : decode cX7_mayBegin 70 = .ok (.iand, 1) := by decide +kernel
theorem dX7_mayBegin_71 : decode cX7_mayBegin 71 = .ok (.ifCond .ne 7, 3) := by decide +kernel
theorem dX7_mayBegin_74 : decode cX7_mayBegin 74 = .ok (.iconst 1, 1) := by decide +kernel
theorem dX7_mayBegin_75 : decode cX7_mayBegin 75 = .ok (.goto 4, 3) := by decide +kernel
theorem dX7_mayBegin_78 : decode cX7_mayBegin 78 = .ok (.iconst 0, 1) := by decide +kernel
theorem dX7_mayBegin_79 : decode cX7_mayBegin 79 = .ok (.ireturn, 1) := by decide +kernel
theorem dX7_readsItem_0 : decode cX7_readsItem 0 = .ok (.aload_n 0, 1) := by decide +kernel
theorem dX7_readsItem_1 : decode cX7_readsItem 1 = .ok (.getfield 13, 3) := by decide +kernel
theorem dX7_readsItem_4 : decode cX7_readsItem 4 = .ok (.bipush 6, 2) := by decide +kernel
theorem dX7_readsItem_6 : decode cX7_readsItem 6 = .ok (.iaload, 1) := by decide +kernel
theorem dX7_readsItem_7 : decode cX7_readsItem 7 = .ok (.iconst 1, 1) := by decide +kernel
theorem dX7_readsItem_8 : decode cX7_readsItem 8 = .ok (.isub, 1) := by decide +kernel
theorem dX7_readsItem_9 : decode cX7_readsItem 9 = .ok (.istore_n 2, 1) := by decide +kernel
theorem dX7_readsItem_10 : decode cX7_readsItem 10 = .ok (.aload_n 0, 1) := by decide +kernel
theorem dX7_readsItem_11 : decode cX7_readsItem 11 = .ok (.getfield 13, 3) := by decide +kernel
theorem dX7_readsItem_14 : decode cX7_readsItem 14 = .ok (.bipush 7, 2) := by decide +kernel
theorem dX7_readsItem_16 : decode cX7_readsItem 16 = .ok (.iaload, 1) := by decide +kernel
theorem dX7_readsItem_17 : decode cX7_readsItem 17 = .ok (.istore_n 3, 1) := by decide +kernel
theorem dX7_readsItem_18 : decode cX7_readsItem 18 = .ok (.iload_n 1, 1) := by decide +kernel
theorem dX7_readsItem_19 : decode cX7_readsItem 19 = .ok (.bipush 112, 2) := by decide +kernel
theorem dX7_readsItem_21 : decode cX7_readsItem 21 = .ok (.if_icmp .ne 20, 3) := by decide +kernel
theorem dX7_readsItem_24 : decode cX7_readsItem 24 = .ok (.aload_n 0, 1) := by decide +kernel
theorem dX7_readsItem_25 : decode cX7_readsItem 25 = .ok (.getfield 13, 3) := by decide +kernel
theorem dX7_readsItem_28 : decode cX7_readsItem 28 = .ok (.bipush 6, 2) := by decide +kernel
theorem dX7_readsItem_30 : decode cX7_readsItem 30 = .ok (.aload_n 0, 1) := by decide +kernel
theorem dX7_readsItem_31 : decode cX7_readsItem 31 = .ok (.iconst 2, 1) := by decide +kernel
theorem dX7_readsItem_32 : decode cX7_readsItem 32 = .ok (.bipush 8, 2) := by decide +kernel
theorem dX7_readsItem_34 : decode cX7_readsItem 34 = .ok (.invokevirtual 120, 3) := by decide +kernel
theorem dX7_readsItem_37 : decode cX7_readsItem 37 = .ok (.iastore, 1) := by decide +kernel
theorem dX7_readsItem_38 : decode cX7_readsItem 38 = .ok (.goto 239, 3) := by decide +kernel
theorem dX7_readsItem_41 : decode cX7_readsItem 41 = .ok (.iload_n 1, 1) := by decide +kernel
theorem dX7_readsItem_42 : decode cX7_readsItem 42 = .ok (.bipush 114, 2) := by decide +kernel
theorem dX7_readsItem_44 : decode cX7_readsItem 44 = .ok (.if_icmp .ne 77, 3) := by decide +kernel
theorem dX7_readsItem_47 : decode cX7_readsItem 47 = .ok (.aload_n 0, 1) := by decide +kernel
theorem dX7_readsItem_48 : decode cX7_readsItem 48 = .ok (.getfield 16, 3) := by decide +kernel
theorem dX7_readsItem_51 : decode cX7_readsItem 51 = .ok (.bipush 24, 2) := by decide +kernel
theorem dX7_readsItem_53 : decode cX7_readsItem 53 = .ok (.iconst 2, 1) := by decide +kernel
theorem dX7_readsItem_54 : decode cX7_readsItem 54 = .ok (.iload_n 3, 1) := by decide +kernel
theorem dX7_readsItem_55 : decode cX7_readsItem 55 = .ok (.imul, 1) := by decide +kernel
theorem dX7_readsItem_56 : decode cX7_readsItem 56 = .ok (.iadd, 1) := by decide +kernel
theorem dX7_readsItem_57 : decode cX7_readsItem 57 = .ok (.aload_n 0, 1) := by decide +kernel
theorem dX7_readsItem_58 : decode cX7_readsItem 58 = .ok (.iconst 0, 1) := by decide +kernel
theorem dX7_readsItem_59 : decode cX7_readsItem 59 = .ok (.iload_n 2, 1) := by decide +kernel
theorem dX7_readsItem_60 : decode cX7_readsItem 60 = .ok (.invokevirtual 120, 3) := by decide +kernel
theorem dX7_readsItem_63 : decode cX7_readsItem 63 = .ok (.iastore, 1) := by decide +kernel
theorem dX7_readsItem_64 : decode cX7_readsItem 64 = .ok (.aload_n 0, 1) := by decide +kernel
theorem dX7_readsItem_65 : decode cX7_readsItem 65 = .ok (.getfield 16, 3) := by decide +kernel
theorem dX7_readsItem_68 : decode cX7_readsItem 68 = .ok (.bipush 25, 2) := by decide +kernel
theorem dX7_readsItem_70 : decode cX7_readsItem 70 = .ok (.iconst 2, 1) := by decide +kernel
theorem dX7_readsItem_71 : decode cX7_readsItem 71 = .ok (.iload_n 3, 1) := by decide +kernel
theorem dX7_readsItem_72 : decode cX7_readsItem 72 = .ok (.imul, 1) := by decide +kernel
theorem dX7_readsItem_73 : decode cX7_readsItem 73 = .ok (.iadd, 1) := by decide +kernel
theorem dX7_readsItem_74 : decode cX7_readsItem 74 = .ok (.aload_n 0, 1) := by decide +kernel
theorem dX7_readsItem_75 : decode cX7_readsItem 75 = .ok (.iload_n 2, 1) := by decide +kernel
theorem dX7_readsItem_76 : decode cX7_readsItem 76 = .ok (.aload_n 0, 1) := by decide +kernel
theorem dX7_readsItem_77 : decode cX7_readsItem 77 = .ok (.getfield 16, 3) := by decide +kernel
theorem dX7_readsItem_80 : decode cX7_readsItem 80 = .ok (.bipush 24, 2) := by decide +kernel
theorem dX7_readsItem_82 : decode cX7_readsItem 82 = .ok (.iconst 2, 1) := by decide +kernel
theorem dX7_readsItem_83 : decode cX7_readsItem 83 = .ok (.iload_n 3, 1) := by decide +kernel
theorem dX7_readsItem_84 : decode cX7_readsItem 84 = .ok (.imul, 1) := by decide +kernel
theorem dX7_readsItem_85 : decode cX7_readsItem 85 = .ok (.iadd, 1) := by decide +kernel
theorem dX7_readsItem_86 : decode cX7_readsItem 86 = .ok (.iaload, 1) := by decide +kernel
theorem dX7_readsItem_87 : decode cX7_readsItem 87 = .ok (.invokevirtual 124, 3) := by decide +kernel
theorem dX7_readsItem_90 : decode cX7_readsItem 90 = .ok (.iastore, 1) := by decide +kernel
theorem dX7_readsItem_91 : decode cX7_readsItem 91 = .ok (.aload_n 0, 1) := by decide +kernel
theorem dX7_readsItem_92 : decode cX7_readsItem 92 = .ok (.getfield 19, 3) := by decide +kernel
theorem dX7_readsItem_95 : decode cX7_readsItem 95 = .ok (.bipush 12, 2) := by decide +kernel
theorem dX7_readsItem_97 : decode cX7_readsItem 97 = .ok (.iload_n 3, 1) := by decide +kernel
theorem dX7_readsItem_98 : decode cX7_readsItem 98 = .ok (.iadd, 1) := by decide +kernel
theorem dX7_readsItem_99 : decode cX7_readsItem 99 = .ok (.aload_n 0, 1) := by decide +kernel
theorem dX7_readsItem_100 : decode cX7_readsItem 100 = .ok (.iconst 1, 1) := by decide +kernel
theorem dX7_readsItem_101 : decode cX7_readsItem 101 = .ok (.bipush 60, 2) := by decide +kernel
theorem dX7_readsItem_103 : decode cX7_readsItem 103 = .ok (.invokevirtual 120, 3) := by decide +kernel
theorem dX7_readsItem_106 : decode cX7_readsItem 106 = .ok (.iastore, 1) := by decide +kernel
theorem dX7_readsItem_107 : decode cX7_readsItem 107 = .ok (.aload_n 0, 1) := by decide +kernel
theorem dX7_readsItem_108 : decode cX7_readsItem 108 = .ok (.getfield 13, 3) := by decide +kernel
theorem dX7_readsItem_111 : decode cX7_readsItem 111 = .ok (.bipush 7, 2) := by decide +kernel
theorem dX7_readsItem_113 : decode cX7_readsItem 113 = .ok (.dup2, 1) := by decide +kernel
theorem dX7_readsItem_114 : decode cX7_readsItem 114 = .ok (.iaload, 1) := by decide +kernel
theorem dX7_readsItem_115 : decode cX7_readsItem 115 = .ok (.iconst 1, 1) := by decide +kernel
theorem dX7_readsItem_116 : decode cX7_readsItem 116 = .ok (.iadd, 1) := by decide +kernel
theorem dX7_readsItem_117 : decode cX7_readsItem 117 = .ok (.iastore, 1) := by decide +kernel
theorem dX7_readsItem_118 : decode cX7_readsItem 118 = .ok (.goto 159, 3) := by decide +kernel
theorem dX7_readsItem_121 : decode cX7_readsItem 121 = .ok (.iload_n 1, 1) := by decide +kernel
theorem dX7_readsItem_122 : decode cX7_readsItem 122 = .ok (.bipush 115, 2) := by decide +kernel
theorem dX7_readsItem_124 : decode cX7_readsItem 124 = .ok (.if_icmp .ne 68, 3) := by decide +kernel
theorem dX7_readsItem_127 : decode cX7_readsItem 127 = .ok (.aload_n 0, 1) := by decide +kernel
theorem dX7_readsItem_128 : decode cX7_readsItem 128 = .ok (.iconst 0, 1) := by decide +kernel
theorem dX7_readsItem_129 : decode cX7_readsItem 129 = .ok (.iload_n 3, 1) := by decide +kernel
theorem dX7_readsItem_130 : decode cX7_readsItem 130 = .ok (.iconst 1, 1) := by decide +kernel
theorem dX7_readsItem_131 : decode cX7_readsItem 131 = .ok (.isub, 1) := by decide +kernel
theorem dX7_readsItem_132 : decode cX7_readsItem 132 = .ok (.invokevirtual 120, 3) := by decide +kernel
theorem dX7_readsItem_135 : decode cX7_readsItem 135 = .ok (.istore 4, 2) := by decide +kernel
theorem dX7_readsItem_137 : decode cX7_readsItem 137 = .ok (.aload_n 0, 1) := by decide +kernel
theorem dX7_readsItem_138 : decode cX7_readsItem 138 = .ok (.iload_n 3, 1) := by decide +kernel
theorem dX7_readsItem_139 : decode cX7_readsItem 139 = .ok (.iconst 1, 1) := by decide +kernel
theorem dX7_readsItem_140 : decode cX7_readsItem 140 = .ok (.isub, 1) := by decide +kernel
theorem dX7_readsItem_141 : decode cX7_readsItem 141 = .ok (.iload 4, 2) := by decide +kernel
theorem dX7_readsItem_143 : decode cX7_readsItem 143 = .ok (.invokevirtual 124, 3) := by decide +kernel
theorem dX7_readsItem_146 : decode cX7_readsItem 146 = .ok (.istore 5, 2) := by decide +kernel
theorem dX7_readsItem_148 : decode cX7_readsItem 148 = .ok (.aload_n 0, 1) := by decide +kernel
theorem dX7_readsItem_149 : decode cX7_readsItem 149 = .ok (.invokevirtual 103, 3) := by decide +kernel
theorem dX7_readsItem_152 : decode cX7_readsItem 152 = .ok (.ifCond .eq 37, 3) := by decide +kernel
theorem dX7_readsItem_155 : decode cX7_readsItem 155 = .ok (.aload_n 0, 1) := by decide +kernel
theorem dX7_readsItem_156 : decode cX7_readsItem 156 = .ok (.getfield 22, 3) := by decide +kernel
theorem dX7_readsItem_159 : decode cX7_readsItem 159 = .ok (.bipush 12, 2) := by decide +kernel
theorem dX7_readsItem_161 : decode cX7_readsItem 161 = .ok (.iload 4, 2) := by decide +kernel
theorem dX7_readsItem_163 : decode cX7_readsItem 163 = .ok (.iadd, 1) := by decide +kernel
theorem dX7_readsItem_164 : decode cX7_readsItem 164 = .ok (.dup2, 1) := by decide +kernel
theorem dX7_readsItem_165 : decode cX7_readsItem 165 = .ok (.iaload, 1) := by decide +kernel
theorem dX7_readsItem_166 : decode cX7_readsItem 166 = .ok (.iconst 1, 1) := by decide +kernel
theorem dX7_readsItem_167 : decode cX7_readsItem 167 = .ok (.iload 5, 2) := by decide +kernel
theorem dX7_readsItem_169 : decode cX7_readsItem 169 = .ok (.ishl, 1) := by decide +kernel
theorem dX7_readsItem_170 : decode cX7_readsItem 170 = .ok (.ior, 1) := by decide +kernel
theorem dX7_readsItem_171 : decode cX7_readsItem 171 = .ok (.iastore, 1) := by decide +kernel
theorem dX7_readsItem_172 : decode cX7_readsItem 172 = .ok (.aload_n 0, 1) := by decide +kernel
theorem dX7_readsItem_173 : decode cX7_readsItem 173 = .ok (.getfield 22, 3) := by decide +kernel
theorem dX7_readsItem_176 : decode cX7_readsItem 176 = .ok (.bipush 12, 2) := by decide +kernel
theorem dX7_readsItem_178 : decode cX7_readsItem 178 = .ok (.iload 5, 2) := by decide +kernel
theorem dX7_readsItem_180 : decode cX7_readsItem 180 = .ok (.iadd, 1) := by decide +kernel
theorem dX7_readsItem_181 : decode cX7_readsItem 181 = .ok (.dup2, 1) := by decide +kernel
theorem dX7_readsItem_182 : decode cX7_readsItem 182 = .ok (.iaload, 1) := by decide +kernel
theorem dX7_readsItem_183 : decode cX7_readsItem 183 = .ok (.iconst 1, 1) := by decide +kernel
theorem dX7_readsItem_184 : decode cX7_readsItem 184 = .ok (.iload 4, 2) := by decide +kernel
theorem dX7_readsItem_186 : decode cX7_readsItem 186 = .ok (.ishl, 1) := by decide +kernel
theorem dX7_readsItem_187 : decode cX7_readsItem 187 = .ok (.ior, 1) := by decide +kernel
theorem dX7_readsItem_188 : decode cX7_readsItem 188 = .ok (.iastore, 1) := by decide +kernel
theorem dX7_readsItem_189 : decode cX7_readsItem 189 = .ok (.goto 88, 3) := by decide +kernel
theorem dX7_readsItem_192 : decode cX7_readsItem 192 = .ok (.iload_n 1, 1) := by decide +kernel
theorem dX7_readsItem_193 : decode cX7_readsItem 193 = .ok (.bipush 103, 2) := by decide +kernel
theorem dX7_readsItem_195 : decode cX7_readsItem 195 = .ok (.if_icmp .ne 32, 3) := by decide +kernel
theorem dX7_readsItem_198 : decode cX7_readsItem 198 = .ok (.aload_n 0, 1) := by decide +kernel
theorem dX7_readsItem_199 : decode cX7_readsItem 199 = .ok (.getfield 13, 3) := by decide +kernel
theorem dX7_readsItem_202 : decode cX7_readsItem 202 = .ok (.bipush 8, 2) := by decide +kernel
theorem dX7_readsItem_204 : decode cX7_readsItem 204 = .ok (.aload_n 0, 1) := by decide +kernel
theorem dX7_readsItem_205 : decode cX7_readsItem 205 = .ok (.iconst 0, 1) := by decide +kernel
theorem dX7_readsItem_206 : decode cX7_readsItem 206 = .ok (.iload_n 2, 1) := by decide +kernel
theorem dX7_readsItem_207 : decode cX7_readsItem 207 = .ok (.invokevirtual 120, 3) := by decide +kernel
theorem dX7_readsItem_210 : decode cX7_readsItem 210 = .ok (.iastore, 1) := by decide +kernel
theorem dX7_readsItem_211 : decode cX7_readsItem 211 = .ok (.aload_n 0, 1) := by decide +kernel
theorem dX7_readsItem_212 : decode cX7_readsItem 212 = .ok (.getfield 13, 3) := by decide +kernel
theorem dX7_readsItem_215 : decode cX7_readsItem 215 = .ok (.bipush 9, 2) := by decide +kernel
theorem dX7_readsItem_217 : decode cX7_readsItem 217 = .ok (.aload_n 0, 1) := by decide +kernel
theorem dX7_readsItem_218 : decode cX7_readsItem 218 = .ok (.iconst 0, 1) := by decide +kernel
theorem dX7_readsItem_219 : decode cX7_readsItem 219 = .ok (.iload_n 2, 1) := by decide +kernel
theorem dX7_readsItem_220 : decode cX7_readsItem 220 = .ok (.invokevirtual 120, 3) := by decide +kernel
theorem dX7_readsItem_223 : decode cX7_readsItem 223 = .ok (.iastore, 1) := by decide +kernel
theorem dX7_readsItem_224 : decode cX7_readsItem 224 = .ok (.goto 40, 3) := by decide +kernel
theorem dX7_readsItem_227 : decode cX7_readsItem 227 = .ok (.iload_n 1, 1) := by decide +kernel
theorem dX7_readsItem_228 : decode cX7_readsItem 228 = .ok (.bipush 110, 2) := by decide +kernel
theorem dX7_readsItem_230 : decode cX7_readsItem 230 = .ok (.if_icmp .ne 20, 3) := by decide +kernel
theorem dX7_readsItem_233 : decode cX7_readsItem 233 = .ok (.aload_n 0, 1) := by decide +kernel
theorem dX7_readsItem_234 : decode cX7_readsItem 234 = .ok (.getfield 13, 3) := by decide +kernel
theorem dX7_readsItem_237 : decode cX7_readsItem 237 = .ok (.bipush 10, 2) := by decide +kernel
theorem dX7_readsItem_239 : decode cX7_readsItem 239 = .ok (.aload_n 0, 1) := by decide +kernel
theorem dX7_readsItem_240 : decode cX7_readsItem 240 = .ok (.iconst 0, 1) := by decide +kernel
theorem dX7_readsItem_241 : decode cX7_readsItem 241 = .ok (.bipush 20, 2) := by decide +kernel
theorem dX7_readsItem_243 : decode cX7_readsItem 243 = .ok (.invokevirtual 120, 3) := by decide +kernel
theorem dX7_readsItem_246 : decode cX7_readsItem 246 = .ok (.iastore, 1) := by decide +kernel
theorem dX7_readsItem_247 : decode cX7_readsItem 247 = .ok (.goto 17, 3) := by decide +kernel
theorem dX7_readsItem_250 : decode cX7_readsItem 250 = .ok (.aload_n 0, 1) := by decide +kernel
theorem dX7_readsItem_251 : decode cX7_readsItem 251 = .ok (.getfield 13, 3) := by decide +kernel
theorem dX7_readsItem_254 : decode cX7_readsItem 254 = .ok (.bipush 11, 2) := by decide +kernel
theorem dX7_readsItem_256 : decode cX7_readsItem 256 = .ok (.aload_n 0, 1) := by decide +kernel
theorem dX7_readsItem_257 : decode cX7_readsItem 257 = .ok (.iconst 0, 1) := by decide +kernel
theorem dX7_readsItem_258 : decode cX7_readsItem 258 = .ok (.bipush 9, 2) := by decide +kernel
theorem dX7_readsItem_260 : decode cX7_readsItem 260 = .ok (.invokevirtual 120, 3) := by decide +kernel
theorem dX7_readsItem_263 : decode cX7_readsItem 263 = .ok (.iastore, 1) := by decide +kernel
theorem dX7_readsItem_264 : decode cX7_readsItem 264 = .ok (.aload_n 0, 1) := by decide +kernel
theorem dX7_readsItem_265 : decode cX7_readsItem 265 = .ok (.dup, 1) := by decide +kernel
theorem dX7_readsItem_266 : decode cX7_readsItem 266 = .ok (.getfield 114, 3) := by decide +kernel
theorem dX7_readsItem_269 : decode cX7_readsItem 269 = .ok (.iload_n 1, 1) := by decide +kernel
theorem dX7_readsItem_270 : decode cX7_readsItem 270 = .ok (.invokestatic 117, 3) := by decide +kernel
theorem dX7_readsItem_273 : decode cX7_readsItem 273 = .ok (.ior, 1) := by decide +kernel
theorem dX7_readsItem_274 : decode cX7_readsItem 274 = .ok (.putfield 114, 3) := by decide +kernel
theorem dX7_readsItem_277 : decode cX7_readsItem 277 = .ok (.return_, 1) := by decide +kernel
theorem dX7_town_0 : decode cX7_town 0 = .ok (.aload_n 0, 1) := by decide +kernel
theorem dX7_town_1 : decode cX7_town 1 = .ok (.iconst 0, 1) := by decide +kernel
theorem dX7_town_2 : decode cX7_town 2 = .ok (.putfield 69, 3) := by decide +kernel
theorem dX7_town_5 : decode cX7_town 5 = .ok (.aload_n 0, 1) := by decide +kernel
theorem dX7_town_6 : decode cX7_town 6 = .ok (.iconst (-1), 1) := by decide +kernel
theorem dX7_town_7 : decode cX7_town 7 = .ok (.putfield 100, 3) := by decide +kernel
theorem dX7_town_10 : decode cX7_town 10 = .ok (.aload_n 0, 1) := by decide +kernel
theorem dX7_town_11 : decode cX7_town 11 = .ok (.iconst 0, 1) := by decide +kernel
theorem dX7_town_12 : decode cX7_town 12 = .ok (.putfield 80, 3) := by decide +kernel
theorem dX7_town_15 : decode cX7_town 15 = .ok (.aload_n 0, 1) := by decide +kernel
theorem dX7_town_16 : decode cX7_town 16 = .ok (.invokevirtual 63, 3) := by decide +kernel
theorem dX7_town_19 : decode cX7_town 19 = .ok (.iconst 0, 1) := by decide +kernel
theorem dX7_town_20 : decode cX7_town 20 = .ok (.istore_n 1, 1) := by decide +kernel
theorem dX7_town_21 : decode cX7_town 21 = .ok (.aload_n 0, 1) := by decide +kernel
theorem dX7_town_22 : decode cX7_town 22 = .ok (.invokevirtual 107, 3) := by decide +kernel
theorem dX7_town_25 : decode cX7_town 25 = .ok (.aload_n 0, 1) := by decide +kernel
theorem dX7_town_26 : decode cX7_town 26 = .ok (.invokevirtual 103, 3) := by decide +kernel
theorem dX7_town_29 : decode cX7_town 29 = .ok (.ifCond .eq 72, 3) := by decide +kernel
theorem dX7_town_32 : decode cX7_town 32 = .ok (.aload_n 0, 1) := by decide +kernel
theorem dX7_town_33 : decode cX7_town 33 = .ok (.getfield 90, 3) := by decide +kernel
theorem dX7_town_36 : decode cX7_town 36 = .ok (.ifCond .eq 65, 3) := by decide +kernel
theorem dX7_town_39 : decode cX7_town 39 = .ok (.aload_n 0, 1) := by decide +kernel
theorem dX7_town_40 : decode cX7_town 40 = .ok (.aload_n 0, 1) := by decide +kernel
theorem dX7_town_41 : decode cX7_town 41 = .ok (.getfield 90, 3) := by decide +kernel
theorem dX7_town_44 : decode cX7_town 44 = .ok (.iconst 1, 1) := by decide +kernel
theorem dX7_town_45 : decode cX7_town 45 = .ok (.if_icmp .ne 15, 3) := by decide +kernel
theorem dX7_town_48 : decode cX7_town 48 = .ok (.aload_n 0, 1) := by decide +kernel
theorem dX7_town_49 : decode cX7_town 49 = .ok (.iload_n 1, 1) := by decide +kernel
theorem dX7_town_50 : decode cX7_town 50 = .ok (.invokevirtual 127, 3) := by decide +kernel
theorem dX7_town_53 : decode cX7_town 53 = .ok (.ifCond .eq 7, 3) := by decide +kernel
theorem dX7_town_56 : decode cX7_town 56 = .ok (.iconst 1, 1) := by decide +kernel
theorem dX7_town_57 : decode cX7_town 57 = .ok (.goto 4, 3) := by decide +kernel
theorem dX7_town_60 : decode cX7_town 60 = .ok (.iconst 0, 1) := by decide +kernel
theorem dX7_town_61 : decode cX7_town 61 = .ok (.invokevirtual 110, 3) := by decide +kernel
theorem dX7_town_64 : decode cX7_town 64 = .ok (.istore_n 2, 1) := by decide +kernel
theorem dX7_town_65 : decode cX7_town 65 = .ok (.aload_n 0, 1) := by decide +kernel
theorem dX7_town_66 : decode cX7_town 66 = .ok (.invokevirtual 103, 3) := by decide +kernel
theorem dX7_town_69 : decode cX7_town 69 = .ok (.ifCond .eq 8, 3) := by decide +kernel
theorem dX7_town_72 : decode cX7_town 72 = .ok (.aload_n 0, 1) := by decide +kernel
theorem dX7_town_73 : decode cX7_town 73 = .ok (.iload_n 2, 1) := by decide +kernel
theorem dX7_town_74 : decode cX7_town 74 = .ok (.invokevirtual 130, 3) := by decide +kernel
theorem dX7_town_77 : decode cX7_town 77 = .ok (.aload_n 0, 1) := by decide +kernel
theorem dX7_town_78 : decode cX7_town 78 = .ok (.aload_n 0, 1) := by decide +kernel
theorem dX7_town_79 : decode cX7_town 79 = .ok (.getfield 90, 3) := by decide +kernel
theorem dX7_town_82 : decode cX7_town 82 = .ok (.iconst 3, 1) := by decide +kernel
theorem dX7_town_83 : decode cX7_town 83 = .ok (.if_icmp .ne 7, 3) := by decide +kernel
theorem dX7_town_86 : decode cX7_town 86 = .ok (.iconst 1, 1) := by decide +kernel
theorem dX7_town_87 : decode cX7_town 87 = .ok (.goto 4, 3) := by decide +kernel
theorem dX7_town_90 : decode cX7_town 90 = .ok (.iconst 0, 1) := by decide +kernel
theorem dX7_town_91 : decode cX7_town 91 = .ok (.invokevirtual 110, 3) := by decide +kernel
theorem dX7_town_94 : decode cX7_town 94 = .ok (.pop, 1) := by decide +kernel
theorem dX7_town_95 : decode cX7_town 95 = .ok (.iinc 1 1, 3) := by decide +kernel
theorem dX7_town_98 : decode cX7_town 98 = .ok (.goto (-73), 3) := by decide +kernel
theorem dX7_town_101 : decode cX7_town 101 = .ok (.aload_n 0, 1) := by decide +kernel
theorem dX7_town_102 : decode cX7_town 102 = .ok (.invokevirtual 103, 3) := by decide +kernel
theorem dX7_town_105 : decode cX7_town 105 = .ok (.ifCond .ne 11, 3) := by decide +kernel
theorem dX7_town_108 : decode cX7_town 108 = .ok (.bipush (-10), 2) := by decide +kernel
theorem dX7_town_110 : decode cX7_town 110 = .ok (.aload_n 0, 1) := by decide +kernel
theorem dX7_town_111 : decode cX7_town 111 = .ok (.getfield 100, 3) := by decide +kernel
theorem dX7_town_114 : decode cX7_town 114 = .ok (.isub, 1) := by decide +kernel
theorem dX7_town_115 : decode cX7_town 115 = .ok (.ireturn, 1) := by decide +kernel
theorem dX7_town_116 : decode cX7_town 116 = .ok (.aload_n 0, 1) := by decide +kernel
theorem dX7_town_117 : decode cX7_town 117 = .ok (.invokevirtual 66, 3) := by decide +kernel
theorem dX7_town_120 : decode cX7_town 120 = .ok (.iload_n 1, 1) := by decide +kernel
theorem dX7_town_121 : decode cX7_town 121 = .ok (.ireturn, 1) := by decide +kernel
theorem dX7_settles_0 : decode cX7_settles 0 = .ok (.iconst 0, 1) := by decide +kernel
theorem dX7_settles_1 : decode cX7_settles 1 = .ok (.istore_n 1, 1) := by decide +kernel
theorem dX7_settles_2 : decode cX7_settles 2 = .ok (.iload_n 1, 1) := by decide +kernel
theorem dX7_settles_3 : decode cX7_settles 3 = .ok (.bipush 6, 2) := by decide +kernel
theorem dX7_settles_5 : decode cX7_settles 5 = .ok (.if_icmp .ge 24, 3) := by decide +kernel
theorem dX7_settles_8 : decode cX7_settles 8 = .ok (.aload_n 0, 1) := by decide +kernel
theorem dX7_settles_9 : decode cX7_settles 9 = .ok (.getfield 13, 3) := by decide +kernel
theorem dX7_settles_12 : decode cX7_settles 12 = .ok (.iload_n 1, 1) := by decide +kernel
theorem dX7_settles_13 : decode cX7_settles 13 = .ok (.aload_n 0, 1) := by decide +kernel
theorem dX7_settles_14 : decode cX7_settles 14 = .ok (.getfield 13, 3) := by decide +kernel
theorem dX7_settles_17 : decode cX7_settles 17 = .ok (.bipush 6, 2) := by decide +kernel
theorem dX7_settles_19 : decode cX7_settles 19 = .ok (.iload_n 1, 1) := by decide +kernel
theorem dX7_settles_20 : decode cX7_settles 20 = .ok (.iadd, 1) := by decide +kernel
theorem dX7_settles_21 : decode cX7_settles 21 = .ok (.iaload, 1) := by decide +kernel
theorem dX7_settles_22 : decode cX7_settles 22 = .ok (.iastore, 1) := by decide +kernel
theorem dX7_settles_23 : decode cX7_settles 23 = .ok (.iinc 1 1, 3) := by decide +kernel
theorem dX7_settles_26 : decode cX7_settles 26 = .ok (.goto (-24), 3) := by decide +kernel
theorem dX7_settles_29 : decode cX7_settles 29 = .ok (.iconst 0, 1) := by decide +kernel
theorem dX7_settles_30 : decode cX7_settles 30 = .ok (.istore_n 1, 1) := by decide +kernel
theorem dX7_settles_31 : decode cX7_settles 31 = .ok (.iload_n 1, 1) := by decide +kernel
theorem dX7_settles_32 : decode cX7_settles 32 = .ok (.bipush 12, 2) := by decide +kernel
theorem dX7_settles_34 : decode cX7_settles 34 = .ok (.if_icmp .ge 79, 3) := by decide +kernel
theorem dX7_settles_37 : decode cX7_settles 37 = .ok (.aload_n 0, 1) := by decide +kernel
theorem dX7_settles_38 : decode cX7_settles 38 = .ok (.getfield 16, 3) := by decide +kernel
theorem dX7_settles_41 : decode cX7_settles 41 = .ok (.iconst 2, 1) := by decide +kernel
theorem dX7_settles_42 : decode cX7_settles 42 = .ok (.iload_n 1, 1) := by decide +kernel
theorem dX7_settles_43 : decode cX7_settles 43 = .ok (.imul, 1) := by decide +kernel
theorem dX7_settles_44 : decode cX7_settles 44 = .ok (.aload_n 0, 1) := by decide +kernel
theorem dX7_settles_45 : decode cX7_settles 45 = .ok (.getfield 16, 3) := by decide +kernel
theorem dX7_settles_48 : decode cX7_settles 48 = .ok (.bipush 24, 2) := by decide +kernel
theorem dX7_settles_50 : decode cX7_settles 50 = .ok (.iconst 2, 1) := by decide +kernel
theorem dX7_settles_51 : decode cX7_settles 51 = .ok (.iload_n 1, 1) := by decide +kernel
theorem dX7_settles_52 : decode cX7_settles 52 = .ok (.imul, 1) := by decide +kernel
theorem dX7_settles_53 : decode cX7_settles 53 = .ok (.iadd, 1) := by decide +kernel
theorem dX7_settles_54 : decode cX7_settles 54 = .ok (.iaload, 1) := by decide +kernel
theorem dX7_settles_55 : decode cX7_settles 55 = .ok (.iastore, 1) := by decide +kernel
theorem dX7_settles_56 : decode cX7_settles 56 = .ok (.aload_n 0, 1) := by decide +kernel
theorem dX7_settles_57 : decode cX7_settles 57 = .ok (.getfield 16, 3) := by decide +kernel
theorem dX7_settles_60 : decode cX7_settles 60 = .ok (.iconst 2, 1) := by decide +kernel
theorem dX7_settles_61 : decode cX7_settles 61 = .ok (.iload_n 1, 1) := by decide +kernel
theorem dX7_settles_62 : decode cX7_settles 62 = .ok (.imul, 1) := by decide +kernel
theorem dX7_settles_63 : decode cX7_settles 63 = .ok (.iconst 1, 1) := by decide +kernel
theorem dX7_settles_64 : decode cX7_settles 64 = .ok (.iadd, 1) := by decide +kernel
theorem dX7_settles_65 : decode cX7_settles 65 = .ok (.aload_n 0, 1) := by decide +kernel
theorem dX7_settles_66 : decode cX7_settles 66 = .ok (.getfield 16, 3) := by decide +kernel
theorem dX7_settles_69 : decode cX7_settles 69 = .ok (.bipush 25, 2) := by decide +kernel
theorem dX7_settles_71 : decode cX7_settles 71 = .ok (.iconst 2, 1) := by decide +kernel
theorem dX7_settles_72 : decode cX7_settles 72 = .ok (.iload_n 1, 1) := by decide +kernel
theorem dX7_settles_73 : decode cX7_settles 73 = .ok (.imul, 1) := by decide +kernel
theorem dX7_settles_74 : decode cX7_settles 74 = .ok (.iadd, 1) := by decide +kernel
theorem dX7_settles_75 : decode cX7_settles 75 = .ok (.iaload, 1) := by decide +kernel
theorem dX7_settles_76 : decode cX7_settles 76 = .ok (.iastore, 1) := by decide +kernel
theorem dX7_settles_77 : decode cX7_settles 77 = .ok (.aload_n 0, 1) := by decide +kernel
theorem dX7_settles_78 : decode cX7_settles 78 = .ok (.getfield 19, 3) := by decide +kernel
theorem dX7_settles_81 : decode cX7_settles 81 = .ok (.iload_n 1, 1) := by decide +kernel
theorem dX7_settles_82 : decode cX7_settles 82 = .ok (.aload_n 0, 1) := by decide +kernel
theorem dX7_settles_83 : decode cX7_settles 83 = .ok (.getfield 19, 3) := by decide +kernel
theorem dX7_settles_86 : decode cX7_settles 86 = .ok (.bipush 12, 2) := by decide +kernel
theorem dX7_settles_88 : decode cX7_settles 88 = .ok (.iload_n 1, 1) := by decide +kernel
theorem dX7_settles_89 : decode cX7_settles 89 = .ok (.iadd, 1) := by decide +kernel
theorem dX7_settles_90 : decode cX7_settles 90 = .ok (.iaload, 1) := by decide +kernel
theorem dX7_settles_91 : decode cX7_settles 91 = .ok (.iastore, 1) := by decide +kernel
theorem dX7_settles_92 : decode cX7_settles 92 = .ok (.aload_n 0, 1) := by decide +kernel
theorem dX7_settles_93 : decode cX7_settles 93 = .ok (.getfield 22, 3) := by decide +kernel
theorem dX7_settles_96 : decode cX7_settles 96 = .ok (.iload_n 1, 1) := by decide +kernel
theorem dX7_settles_97 : decode cX7_settles 97 = .ok (.aload_n 0, 1) := by decide +kernel
theorem dX7_settles_98 : decode cX7_settles 98 = .ok (.getfield 22, 3) := by decide +kernel
theorem dX7_settles_101 : decode cX7_settles 101 = .ok (.bipush 12, 2) := by decide +kernel
theorem dX7_settles_103 : decode cX7_settles 103 = .ok (.iload_n 1, 1) := by decide +kernel
theorem dX7_settles_104 : decode cX7_settles 104 = .ok (.iadd, 1) := by decide +kernel
theorem dX7_settles_105 : decode cX7_settles 105 = .ok (.iaload, 1) := by decide +kernel
theorem dX7_settles_106 : decode cX7_settles 106 = .ok (.iastore, 1) := by decide +kernel
theorem dX7_settles_107 : decode cX7_settles 107 = .ok (.iinc 1 1, 3) := by decide +kernel
theorem dX7_settles_110 : decode cX7_settles 110 = .ok (.goto (-79), 3) := by decide +kernel
theorem dX7_settles_113 : decode cX7_settles 113 = .ok (.iconst 0, 1) := by decide +kernel
theorem dX7_settles_114 : decode cX7_settles 114 = .ok (.istore_n 1, 1) := by decide +kernel
theorem dX7_settles_115 : decode cX7_settles 115 = .ok (.iload_n 1, 1) := by decide +kernel
theorem dX7_settles_116 : decode cX7_settles 116 = .ok (.bipush 17, 2) := by decide +kernel
theorem dX7_settles_118 : decode cX7_settles 118 = .ok (.if_icmp .ge 16, 3) := by decide +kernel
theorem dX7_settles_121 : decode cX7_settles 121 = .ok (.aload_n 0, 1) := by decide +kernel
theorem dX7_settles_122 : decode cX7_settles 122 = .ok (.getfield 25, 3) := by decide +kernel
theorem dX7_settles_125 : decode cX7_settles 125 = .ok (.iload_n 1, 1) := by decide +kernel
theorem dX7_settles_126 : decode cX7_settles 126 = .ok (.iconst 0, 1) := by decide +kernel
theorem dX7_settles_127 : decode cX7_settles 127 = .ok (.iastore, 1) := by decide +kernel
theorem dX7_settles_128 : decode cX7_settles 128 = .ok (.iinc 1 1, 3) := by decide +kernel
theorem dX7_settles_131 : decode cX7_settles 131 = .ok (.goto (-16), 3) := by decide +kernel
theorem dX7_settles_134 : decode cX7_settles 134 = .ok (.aload_n 0, 1) := by decide +kernel
theorem dX7_settles_135 : decode cX7_settles 135 = .ok (.getfield 25, 3) := by decide +kernel
theorem dX7_settles_138 : decode cX7_settles 138 = .ok (.iconst 0, 1) := by decide +kernel
theorem dX7_settles_139 : decode cX7_settles 139 = .ok (.aload_n 0, 1) := by decide +kernel
theorem dX7_settles_140 : decode cX7_settles 140 = .ok (.getfield 13, 3) := by decide +kernel
theorem dX7_settles_143 : decode cX7_settles 143 = .ok (.iconst 2, 1) := by decide +kernel
theorem dX7_settles_144 : decode cX7_settles 144 = .ok (.iaload, 1) := by decide +kernel
theorem dX7_settles_145 : decode cX7_settles 145 = .ok (.iastore, 1) := by decide +kernel
theorem dX7_settles_146 : decode cX7_settles 146 = .ok (.aload_n 0, 1) := by decide +kernel
theorem dX7_settles_147 : decode cX7_settles 147 = .ok (.iconst 0, 1) := by decide +kernel
theorem dX7_settles_148 : decode cX7_settles 148 = .ok (.putfield 77, 3) := by decide +kernel
theorem dX7_settles_151 : decode cX7_settles 151 = .ok (.aload_n 0, 1) := by decide +kernel
theorem dX7_settles_152 : decode cX7_settles 152 = .ok (.iconst 0, 1) := by decide +kernel
theorem dX7_settles_153 : decode cX7_settles 153 = .ok (.putfield 134, 3) := by decide +kernel
theorem dX7_settles_156 : decode cX7_settles 156 = .ok (.aload_n 0, 1) := by decide +kernel
theorem dX7_settles_157 : decode cX7_settles 157 = .ok (.iconst 0, 1) := by decide +kernel
theorem dX7_settles_158 : decode cX7_settles 158 = .ok (.putfield 137, 3) := by decide +kernel
theorem dX7_settles_161 : decode cX7_settles 161 = .ok (.aload_n 0, 1) := by decide +kernel
theorem dX7_settles_162 : decode cX7_settles 162 = .ok (.iconst 0, 1) := by decide +kernel
theorem dX7_settles_163 : decode cX7_settles 163 = .ok (.putfield 140, 3) := by decide +kernel
theorem dX7_settles_166 : decode cX7_settles 166 = .ok (.aload_n 0, 1) := by decide +kernel
theorem dX7_settles_167 : decode cX7_settles 167 = .ok (.getfield 31, 3) := by decide +kernel
theorem dX7_settles_170 : decode cX7_settles 170 = .ok (.iconst 0, 1) := by decide +kernel
theorem dX7_settles_171 : decode cX7_settles 171 = .ok (.iconst 0, 1) := by decide +kernel
theorem dX7_settles_172 : decode cX7_settles 172 = .ok (.bastore, 1) := by decide +kernel
theorem dX7_settles_173 : decode cX7_settles 173 = .ok (.aload_n 0, 1) := by decide +kernel
theorem dX7_settles_174 : decode cX7_settles 174 = .ok (.getfield 31, 3) := by decide +kernel
theorem dX7_settles_177 : decode cX7_settles 177 = .ok (.iconst 1, 1) := by decide +kernel
theorem dX7_settles_178 : decode cX7_settles 178 = .ok (.iconst 0, 1) := by decide +kernel
theorem dX7_settles_179 : decode cX7_settles 179 = .ok (.bastore, 1) := by decide +kernel
theorem dX7_settles_180 : decode cX7_settles 180 = .ok (.return_, 1) := by decide +kernel
theorem dX7_isRoad_0 : decode cX7_isRoad 0 = .ok (.iload_n 1, 1) := by decide +kernel
theorem dX7_isRoad_1 : decode cX7_isRoad 1 = .ok (.iconst 0, 1) := by decide +kernel
theorem dX7_isRoad_2 : decode cX7_isRoad 2 = .ok (.aload_n 0, 1) := by decide +kernel
theorem dX7_isRoad_3 : decode cX7_isRoad 3 = .ok (.getfield 13, 3) := by decide +kernel
theorem dX7_isRoad_6 : decode cX7_isRoad 6 = .ok (.iconst 1, 1) := by decide +kernel
theorem dX7_isRoad_7 : decode cX7_isRoad 7 = .ok (.iaload, 1) := by decide +kernel
theorem dX7_isRoad_8 : decode cX7_isRoad 8 = .ok (.iconst 1, 1) := by decide +kernel
theorem dX7_isRoad_9 : decode cX7_isRoad 9 = .ok (.isub, 1) := by decide +kernel
theorem dX7_isRoad_10 : decode cX7_isRoad 10 = .ok (.invokestatic 73, 3) := by decide +kernel
theorem dX7_isRoad_13 : decode cX7_isRoad 13 = .ok (.ireturn, 1) := by decide +kernel
theorem dX7_isPlace_0 : decode cX7_isPlace 0 = .ok (.iload_n 1, 1) := by decide +kernel
theorem dX7_isPlace_1 : decode cX7_isPlace 1 = .ok (.iconst 0, 1) := by decide +kernel
theorem dX7_isPlace_2 : decode cX7_isPlace 2 = .ok (.aload_n 0, 1) := by decide +kernel
theorem dX7_isPlace_3 : decode cX7_isPlace 3 = .ok (.getfield 13, 3) := by decide +kernel
theorem dX7_isPlace_6 : decode cX7_isPlace 6 = .ok (.iconst 0, 1) := by decide +kernel
theorem dX7_isPlace_7 : decode cX7_isPlace 7 = .ok (.iaload, 1) := by decide +kernel
theorem dX7_isPlace_8 : decode cX7_isPlace 8 = .ok (.iconst 1, 1) := by decide +kernel
theorem dX7_isPlace_9 : decode cX7_isPlace 9 = .ok (.isub, 1) := by decide +kernel
theorem dX7_isPlace_10 : decode cX7_isPlace 10 = .ok (.invokestatic 73, 3) := by decide +kernel
theorem dX7_isPlace_13 : decode cX7_isPlace 13 = .ok (.ireturn, 1) := by decide +kernel
theorem dX7_openNow_0 : decode cX7_openNow 0 = .ok (.iconst 1, 1) := by decide +kernel
theorem dX7_openNow_1 : decode cX7_openNow 1 = .ok (.aload_n 0, 1) := by decide +kernel
theorem dX7_openNow_2 : decode cX7_openNow 2 = .ok (.getfield 13, 3) := by decide +kernel
theorem dX7_openNow_5 : decode cX7_openNow 5 = .ok (.iconst 1, 1) := by decide +kernel
theorem dX7_openNow_6 : decode cX7_openNow 6 = .ok (.iaload, 1) := by decide +kernel
theorem dX7_openNow_7 : decode cX7_openNow 7 = .ok (.ishl, 1) := by decide +kernel
theorem dX7_openNow_8 : decode cX7_openNow 8 = .ok (.iconst 1, 1) := by decide +kernel
theorem dX7_openNow_9 : decode cX7_openNow 9 = .ok (.isub, 1) := by decide +kernel
theorem dX7_openNow_10 : decode cX7_openNow 10 = .ok (.aload_n 0, 1) := by decide +kernel
theorem dX7_openNow_11 : decode cX7_openNow 11 = .ok (.getfield 25, 3) := by decide +kernel
theorem dX7_openNow_14 : decode cX7_openNow 14 = .ok (.iconst 4, 1) := by decide +kernel
theorem dX7_openNow_15 : decode cX7_openNow 15 = .ok (.iaload, 1) := by decide +kernel
theorem dX7_openNow_16 : decode cX7_openNow 16 = .ok (.iconst (-1), 1) := by decide +kernel
theorem dX7_openNow_17 : decode cX7_openNow 17 = .ok (.ixor, 1) := by decide +kernel
theorem dX7_openNow_18 : decode cX7_openNow 18 = .ok (.iand, 1) := by decide +kernel
theorem dX7_openNow_19 : decode cX7_openNow 19 = .ok (.ireturn, 1) := by decide +kernel
theorem dX7_isAt_0 : decode cX7_isAt 0 = .ok (.aload_n 0, 1) := by decide +kernel
theorem dX7_isAt_1 : decode cX7_isAt 1 = .ok (.getfield 16, 3) := by decide +kernel
theorem dX7_isAt_4 : decode cX7_isAt 4 = .ok (.iconst 2, 1) := by decide +kernel
theorem dX7_isAt_5 : decode cX7_isAt 5 = .ok (.iload_n 1, 1) := by decide +kernel
theorem dX7_isAt_6 : decode cX7_isAt 6 = .ok (.imul, 1) := by decide +kernel
theorem dX7_isAt_7 : decode cX7_isAt 7 = .ok (.iaload, 1) := by decide +kernel
theorem dX7_isAt_8 : decode cX7_isAt 8 = .ok (.iload_n 2, 1) := by decide +kernel
theorem dX7_isAt_9 : decode cX7_isAt 9 = .ok (.if_icmp .eq 17, 3) := by decide +kernel
theorem dX7_isAt_12 : decode cX7_isAt 12 = .ok (.aload_n 0, 1) := by decide +kernel
theorem dX7_isAt_13 : decode cX7_isAt 13 = .ok (.getfield 16, 3) := by decide +kernel
theorem dX7_isAt_16 : decode cX7_isAt 16 = .ok (.iconst 2, 1) := by decide +kernel
theorem dX7_isAt_17 : decode cX7_isAt 17 = .ok (.iload_n 1, 1) := by decide +kernel
theorem dX7_isAt_18 : decode cX7_isAt 18 = .ok (.imul, 1) := by decide +kernel
theorem dX7_isAt_19 : decode cX7_isAt 19 = .ok (.iconst 1, 1) := by decide +kernel
theorem dX7_isAt_20 : decode cX7_isAt 20 = .ok (.iadd, 1) := by decide +kernel
theorem dX7_isAt_21 : decode cX7_isAt 21 = .ok (.iaload, 1) := by decide +kernel
theorem dX7_isAt_22 : decode cX7_isAt 22 = .ok (.iload_n 2, 1) := by decide +kernel
theorem dX7_isAt_23 : decode cX7_isAt 23 = .ok (.if_icmp .ne 7, 3) := by decide +kernel
theorem dX7_isAt_26 : decode cX7_isAt 26 = .ok (.iconst 1, 1) := by decide +kernel
theorem dX7_isAt_27 : decode cX7_isAt 27 = .ok (.goto 4, 3) := by decide +kernel
theorem dX7_isAt_30 : decode cX7_isAt 30 = .ok (.iconst 0, 1) := by decide +kernel
theorem dX7_isAt_31 : decode cX7_isAt 31 = .ok (.ireturn, 1) := by decide +kernel
theorem dX7_otherEnd_0 : decode cX7_otherEnd 0 = .ok (.aload_n 0, 1) := by decide +kernel
theorem dX7_otherEnd_1 : decode cX7_otherEnd 1 = .ok (.getfield 16, 3) := by decide +kernel
theorem dX7_otherEnd_4 : decode cX7_otherEnd 4 = .ok (.iconst 2, 1) := by decide +kernel
theorem dX7_otherEnd_5 : decode cX7_otherEnd 5 = .ok (.iload_n 1, 1) := by decide +kernel
theorem dX7_otherEnd_6 : decode cX7_otherEnd 6 = .ok (.imul, 1) := by decide +kernel
theorem dX7_otherEnd_7 : decode cX7_otherEnd 7 = .ok (.iaload, 1) := by decide +kernel
theorem dX7_otherEnd_8 : decode cX7_otherEnd 8 = .ok (.iload_n 2, 1) := by decide +kernel
theorem dX7_otherEnd_9 : decode cX7_otherEnd 9 = .ok (.if_icmp .ne 16, 3) := by decide +kernel
theorem dX7_otherEnd_12 : decode cX7_otherEnd 12 = .ok (.aload_n 0, 1) := by decide +kernel
theorem dX7_otherEnd_13 : decode cX7_otherEnd 13 = .ok (.getfield 16, 3) := by decide +kernel
theorem dX7_otherEnd_16 : decode cX7_otherEnd 16 = .ok (.iconst 2, 1) := by decide +kernel
theorem dX7_otherEnd_17 : decode cX7_otherEnd 17 = .ok (.iload_n 1, 1) := by decide +kernel
theorem dX7_otherEnd_18 : decode cX7_otherEnd 18 = .ok (.imul, 1) := by decide +kernel
theorem dX7_otherEnd_19 : decode cX7_otherEnd 19 = .ok (.iconst 1, 1) := by decide +kernel
theorem dX7_otherEnd_20 : decode cX7_otherEnd 20 = .ok (.iadd, 1) := by decide +kernel
theorem dX7_otherEnd_21 : decode cX7_otherEnd 21 = .ok (.iaload, 1) := by decide +kernel
theorem dX7_otherEnd_22 : decode cX7_otherEnd 22 = .ok (.goto 11, 3) := by decide +kernel
theorem dX7_otherEnd_25 : decode cX7_otherEnd 25 = .ok (.aload_n 0, 1) := by decide +kernel
theorem dX7_otherEnd_26 : decode cX7_otherEnd 26 = .ok (.getfield 16, 3) := by decide +kernel
theorem dX7_otherEnd_29 : decode cX7_otherEnd 29 = .ok (.iconst 2, 1) := by decide +kernel
theorem dX7_otherEnd_30 : decode cX7_otherEnd 30 = .ok (.iload_n 1, 1) := by decide +kernel
theorem dX7_otherEnd_31 : decode cX7_otherEnd 31 = .ok (.imul, 1) := by decide +kernel
theorem dX7_otherEnd_32 : decode cX7_otherEnd 32 = .ok (.iaload, 1) := by decide +kernel
theorem dX7_otherEnd_33 : decode cX7_otherEnd 33 = .ok (.ireturn, 1) := by decide +kernel
theorem dX7_road_0 : decode cX7_road 0 = .ok (.aload_n 0, 1) := by decide +kernel
theorem dX7_road_1 : decode cX7_road 1 = .ok (.iconst 0, 1) := by decide +kernel
theorem dX7_road_2 : decode cX7_road 2 = .ok (.putfield 69, 3) := by decide +kernel
theorem dX7_road_5 : decode cX7_road 5 = .ok (.aload_n 0, 1) := by decide +kernel
theorem dX7_road_6 : decode cX7_road 6 = .ok (.iload_n 1, 1) := by decide +kernel
theorem dX7_road_7 : decode cX7_road 7 = .ok (.invokevirtual 143, 3) := by decide +kernel
theorem dX7_road_10 : decode cX7_road 10 = .ok (.ifCond .eq 12, 3) := by decide +kernel
theorem dX7_road_13 : decode cX7_road 13 = .ok (.iload_n 2, 1) := by decide +kernel
theorem dX7_road_14 : decode cX7_road 14 = .ok (.iconst 0, 1) := by decide +kernel
theorem dX7_road_15 : decode cX7_road 15 = .ok (.iconst 5, 1) := by decide +kernel
theorem dX7_road_16 : decode cX7_road 16 = .ok (.invokestatic 73, 3) := by decide +kernel
theorem dX7_road_19 : decode cX7_road 19 = .ok (.ifCond .ne 5, 3) := by decide +kernel
theorem dX7_road_22 : decode cX7_road 22 = .ok (.iconst (-1), 1) := by decide +kernel
theorem dX7_road_23 : decode cX7_road 23 = .ok (.ireturn, 1) := by decide +kernel
theorem dX7_road_24 : decode cX7_road 24 = .ok (.iload_n 2, 1) := by decide +kernel
theorem dX7_road_25 : decode cX7_road 25 = .ok (.iconst 2, 1) := by decide +kernel
theorem dX7_road_26 : decode cX7_road 26 = .ok (.if_icmp .ge 14, 3) := by decide +kernel
theorem dX7_road_29 : decode cX7_road 29 = .ok (.aload_n 0, 1) := by decide +kernel
theorem dX7_road_30 : decode cX7_road 30 = .ok (.getfield 16, 3) := by decide +kernel
theorem dX7_road_33 : decode cX7_road 33 = .ok (.iconst 2, 1) := by decide +kernel
theorem dX7_road_34 : decode cX7_road 34 = .ok (.iload_n 1, 1) := by decide +kernel
theorem dX7_road_35 : decode cX7_road 35 = .ok (.imul, 1) := by decide +kernel
theorem dX7_road_36 : decode cX7_road 36 = .ok (.iload_n 2, 1) := by decide +kernel
theorem dX7_road_37 : decode cX7_road 37 = .ok (.iadd, 1) := by decide +kernel
theorem dX7_road_38 : decode cX7_road 38 = .ok (.iaload, 1) := by decide +kernel
theorem dX7_road_39 : decode cX7_road 39 = .ok (.ireturn, 1) := by decide +kernel
theorem dX7_road_40 : decode cX7_road 40 = .ok (.iload_n 2, 1) := by decide +kernel
theorem dX7_road_41 : decode cX7_road 41 = .ok (.iconst 2, 1) := by decide +kernel
theorem dX7_road_42 : decode cX7_road 42 = .ok (.if_icmp .ne 21, 3) := by decide +kernel
theorem dX7_road_45 : decode cX7_road 45 = .ok (.aload_n 0, 1) := by decide +kernel
theorem dX7_road_46 : decode cX7_road 46 = .ok (.getfield 19, 3) := by decide +kernel
theorem dX7_road_49 : decode cX7_road 49 = .ok (.iload_n 1, 1) := by decide +kernel
theorem dX7_road_50 : decode cX7_road 50 = .ok (.iaload, 1) := by decide +kernel
theorem dX7_road_51 : decode cX7_road 51 = .ok (.aload_n 0, 1) := by decide +kernel
theorem dX7_road_52 : decode cX7_road 52 = .ok (.getfield 25, 3) := by decide +kernel
theorem dX7_road_55 : decode cX7_road 55 = .ok (.iconst 5, 1) := by decide +kernel
theorem dX7_road_56 : decode cX7_road 56 = .ok (.iload_n 1, 1) := by decide +kernel
theorem dX7_road_57 : decode cX7_road 57 = .ok (.iadd, 1) := by decide +kernel
theorem dX7_road_58 : decode cX7_road 58 = .ok (.iaload, 1) := by decide +kernel
theorem dX7_road_59 : decode cX7_road 59 = .ok (.iadd, 1) := by decide +kernel
theorem dX7_road_60 : decode cX7_road 60 = .ok (.goto 43, 3) := by decide +kernel
theorem dX7_road_63 : decode cX7_road 63 = .ok (.iload_n 2, 1) := by decide +kernel
theorem dX7_road_64 : decode cX7_road 64 = .ok (.iconst 3, 1) := by decide +kernel
theorem dX7_road_65 : decode cX7_road 65 = .ok (.if_icmp .ne 14, 3) := by decide +kernel
theorem dX7_road_68 : decode cX7_road 68 = .ok (.aload_n 0, 1) := by decide +kernel
theorem dX7_road_69 : decode cX7_road 69 = .ok (.getfield 25, 3) := by decide +kernel
theorem dX7_road_72 : decode cX7_road 72 = .ok (.iconst 5, 1) := by decide +kernel
theorem dX7_road_73 : decode cX7_road 73 = .ok (.iload_n 1, 1) := by decide +kernel
theorem dX7_road_74 : decode cX7_road 74 = .ok (.iadd, 1) := by decide +kernel
theorem dX7_road_75 : decode cX7_road 75 = .ok (.iaload, 1) := by decide +kernel
theorem dX7_road_76 : decode cX7_road 76 = .ok (.goto 27, 3) := by decide +kernel
theorem dX7_road_79 : decode cX7_road 79 = .ok (.iload_n 2, 1) := by decide +kernel
theorem dX7_road_80 : decode cX7_road 80 = .ok (.iconst 4, 1) := by decide +kernel
theorem dX7_road_81 : decode cX7_road 81 = .ok (.if_icmp .ne 16, 3) := by decide +kernel
theorem dX7_road_84 : decode cX7_road 84 = .ok (.aload_n 0, 1) := by decide +kernel
theorem dX7_road_85 : decode cX7_road 85 = .ok (.getfield 25, 3) := by decide +kernel
theorem dX7_road_88 : decode cX7_road 88 = .ok (.iconst 4, 1) := by decide +kernel
theorem dX7_road_89 : decode cX7_road 89 = .ok (.iaload, 1) := by decide +kernel
theorem dX7_road_90 : decode cX7_road 90 = .ok (.iload_n 1, 1) := by decide +kernel
theorem dX7_road_91 : decode cX7_road 91 = .ok (.ishr, 1) := by decide +kernel
theorem dX7_road_92 : decode cX7_road 92 = .ok (.iconst 1, 1) := by decide +kernel
theorem dX7_road_93 : decode cX7_road 93 = .ok (.iand, 1) := by decide +kernel
theorem dX7_road_94 : decode cX7_road 94 = .ok (.goto 9, 3) := by decide +kernel
theorem dX7_road_97 : decode cX7_road 97 = .ok (.aload_n 0, 1) := by decide +kernel
theorem dX7_road_98 : decode cX7_road 98 = .ok (.getfield 22, 3) := by decide +kernel
theorem dX7_road_101 : decode cX7_road 101 = .ok (.iload_n 1, 1) := by decide +kernel
theorem dX7_road_102 : decode cX7_road 102 = .ok (.iaload, 1) := by decide +kernel
theorem dX7_road_103 : decode cX7_road 103 = .ok (.ireturn, 1) := by decide +kernel
theorem dX7_roadsAt_0 : decode cX7_roadsAt 0 = .ok (.iconst 0, 1) := by decide +kernel
theorem dX7_roadsAt_1 : decode cX7_roadsAt 1 = .ok (.istore_n 3, 1) := by decide +kernel
theorem dX7_roadsAt_2 : decode cX7_roadsAt 2 = .ok (.iconst 0, 1) := by decide +kernel
theorem dX7_roadsAt_3 : decode cX7_roadsAt 3 = .ok (.istore 4, 2) := by decide +kernel
theorem dX7_roadsAt_5 : decode cX7_roadsAt 5 = .ok (.iload 4, 2) := by decide +kernel
theorem dX7_roadsAt_7 : decode cX7_roadsAt 7 = .ok (.aload_n 0, 1) := by decide +kernel
theorem dX7_roadsAt_8 : decode cX7_roadsAt 8 = .ok (.getfield 13, 3) := by decide +kernel
theorem dX7_roadsAt_11 : decode cX7_roadsAt 11 = .ok (.iconst 1, 1) := by decide +kernel
theorem dX7_roadsAt_12 : decode cX7_roadsAt 12 = .ok (.iaload, 1) := by decide +kernel
theorem dX7_roadsAt_13 : decode cX7_roadsAt 13 = .ok (.if_icmp .ge 40, 3) := by decide +kernel
theorem dX7_roadsAt_16 : decode cX7_roadsAt 16 = .ok (.iload_n 3, 1) := by decide +kernel
theorem dX7_roadsAt_17 : decode cX7_roadsAt 17 = .ok (.iload_n 1, 1) := by decide +kernel
theorem dX7_roadsAt_18 : decode cX7_roadsAt 18 = .ok (.iload 4, 2) := by decide +kernel
theorem dX7_roadsAt_20 : decode cX7_roadsAt 20 = .ok (.ishr, 1) := by decide +kernel
theorem dX7_roadsAt_21 : decode cX7_roadsAt 21 = .ok (.iconst 1, 1) := by decide +kernel
theorem dX7_roadsAt_22 : decode cX7_roadsAt 22 = .ok (.iand, 1) := by decide +kernel
theorem dX7_roadsAt_23 : decode cX7_roadsAt 23 = .ok (.iconst 1, 1) := by decide +kernel
theorem dX7_roadsAt_24 : decode cX7_roadsAt 24 = .ok (.if_icmp .ne 20, 3) := by decide +kernel
theorem dX7_roadsAt_27 : decode cX7_roadsAt 27 = .ok (.aload_n 0, 1) := by decide +kernel
theorem dX7_roadsAt_28 : decode cX7_roadsAt 28 = .ok (.iload 4, 2) := by decide +kernel
theorem dX7_roadsAt_30 : decode cX7_roadsAt 30 = .ok (.iload_n 2, 1) := by decide +kernel
theorem dX7_roadsAt_31 : decode cX7_roadsAt 31 = .ok (.invokevirtual 146, 3) := by decide +kernel
theorem dX7_roadsAt_34 : decode cX7_roadsAt 34 = .ok (.ifCond .eq 10, 3) := by decide +kernel
theorem dX7_roadsAt_37 : decode cX7_roadsAt 37 = .ok (.iconst 1, 1) := by decide +kernel
theorem dX7_roadsAt_38 : decode cX7_roadsAt 38 = .ok (.iload 4, 2) := by decide +kernel
theorem dX7_roadsAt_40 : decode cX7_roadsAt 40 = .ok (.ishl, 1) := by decide +kernel
theorem dX7_roadsAt_41 : decode cX7_roadsAt 41 = .ok (.goto 4, 3) := by decide +kernel
theorem dX7_roadsAt_44 : decode cX7_roadsAt 44 = .ok (.iconst 0, 1) := by decide +kernel
theorem dX7_roadsAt_45 : decode cX7_roadsAt 45 = .ok (.ior, 1) := by decide +kernel
theorem dX7_roadsAt_46 : decode cX7_roadsAt 46 = .ok (.istore_n 3, 1) := by decide +kernel
theorem dX7_roadsAt_47 : decode cX7_roadsAt 47 = .ok (.iinc 4 1, 3) := by decide +kernel
theorem dX7_roadsAt_50 : decode cX7_roadsAt 50 = .ok (.goto (-45), 3) := by decide +kernel
theorem dX7_roadsAt_53 : decode cX7_roadsAt 53 = .ok (.iload_n 3, 1) := by decide +kernel
