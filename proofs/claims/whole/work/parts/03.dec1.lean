theorem dX0_init_0 : decode cX0_init 0 = .ok (.aload_n 0, 1) := by decide +kernel
theorem dX0_init_1 : decode cX0_init 1 = .ok (.invokespecial 3, 3) := by decide +kernel
theorem dX0_init_4 : decode cX0_init 4 = .ok (.aload_n 0, 1) := by decide +kernel
theorem dX0_init_5 : decode cX0_init 5 = .ok (.lconst 1, 1) := by decide +kernel
theorem dX0_init_6 : decode cX0_init 6 = .ok (.putfield 9, 3) := by decide +kernel
theorem dX0_init_9 : decode cX0_init 9 = .ok (.aload_n 0, 1) := by decide +kernel
theorem dX0_init_10 : decode cX0_init 10 = .ok (.bipush 8, 2) := by decide +kernel
theorem dX0_init_12 : decode cX0_init 12 = .ok (.newarray .long, 2) := by decide +kernel
theorem dX0_init_14 : decode cX0_init 14 = .ok (.putfield 15, 3) := by decide +kernel
theorem dX0_init_17 : decode cX0_init 17 = .ok (.aload_n 0, 1) := by decide +kernel
theorem dX0_init_18 : decode cX0_init 18 = .ok (.bipush 8, 2) := by decide +kernel
theorem dX0_init_20 : decode cX0_init 20 = .ok (.newarray .long, 2) := by decide +kernel
theorem dX0_init_22 : decode cX0_init 22 = .ok (.putfield 19, 3) := by decide +kernel
theorem dX0_init_25 : decode cX0_init 25 = .ok (.aload_n 0, 1) := by decide +kernel
theorem dX0_init_26 : decode cX0_init 26 = .ok (.bipush 8, 2) := by decide +kernel
theorem dX0_init_28 : decode cX0_init 28 = .ok (.newarray .int, 2) := by decide +kernel
theorem dX0_init_30 : decode cX0_init 30 = .ok (.putfield 22, 3) := by decide +kernel
theorem dX0_init_33 : decode cX0_init 33 = .ok (.return_, 1) := by decide +kernel
theorem dX0_drive_0 : decode cX0_drive 0 = .ok (.iconst 0, 1) := by decide +kernel
theorem dX0_drive_1 : decode cX0_drive 1 = .ok (.istore 5, 2) := by decide +kernel
theorem dX0_drive_3 : decode cX0_drive 3 = .ok (.iload 5, 2) := by decide +kernel
theorem dX0_drive_5 : decode cX0_drive 5 = .ok (.bipush 8, 2) := by decide +kernel
theorem dX0_drive_7 : decode cX0_drive 7 = .ok (.if_icmp .ge 55, 3) := by decide +kernel
theorem dX0_drive_10 : decode cX0_drive 10 = .ok (.aload_n 0, 1) := by decide +kernel
theorem dX0_drive_11 : decode cX0_drive 11 = .ok (.getfield 22, 3) := by decide +kernel
theorem dX0_drive_14 : decode cX0_drive 14 = .ok (.iload 5, 2) := by decide +kernel
theorem dX0_drive_16 : decode cX0_drive 16 = .ok (.iload 5, 2) := by decide +kernel
theorem dX0_drive_18 : decode cX0_drive 18 = .ok (.aload_n 1, 1) := by decide +kernel
theorem dX0_drive_19 : decode cX0_drive 19 = .ok (.getfield 26, 3) := by decide +kernel
theorem dX0_drive_22 : decode cX0_drive 22 = .ok (.if_icmp .ge 14, 3) := by decide +kernel
theorem dX0_drive_25 : decode cX0_drive 25 = .ok (.aload_n 1, 1) := by decide +kernel
theorem dX0_drive_26 : decode cX0_drive 26 = .ok (.iload 5, 2) := by decide +kernel
theorem dX0_drive_28 : decode cX0_drive 28 = .ok (.invokevirtual 32, 3) := by decide +kernel
theorem dX0_drive_31 : decode cX0_drive 31 = .ok (.iload_n 2, 1) := by decide +kernel
theorem dX0_drive_32 : decode cX0_drive 32 = .ok (.iand, 1) := by decide +kernel
theorem dX0_drive_33 : decode cX0_drive 33 = .ok (.goto 4, 3) := by decide +kernel
theorem dX0_drive_36 : decode cX0_drive 36 = .ok (.iconst 0, 1) := by decide +kernel
theorem dX0_drive_37 : decode cX0_drive 37 = .ok (.iastore, 1) := by decide +kernel
theorem dX0_drive_38 : decode cX0_drive 38 = .ok (.aload_n 0, 1) := by decide +kernel
theorem dX0_drive_39 : decode cX0_drive 39 = .ok (.getfield 15, 3) := by decide +kernel
theorem dX0_drive_42 : decode cX0_drive 42 = .ok (.iload 5, 2) := by decide +kernel
theorem dX0_drive_44 : decode cX0_drive 44 = .ok (.iload 5, 2) := by decide +kernel
theorem dX0_drive_46 : decode cX0_drive 46 = .ok (.iload_n 3, 1) := by decide +kernel
theorem dX0_drive_47 : decode cX0_drive 47 = .ok (.if_icmp .ne 7, 3) := by decide +kernel
theorem dX0_drive_50 : decode cX0_drive 50 = .ok (.lconst 1, 1) := by decide +kernel
theorem dX0_drive_51 : decode cX0_drive 51 = .ok (.goto 4, 3) := by decide +kernel
theorem dX0_drive_54 : decode cX0_drive 54 = .ok (.lconst 0, 1) := by decide +kernel
theorem dX0_drive_55 : decode cX0_drive 55 = .ok (.lastore, 1) := by decide +kernel
theorem dX0_drive_56 : decode cX0_drive 56 = .ok (.iinc 5 1, 3) := by decide +kernel
theorem dX0_drive_59 : decode cX0_drive 59 = .ok (.goto (-56), 3) := by decide +kernel
theorem dX0_drive_62 : decode cX0_drive 62 = .ok (.aload_n 0, 1) := by decide +kernel
theorem dX0_drive_63 : decode cX0_drive 63 = .ok (.invokevirtual 35, 3) := by decide +kernel
theorem dX0_drive_66 : decode cX0_drive 66 = .ok (.lstore 5, 2) := by decide +kernel
theorem dX0_drive_68 : decode cX0_drive 68 = .ok (.aload_n 0, 1) := by decide +kernel
theorem dX0_drive_69 : decode cX0_drive 69 = .ok (.lconst 1, 1) := by decide +kernel
theorem dX0_drive_70 : decode cX0_drive 70 = .ok (.putfield 9, 3) := by decide +kernel
theorem dX0_drive_73 : decode cX0_drive 73 = .ok (.iconst 0, 1) := by decide +kernel
theorem dX0_drive_74 : decode cX0_drive 74 = .ok (.istore 7, 2) := by decide +kernel
theorem dX0_drive_76 : decode cX0_drive 76 = .ok (.iload 7, 2) := by decide +kernel
theorem dX0_drive_78 : decode cX0_drive 78 = .ok (.iload 4, 2) := by decide +kernel
theorem dX0_drive_80 : decode cX0_drive 80 = .ok (.if_icmp .ge 27, 3) := by decide +kernel
theorem dX0_drive_83 : decode cX0_drive 83 = .ok (.aload_n 0, 1) := by decide +kernel
theorem dX0_drive_84 : decode cX0_drive 84 = .ok (.aload_n 1, 1) := by decide +kernel
theorem dX0_drive_85 : decode cX0_drive 85 = .ok (.lload 5, 2) := by decide +kernel
theorem dX0_drive_87 : decode cX0_drive 87 = .ok (.invokevirtual 39, 3) := by decide +kernel
theorem dX0_drive_90 : decode cX0_drive 90 = .ok (.aload_n 0, 1) := by decide +kernel
theorem dX0_drive_91 : decode cX0_drive 91 = .ok (.dup, 1) := by decide +kernel
theorem dX0_drive_92 : decode cX0_drive 92 = .ok (.getfield 9, 3) := by decide +kernel
theorem dX0_drive_95 : decode cX0_drive 95 = .ok (.lload 5, 2) := by decide +kernel
theorem dX0_drive_97 : decode cX0_drive 97 = .ok (.lmul, 1) := by decide +kernel
theorem dX0_drive_98 : decode cX0_drive 98 = .ok (.putfield 9, 3) := by decide +kernel
theorem dX0_drive_101 : decode cX0_drive 101 = .ok (.iinc 7 1, 3) := by decide +kernel
theorem dX0_drive_104 : decode cX0_drive 104 = .ok (.goto (-28), 3) := by decide +kernel
theorem dX0_drive_107 : decode cX0_drive 107 = .ok (.return_, 1) := by decide +kernel
theorem dX0_commonUnit_0 : decode cX0_commonUnit 0 = .ok (.lconst 1, 1) := by decide +kernel
theorem dX0_commonUnit_1 : decode cX0_commonUnit 1 = .ok (.lstore_n 1, 1) := by decide +kernel
theorem dX0_commonUnit_2 : decode cX0_commonUnit 2 = .ok (.iconst 0, 1) := by decide +kernel
theorem dX0_commonUnit_3 : decode cX0_commonUnit 3 = .ok (.istore_n 3, 1) := by decide +kernel
theorem dX0_commonUnit_4 : decode cX0_commonUnit 4 = .ok (.iload_n 3, 1) := by decide +kernel
theorem dX0_commonUnit_5 : decode cX0_commonUnit 5 = .ok (.bipush 8, 2) := by decide +kernel
theorem dX0_commonUnit_7 : decode cX0_commonUnit 7 = .ok (.if_icmp .ge 50, 3) := by decide +kernel
theorem dX0_commonUnit_10 : decode cX0_commonUnit 10 = .ok (.aload_n 0, 1) := by decide +kernel
theorem dX0_commonUnit_11 : decode cX0_commonUnit 11 = .ok (.getfield 22, 3) := by decide +kernel
theorem dX0_commonUnit_14 : decode cX0_commonUnit 14 = .ok (.iload_n 3, 1) := by decide +kernel
theorem dX0_commonUnit_15 : decode cX0_commonUnit 15 = .ok (.iaload, 1) := by decide +kernel
theorem dX0_commonUnit_16 : decode cX0_commonUnit 16 = .ok (.invokestatic 43, 3) := by decide +kernel
theorem dX0_commonUnit_19 : decode cX0_commonUnit 19 = .ok (.istore 4, 2) := by decide +kernel
theorem dX0_commonUnit_21 : decode cX0_commonUnit 21 = .ok (.iload 4, 2) := by decide +kernel
theorem dX0_commonUnit_23 : decode cX0_commonUnit 23 = .ok (.ifCond .le 28, 3) := by decide +kernel
theorem dX0_commonUnit_26 : decode cX0_commonUnit 26 = .ok (.lload_n 1, 1) := by decide +kernel
theorem dX0_commonUnit_27 : decode cX0_commonUnit 27 = .ok (.iload 4, 2) := by decide +kernel
theorem dX0_commonUnit_29 : decode cX0_commonUnit 29 = .ok (.i2l, 1) := by decide +kernel
theorem dX0_commonUnit_30 : decode cX0_commonUnit 30 = .ok (.invokestatic 48, 3) := by decide +kernel
theorem dX0_commonUnit_33 : decode cX0_commonUnit 33 = .ok (.lstore 5, 2) := by decide +kernel
theorem dX0_commonUnit_35 : decode cX0_commonUnit 35 = .ok (.lload 5, 2) := by decide +kernel
theorem dX0_commonUnit_37 : decode cX0_commonUnit 37 = .ok (.lconst 0, 1) := by decide +kernel
theorem dX0_commonUnit_38 : decode cX0_commonUnit 38 = .ok (.lcmp, 1) := by decide +kernel
theorem dX0_commonUnit_39 : decode cX0_commonUnit 39 = .ok (.ifCond .le 12, 3) := by decide +kernel
theorem dX0_commonUnit_42 : decode cX0_commonUnit 42 = .ok (.lload_n 1, 1) := by decide +kernel
theorem dX0_commonUnit_43 : decode cX0_commonUnit 43 = .ok (.lload 5, 2) := by decide +kernel
theorem dX0_commonUnit_45 : decode cX0_commonUnit 45 = .ok (.ldiv, 1) := by decide +kernel
theorem dX0_commonUnit_46 : decode cX0_commonUnit 46 = .ok (.iload 4, 2) := by decide +kernel
theorem dX0_commonUnit_48 : decode cX0_commonUnit 48 = .ok (.i2l, 1) := by decide +kernel
theorem dX0_commonUnit_49 : decode cX0_commonUnit 49 = .ok (.lmul, 1) := by decide +kernel
theorem dX0_commonUnit_50 : decode cX0_commonUnit 50 = .ok (.lstore_n 1, 1) := by decide +kernel
theorem dX0_commonUnit_51 : decode cX0_commonUnit 51 = .ok (.iinc 3 1, 3) := by decide +kernel
theorem dX0_commonUnit_54 : decode cX0_commonUnit 54 = .ok (.goto (-50), 3) := by decide +kernel
theorem dX0_commonUnit_57 : decode cX0_commonUnit 57 = .ok (.lload_n 1, 1) := by decide +kernel
theorem dX0_commonUnit_58 : decode cX0_commonUnit 58 = .ok (.lreturn, 1) := by decide +kernel
theorem dX0_takeAnyRoad_0 : decode cX0_takeAnyRoad 0 = .ok (.iconst 0, 1) := by decide +kernel
theorem dX0_takeAnyRoad_1 : decode cX0_takeAnyRoad 1 = .ok (.istore 4, 2) := by decide +kernel
theorem dX0_takeAnyRoad_3 : decode cX0_takeAnyRoad 3 = .ok (.iload 4, 2) := by decide +kernel
theorem dX0_takeAnyRoad_5 : decode cX0_takeAnyRoad 5 = .ok (.bipush 8, 2) := by decide +kernel
theorem dX0_takeAnyRoad_7 : decode cX0_takeAnyRoad 7 = .ok (.if_icmp .ge 17, 3) := by decide +kernel
theorem dX0_takeAnyRoad_10 : decode cX0_takeAnyRoad 10 = .ok (.aload_n 0, 1) := by decide +kernel
theorem dX0_takeAnyRoad_11 : decode cX0_takeAnyRoad 11 = .ok (.getfield 19, 3) := by decide +kernel
theorem dX0_takeAnyRoad_14 : decode cX0_takeAnyRoad 14 = .ok (.iload 4, 2) := by decide +kernel
theorem dX0_takeAnyRoad_16 : decode cX0_takeAnyRoad 16 = .ok (.lconst 0, 1) := by decide +kernel
theorem dX0_takeAnyRoad_17 : decode cX0_takeAnyRoad 17 = .ok (.lastore, 1) := by decide +kernel
theorem dX0_takeAnyRoad_18 : decode cX0_takeAnyRoad 18 = .ok (.iinc 4 1, 3) := by decide +kernel
theorem dX0_takeAnyRoad_21 : decode cX0_takeAnyRoad 21 = .ok (.goto (-18), 3) := by decide +kernel
theorem dX0_takeAnyRoad_24 : decode cX0_takeAnyRoad 24 = .ok (.iconst 0, 1) := by decide +kernel
theorem dX0_takeAnyRoad_25 : decode cX0_takeAnyRoad 25 = .ok (.istore 4, 2) := by decide +kernel
theorem dX0_takeAnyRoad_27 : decode cX0_takeAnyRoad 27 = .ok (.iload 4, 2) := by decide +kernel
theorem dX0_takeAnyRoad_29 : decode cX0_takeAnyRoad 29 = .ok (.bipush 8, 2) := by decide +kernel
theorem dX0_takeAnyRoad_31 : decode cX0_takeAnyRoad 31 = .ok (.if_icmp .ge 68, 3) := by decide +kernel
theorem dX0_takeAnyRoad_34 : decode cX0_takeAnyRoad 34 = .ok (.aload_n 0, 1) := by decide +kernel
theorem dX0_takeAnyRoad_35 : decode cX0_takeAnyRoad 35 = .ok (.getfield 22, 3) := by decide +kernel
theorem dX0_takeAnyRoad_38 : decode cX0_takeAnyRoad 38 = .ok (.iload 4, 2) := by decide +kernel
theorem dX0_takeAnyRoad_40 : decode cX0_takeAnyRoad 40 = .ok (.iaload, 1) := by decide +kernel
theorem dX0_takeAnyRoad_41 : decode cX0_takeAnyRoad 41 = .ok (.invokestatic 43, 3) := by decide +kernel
theorem dX0_takeAnyRoad_44 : decode cX0_takeAnyRoad 44 = .ok (.istore 5, 2) := by decide +kernel
theorem dX0_takeAnyRoad_46 : decode cX0_takeAnyRoad 46 = .ok (.iload 5, 2) := by decide +kernel
theorem dX0_takeAnyRoad_48 : decode cX0_takeAnyRoad 48 = .ok (.ifCond .ne 25, 3) := by decide +kernel
theorem dX0_takeAnyRoad_51 : decode cX0_takeAnyRoad 51 = .ok (.aload_n 0, 1) := by decide +kernel
theorem dX0_takeAnyRoad_52 : decode cX0_takeAnyRoad 52 = .ok (.getfield 19, 3) := by decide +kernel
theorem dX0_takeAnyRoad_55 : decode cX0_takeAnyRoad 55 = .ok (.iload 4, 2) := by decide +kernel
theorem dX0_takeAnyRoad_57 : decode cX0_takeAnyRoad 57 = .ok (.dup2, 1) := by decide +kernel
theorem dX0_takeAnyRoad_58 : decode cX0_takeAnyRoad 58 = .ok (.laload, 1) := by decide +kernel
theorem dX0_takeAnyRoad_59 : decode cX0_takeAnyRoad 59 = .ok (.aload_n 0, 1) := by decide +kernel
theorem dX0_takeAnyRoad_60 : decode cX0_takeAnyRoad 60 = .ok (.getfield 15, 3) := by decide +kernel
theorem dX0_takeAnyRoad_63 : decode cX0_takeAnyRoad 63 = .ok (.iload 4, 2) := by decide +kernel
theorem dX0_takeAnyRoad_65 : decode cX0_takeAnyRoad 65 = .ok (.laload, 1) := by decide +kernel
theorem dX0_takeAnyRoad_66 : decode cX0_takeAnyRoad 66 = .ok (.lload_n 2, 1) := by decide +kernel
theorem dX0_takeAnyRoad_67 : decode cX0_takeAnyRoad 67 = .ok (.lmul, 1) := by decide +kernel
theorem dX0_takeAnyRoad_68 : decode cX0_takeAnyRoad 68 = .ok (.ladd, 1) := by decide +kernel
theorem dX0_takeAnyRoad_69 : decode cX0_takeAnyRoad 69 = .ok (.lastore, 1) := by decide +kernel
theorem dX0_takeAnyRoad_70 : decode cX0_takeAnyRoad 70 = .ok (.goto 23, 3) := by decide +kernel
theorem dX0_takeAnyRoad_73 : decode cX0_takeAnyRoad 73 = .ok (.aload_n 0, 1) := by decide +kernel
theorem dX0_takeAnyRoad_74 : decode cX0_takeAnyRoad 74 = .ok (.aload_n 1, 1) := by decide +kernel
theorem dX0_takeAnyRoad_75 : decode cX0_takeAnyRoad 75 = .ok (.iload 4, 2) := by decide +kernel
theorem dX0_takeAnyRoad_77 : decode cX0_takeAnyRoad 77 = .ok (.aload_n 0, 1) := by decide +kernel
theorem dX0_takeAnyRoad_78 : decode cX0_takeAnyRoad 78 = .ok (.getfield 15, 3) := by decide +kernel
theorem dX0_takeAnyRoad_81 : decode cX0_takeAnyRoad 81 = .ok (.iload 4, 2) := by decide +kernel
theorem dX0_takeAnyRoad_83 : decode cX0_takeAnyRoad 83 = .ok (.laload, 1) := by decide +kernel
theorem dX0_takeAnyRoad_84 : decode cX0_takeAnyRoad 84 = .ok (.lload_n 2, 1) := by decide +kernel
theorem dX0_takeAnyRoad_85 : decode cX0_takeAnyRoad 85 = .ok (.iload 5, 2) := by decide +kernel
theorem dX0_takeAnyRoad_87 : decode cX0_takeAnyRoad 87 = .ok (.i2l, 1) := by decide +kernel
theorem dX0_takeAnyRoad_88 : decode cX0_takeAnyRoad 88 = .ok (.ldiv, 1) := by decide +kernel
theorem dX0_takeAnyRoad_89 : decode cX0_takeAnyRoad 89 = .ok (.lmul, 1) := by decide +kernel
theorem dX0_takeAnyRoad_90 : decode cX0_takeAnyRoad 90 = .ok (.invokevirtual 52, 3) := by decide +kernel
theorem dX0_takeAnyRoad_93 : decode cX0_takeAnyRoad 93 = .ok (.iinc 4 1, 3) := by decide +kernel
theorem dX0_takeAnyRoad_96 : decode cX0_takeAnyRoad 96 = .ok (.goto (-69), 3) := by decide +kernel
theorem dX0_takeAnyRoad_99 : decode cX0_takeAnyRoad 99 = .ok (.aload_n 0, 1) := by decide +kernel
theorem dX0_takeAnyRoad_100 : decode cX0_takeAnyRoad 100 = .ok (.getfield 19, 3) := by decide +kernel
theorem dX0_takeAnyRoad_103 : decode cX0_takeAnyRoad 103 = .ok (.iconst 0, 1) := by decide +kernel
theorem dX0_takeAnyRoad_104 : decode cX0_takeAnyRoad 104 = .ok (.aload_n 0, 1) := by decide +kernel
theorem dX0_takeAnyRoad_105 : decode cX0_takeAnyRoad 105 = .ok (.getfield 15, 3) := by decide +kernel
theorem dX0_takeAnyRoad_108 : decode cX0_takeAnyRoad 108 = .ok (.iconst 0, 1) := by decide +kernel
theorem dX0_takeAnyRoad_109 : decode cX0_takeAnyRoad 109 = .ok (.bipush 8, 2) := by decide +kernel
theorem dX0_takeAnyRoad_111 : decode cX0_takeAnyRoad 111 = .ok (.invokestatic 56, 3) := by decide +kernel
theorem dX0_takeAnyRoad_114 : decode cX0_takeAnyRoad 114 = .ok (.return_, 1) := by decide +kernel
theorem dX0_spread_0 : decode cX0_spread 0 = .ok (.iconst 0, 1) := by decide +kernel
theorem dX0_spread_1 : decode cX0_spread 1 = .ok (.istore 5, 2) := by decide +kernel
theorem dX0_spread_3 : decode cX0_spread 3 = .ok (.iload 5, 2) := by decide +kernel
theorem dX0_spread_5 : decode cX0_spread 5 = .ok (.aload_n 1, 1) := by decide +kernel
theorem dX0_spread_6 : decode cX0_spread 6 = .ok (.getfield 62, 3) := by decide +kernel
theorem dX0_spread_9 : decode cX0_spread 9 = .ok (.if_icmp .ge 39, 3) := by decide +kernel
theorem dX0_spread_12 : decode cX0_spread 12 = .ok (.aload_n 0, 1) := by decide +kernel
theorem dX0_spread_13 : decode cX0_spread 13 = .ok (.getfield 22, 3) := by decide +kernel
theorem dX0_spread_16 : decode cX0_spread 16 = .ok (.iload_n 2, 1) := by decide +kernel
theorem dX0_spread_17 : decode cX0_spread 17 = .ok (.iaload, 1) := by decide +kernel
theorem dX0_spread_18 : decode cX0_spread 18 = .ok (.iload 5, 2) := by decide +kernel
theorem dX0_spread_20 : decode cX0_spread 20 = .ok (.invokestatic 65, 3) := by decide +kernel
theorem dX0_spread_23 : decode cX0_spread 23 = .ok (.ifCond .eq 19, 3) := by decide +kernel
theorem dX0_spread_26 : decode cX0_spread 26 = .ok (.aload_n 0, 1) := by decide +kernel
theorem dX0_spread_27 : decode cX0_spread 27 = .ok (.getfield 19, 3) := by decide +kernel
theorem dX0_spread_30 : decode cX0_spread 30 = .ok (.aload_n 1, 1) := by decide +kernel
theorem dX0_spread_31 : decode cX0_spread 31 = .ok (.iload 5, 2) := by decide +kernel
theorem dX0_spread_33 : decode cX0_spread 33 = .ok (.iload_n 2, 1) := by decide +kernel
theorem dX0_spread_34 : decode cX0_spread 34 = .ok (.invokevirtual 69, 3) := by decide +kernel
theorem dX0_spread_37 : decode cX0_spread 37 = .ok (.dup2, 1) := by decide +kernel
theorem dX0_spread_38 : decode cX0_spread 38 = .ok (.laload, 1) := by decide +kernel
theorem dX0_spread_39 : decode cX0_spread 39 = .ok (.lload_n 3, 1) := by decide +kernel
theorem dX0_spread_40 : decode cX0_spread 40 = .ok (.ladd, 1) := by decide +kernel
theorem dX0_spread_41 : decode cX0_spread 41 = .ok (.lastore, 1) := by decide +kernel
theorem dX0_spread_42 : decode cX0_spread 42 = .ok (.iinc 5 1, 3) := by decide +kernel
theorem dX0_spread_45 : decode cX0_spread 45 = .ok (.goto (-42), 3) := by decide +kernel
theorem dX0_spread_48 : decode cX0_spread 48 = .ok (.return_, 1) := by decide +kernel
theorem dX0_upper_0 : decode cX0_upper 0 = .ok (.aload_n 0, 1) := by decide +kernel
theorem dX0_upper_1 : decode cX0_upper 1 = .ok (.aload_n 0, 1) := by decide +kernel
theorem dX0_upper_2 : decode cX0_upper 2 = .ok (.getfield 15, 3) := by decide +kernel
theorem dX0_upper_5 : decode cX0_upper 5 = .ok (.iload_n 1, 1) := by decide +kernel
theorem dX0_upper_6 : decode cX0_upper 6 = .ok (.laload, 1) := by decide +kernel
theorem dX0_upper_7 : decode cX0_upper 7 = .ok (.iload_n 1, 1) := by decide +kernel
theorem dX0_upper_8 : decode cX0_upper 8 = .ok (.invokevirtual 73, 3) := by decide +kernel
theorem dX0_upper_11 : decode cX0_upper 11 = .ok (.lreturn, 1) := by decide +kernel
theorem dX0_lower_0 : decode cX0_lower 0 = .ok (.aload_n 0, 1) := by decide +kernel
theorem dX0_lower_1 : decode cX0_lower 1 = .ok (.aload_n 0, 1) := by decide +kernel
theorem dX0_lower_2 : decode cX0_lower 2 = .ok (.getfield 9, 3) := by decide +kernel
theorem dX0_lower_5 : decode cX0_lower 5 = .ok (.iload_n 1, 1) := by decide +kernel
theorem dX0_lower_6 : decode cX0_lower 6 = .ok (.invokevirtual 73, 3) := by decide +kernel
theorem dX0_lower_9 : decode cX0_lower 9 = .ok (.lreturn, 1) := by decide +kernel
theorem dX0_inLeastTerms_0 : decode cX0_inLeastTerms 0 = .ok (.aload_n 0, 1) := by decide +kernel
theorem dX0_inLeastTerms_1 : decode cX0_inLeastTerms 1 = .ok (.getfield 9, 3) := by decide +kernel
theorem dX0_inLeastTerms_4 : decode cX0_inLeastTerms 4 = .ok (.aload_n 0, 1) := by decide +kernel
theorem dX0_inLeastTerms_5 : decode cX0_inLeastTerms 5 = .ok (.getfield 15, 3) := by decide +kernel
theorem dX0_inLeastTerms_8 : decode cX0_inLeastTerms 8 = .ok (.iload_n 3, 1) := by decide +kernel
theorem dX0_inLeastTerms_9 : decode cX0_inLeastTerms 9 = .ok (.laload, 1) := by decide +kernel
theorem dX0_inLeastTerms_10 : decode cX0_inLeastTerms 10 = .ok (.invokestatic 48, 3) := by decide +kernel
theorem dX0_inLeastTerms_13 : decode cX0_inLeastTerms 13 = .ok (.lstore 4, 2) := by decide +kernel
theorem dX0_inLeastTerms_15 : decode cX0_inLeastTerms 15 = .ok (.lload 4, 2) := by decide +kernel
theorem dX0_inLeastTerms_17 : decode cX0_inLeastTerms 17 = .ok (.lconst 0, 1) := by decide +kernel
theorem dX0_inLeastTerms_18 : decode cX0_inLeastTerms 18 = .ok (.lcmp, 1) := by decide +kernel
theorem dX0_inLeastTerms_19 : decode cX0_inLeastTerms 19 = .ok (.ifCond .le 10, 3) := by decide +kernel
theorem dX0_inLeastTerms_22 : decode cX0_inLeastTerms 22 = .ok (.lload_n 1, 1) := by decide +kernel
theorem dX0_inLeastTerms_23 : decode cX0_inLeastTerms 23 = .ok (.lload 4, 2) := by decide +kernel
theorem dX0_inLeastTerms_25 : decode cX0_inLeastTerms 25 = .ok (.ldiv, 1) := by decide +kernel
theorem dX0_inLeastTerms_26 : decode cX0_inLeastTerms 26 = .ok (.goto 4, 3) := by decide +kernel
theorem dX0_inLeastTerms_29 : decode cX0_inLeastTerms 29 = .ok (.lload_n 1, 1) := by decide +kernel
theorem dX0_inLeastTerms_30 : decode cX0_inLeastTerms 30 = .ok (.lreturn, 1) := by decide +kernel
theorem dX0_commonDivisor_0 : decode cX0_commonDivisor 0 = .ok (.lload_n 0, 1) := by decide +kernel
theorem dX0_commonDivisor_1 : decode cX0_commonDivisor 1 = .ok (.lstore 4, 2) := by decide +kernel
theorem dX0_commonDivisor_3 : decode cX0_commonDivisor 3 = .ok (.lload_n 2, 1) := by decide +kernel
theorem dX0_commonDivisor_4 : decode cX0_commonDivisor 4 = .ok (.lstore 6, 2) := by decide +kernel
theorem dX0_commonDivisor_6 : decode cX0_commonDivisor 6 = .ok (.iconst 0, 1) := by decide +kernel
theorem dX0_commonDivisor_7 : decode cX0_commonDivisor 7 = .ok (.istore 8, 2) := by decide +kernel
theorem dX0_commonDivisor_9 : decode cX0_commonDivisor 9 = .ok (.iload 8, 2) := by decide +kernel
theorem dX0_commonDivisor_11 : decode cX0_commonDivisor 11 = .ok (.bipush 100, 2) := by decide +kernel
theorem dX0_commonDivisor_13 : decode cX0_commonDivisor 13 = .ok (.if_icmp .ge 31, 3) := by decide +kernel
theorem dX0_commonDivisor_16 : decode cX0_commonDivisor 16 = .ok (.lload 6, 2) := by decide +kernel
theorem dX0_commonDivisor_18 : decode cX0_commonDivisor 18 = .ok (.lconst 0, 1) := by decide +kernel
theorem dX0_commonDivisor_19 : decode cX0_commonDivisor 19 = .ok (.lcmp, 1) := by decide +kernel
theorem dX0_commonDivisor_20 : decode cX0_commonDivisor 20 = .ok (.ifCond .eq 24, 3) := by decide +kernel
theorem dX0_commonDivisor_23 : decode cX0_commonDivisor 23 = .ok (.lload 4, 2) := by decide +kernel
theorem dX0_commonDivisor_25 : decode cX0_commonDivisor 25 = .ok (.lload 6, 2) := by decide +kernel
theorem dX0_commonDivisor_27 : decode cX0_commonDivisor 27 = .ok (.lrem, 1) := by decide +kernel
theorem dX0_commonDivisor_28 : decode cX0_commonDivisor 28 = .ok (.lstore 9, 2) := by decide +kernel
theorem dX0_commonDivisor_30 : decode cX0_commonDivisor 30 = .ok (.lload 6, 2) := by decide +kernel
theorem dX0_commonDivisor_32 : decode cX0_commonDivisor 32 = .ok (.lstore 4, 2) := by decide +kernel
theorem dX0_commonDivisor_34 : decode cX0_commonDivisor 34 = .ok (.lload 9, 2) := by decide +kernel
theorem dX0_commonDivisor_36 : decode cX0_commonDivisor 36 = .ok (.lstore 6, 2) := by decide +kernel
theorem dX0_commonDivisor_38 : decode cX0_commonDivisor 38 = .ok (.iinc 8 1, 3) := by decide +kernel
theorem dX0_commonDivisor_41 : decode cX0_commonDivisor 41 = .ok (.goto (-32), 3) := by decide +kernel
theorem dX0_commonDivisor_44 : decode cX0_commonDivisor 44 = .ok (.lload 4, 2) := by decide +kernel
theorem dX0_commonDivisor_46 : decode cX0_commonDivisor 46 = .ok (.lreturn, 1) := by decide +kernel
theorem dX1_init_0 : decode cX1_init 0 = .ok (.aload_n 0, 1) := by decide +kernel
theorem dX1_init_1 : decode cX1_init 1 = .ok (.invokespecial 3, 3) := by decide +kernel
theorem dX1_init_4 : decode cX1_init 4 = .ok (.aload_n 0, 1) := by decide +kernel
theorem dX1_init_5 : decode cX1_init 5 = .ok (.bipush 10, 2) := by decide +kernel
theorem dX1_init_7 : decode cX1_init 7 = .ok (.anewarray 9, 3) := by decide +kernel
theorem dX1_init_10 : decode cX1_init 10 = .ok (.putfield 11, 3) := by decide +kernel
theorem dX1_init_13 : decode cX1_init 13 = .ok (.iconst 0, 1) := by decide +kernel
theorem dX1_init_14 : decode cX1_init 14 = .ok (.istore_n 1, 1) := by decide +kernel
theorem dX1_init_15 : decode cX1_init 15 = .ok (.iload_n 1, 1) := by decide +kernel
theorem dX1_init_16 : decode cX1_init 16 = .ok (.bipush 10, 2) := by decide +kernel
theorem dX1_init_18 : decode cX1_init 18 = .ok (.if_icmp .ge 22, 3) := by decide +kernel
theorem dX1_init_21 : decode cX1_init 21 = .ok (.aload_n 0, 1) := by decide +kernel
theorem dX1_init_22 : decode cX1_init 22 = .ok (.getfield 11, 3) := by decide +kernel
theorem dX1_init_25 : decode cX1_init 25 = .ok (.iload_n 1, 1) := by decide +kernel
theorem dX1_init_26 : decode cX1_init 26 = .ok (.new 9, 3) := by decide +kernel
theorem dX1_init_29 : decode cX1_init 29 = .ok (.dup, 1) := by decide +kernel
theorem dX1_init_30 : decode cX1_init 30 = .ok (.invokespecial 17, 3) := by decide +kernel
theorem dX1_init_33 : decode cX1_init 33 = .ok (.aastore, 1) := by decide +kernel
theorem dX1_init_34 : decode cX1_init 34 = .ok (.iinc 1 1, 3) := by decide +kernel
theorem dX1_init_37 : decode cX1_init 37 = .ok (.goto (-22), 3) := by decide +kernel
theorem dX1_init_40 : decode cX1_init 40 = .ok (.return_, 1) := by decide +kernel
theorem dX1_size_0 : decode cX1_size 0 = .ok (.aload_n 0, 1) := by decide +kernel
theorem dX1_size_1 : decode cX1_size 1 = .ok (.getfield 18, 3) := by decide +kernel
theorem dX1_size_4 : decode cX1_size 4 = .ok (.ireturn, 1) := by decide +kernel
theorem dX1_remember_0 : decode cX1_remember 0 = .ok (.aload_n 0, 1) := by decide +kernel
theorem dX1_remember_1 : decode cX1_remember 1 = .ok (.getfield 11, 3) := by decide +kernel
theorem dX1_remember_4 : decode cX1_remember 4 = .ok (.aload_n 0, 1) := by decide +kernel
theorem dX1_remember_5 : decode cX1_remember 5 = .ok (.getfield 22, 3) := by decide +kernel
theorem dX1_remember_8 : decode cX1_remember 8 = .ok (.aaload, 1) := by decide +kernel
theorem dX1_remember_9 : decode cX1_remember 9 = .ok (.aload_n 1, 1) := by decide +kernel
theorem dX1_remember_10 : decode cX1_remember 10 = .ok (.invokevirtual 25, 3) := by decide +kernel
theorem dX1_remember_13 : decode cX1_remember 13 = .ok (.aload_n 0, 1) := by decide +kernel
theorem dX1_remember_14 : decode cX1_remember 14 = .ok (.aload_n 0, 1) := by decide +kernel
theorem dX1_remember_15 : decode cX1_remember 15 = .ok (.getfield 22, 3) := by decide +kernel
theorem dX1_remember_18 : decode cX1_remember 18 = .ok (.iconst 1, 1) := by decide +kernel
theorem dX1_remember_19 : decode cX1_remember 19 = .ok (.iadd, 1) := by decide +kernel
theorem dX1_remember_20 : decode cX1_remember 20 = .ok (.bipush 10, 2) := by decide +kernel
theorem dX1_remember_22 : decode cX1_remember 22 = .ok (.if_icmp .ge 12, 3) := by decide +kernel
theorem dX1_remember_25 : decode cX1_remember 25 = .ok (.aload_n 0, 1) := by decide +kernel
theorem dX1_remember_26 : decode cX1_remember 26 = .ok (.getfield 22, 3) := by decide +kernel
theorem dX1_remember_29 : decode cX1_remember 29 = .ok (.iconst 1, 1) := by decide +kernel
theorem dX1_remember_30 : decode cX1_remember 30 = .ok (.iadd, 1) := by decide +kernel
theorem dX1_remember_31 : decode cX1_remember 31 = .ok (.goto 4, 3) := by decide +kernel
theorem dX1_remember_34 : decode cX1_remember 34 = .ok (.iconst 0, 1) := by decide +kernel
theorem dX1_remember_35 : decode cX1_remember 35 = .ok (.putfield 22, 3) := by decide +kernel
theorem dX1_remember_38 : decode cX1_remember 38 = .ok (.aload_n 0, 1) := by decide +kernel
theorem dX1_remember_39 : decode cX1_remember 39 = .ok (.aload_n 0, 1) := by decide +kernel
theorem dX1_remember_40 : decode cX1_remember 40 = .ok (.getfield 18, 3) := by decide +kernel
theorem dX1_remember_43 : decode cX1_remember 43 = .ok (.iconst 1, 1) := by decide +kernel
theorem dX1_remember_44 : decode cX1_remember 44 = .ok (.iadd, 1) := by decide +kernel
theorem dX1_remember_45 : decode cX1_remember 45 = .ok (.bipush 10, 2) := by decide +kernel
theorem dX1_remember_47 : decode cX1_remember 47 = .ok (.invokestatic 29, 3) := by decide +kernel
theorem dX1_remember_50 : decode cX1_remember 50 = .ok (.putfield 18, 3) := by decide +kernel
theorem dX1_remember_53 : decode cX1_remember 53 = .ok (.return_, 1) := by decide +kernel
theorem dX1_restore_0 : decode cX1_restore 0 = .ok (.aload_n 0, 1) := by decide +kernel
theorem dX1_restore_1 : decode cX1_restore 1 = .ok (.getfield 18, 3) := by decide +kernel
theorem dX1_restore_4 : decode cX1_restore 4 = .ok (.ifCond .ne 5, 3) := by decide +kernel
theorem dX1_restore_7 : decode cX1_restore 7 = .ok (.iconst 0, 1) := by decide +kernel
theorem dX1_restore_8 : decode cX1_restore 8 = .ok (.ireturn, 1) := by decide +kernel
theorem dX1_restore_9 : decode cX1_restore 9 = .ok (.aload_n 0, 1) := by decide +kernel
theorem dX1_restore_10 : decode cX1_restore 10 = .ok (.aload_n 0, 1) := by decide +kernel
theorem dX1_restore_11 : decode cX1_restore 11 = .ok (.getfield 22, 3) := by decide +kernel
theorem dX1_restore_14 : decode cX1_restore 14 = .ok (.ifCond .le 12, 3) := by decide +kernel
theorem dX1_restore_17 : decode cX1_restore 17 = .ok (.aload_n 0, 1) := by decide +kernel
theorem dX1_restore_18 : decode cX1_restore 18 = .ok (.getfield 22, 3) := by decide +kernel
theorem dX1_restore_21 : decode cX1_restore 21 = .ok (.iconst 1, 1) := by decide +kernel
theorem dX1_restore_22 : decode cX1_restore 22 = .ok (.isub, 1) := by decide +kernel
theorem dX1_restore_23 : decode cX1_restore 23 = .ok (.goto 5, 3) := by decide +kernel
theorem dX1_restore_26 : decode cX1_restore 26 = .ok (.bipush 9, 2) := by decide +kernel
theorem dX1_restore_28 : decode cX1_restore 28 = .ok (.putfield 22, 3) := by decide +kernel
theorem dX1_restore_31 : decode cX1_restore 31 = .ok (.aload_n 0, 1) := by decide +kernel
theorem dX1_restore_32 : decode cX1_restore 32 = .ok (.dup, 1) := by decide +kernel
theorem dX1_restore_33 : decode cX1_restore 33 = .ok (.getfield 18, 3) := by decide +kernel
theorem dX1_restore_36 : decode cX1_restore 36 = .ok (.iconst 1, 1) := by decide +kernel
theorem dX1_restore_37 : decode cX1_restore 37 = .ok (.isub, 1) := by decide +kernel
theorem dX1_restore_38 : decode cX1_restore 38 = .ok (.putfield 18, 3) := by decide +kernel
theorem dX1_restore_41 : decode cX1_restore 41 = .ok (.aload_n 1, 1) := by decide +kernel
theorem dX1_restore_42 : decode cX1_restore 42 = .ok (.aload_n 0, 1) := by decide +kernel
theorem dX1_restore_43 : decode cX1_restore 43 = .ok (.getfield 11, 3) := by decide +kernel
theorem dX1_restore_46 : decode cX1_restore 46 = .ok (.aload_n 0, 1) := by decide +kernel
theorem dX1_restore_47 : decode cX1_restore 47 = .ok (.getfield 22, 3) := by decide +kernel
theorem dX1_restore_50 : decode cX1_restore 50 = .ok (.aaload, 1) := by decide +kernel
theorem dX1_restore_51 : decode cX1_restore 51 = .ok (.invokevirtual 25, 3) := by decide +kernel
theorem dX1_restore_54 : decode cX1_restore 54 = .ok (.iconst 1, 1) := by decide +kernel
theorem dX1_restore_55 : decode cX1_restore 55 = .ok (.ireturn, 1) := by decide +kernel
theorem dX1_lose_0 : decode cX1_lose 0 = .ok (.aload_n 0, 1) := by decide +kernel
theorem dX1_lose_1 : decode cX1_lose 1 = .ok (.iconst 0, 1) := by decide +kernel
theorem dX1_lose_2 : decode cX1_lose 2 = .ok (.putfield 18, 3) := by decide +kernel
theorem dX1_lose_5 : decode cX1_lose 5 = .ok (.return_, 1) := by decide +kernel
theorem dX2_init_0 : decode cX2_init 0 = .ok (.aload_n 0, 1) := by decide +kernel
theorem dX2_init_1 : decode cX2_init 1 = .ok (.invokespecial 3, 3) := by decide +kernel
theorem dX2_init_4 : decode cX2_init 4 = .ok (.aload_n 0, 1) := by decide +kernel
theorem dX2_init_5 : decode cX2_init 5 = .ok (.bipush (-9), 2) := by decide +kernel
theorem dX2_init_7 : decode cX2_init 7 = .ok (.putfield 9, 3) := by decide +kernel
theorem dX2_init_10 : decode cX2_init 10 = .ok (.aload_n 0, 1) := by decide +kernel
theorem dX2_init_11 : decode cX2_init 11 = .ok (.bipush 12, 2) := by decide +kernel
theorem dX2_init_13 : decode cX2_init 13 = .ok (.newarray .int, 2) := by decide +kernel
theorem dX2_init_15 : decode cX2_init 15 = .ok (.putfield 15, 3) := by decide +kernel
theorem dX2_init_18 : decode cX2_init 18 = .ok (.return_, 1) := by decide +kernel
theorem dX2_startAt_0 : decode cX2_startAt 0 = .ok (.aload_n 0, 1) := by decide +kernel
theorem dX2_startAt_1 : decode cX2_startAt 1 = .ok (.iload_n 1, 1) := by decide +kernel
theorem dX2_startAt_2 : decode cX2_startAt 2 = .ok (.putfield 19, 3) := by decide +kernel
theorem dX2_startAt_5 : decode cX2_startAt 5 = .ok (.aload_n 0, 1) := by decide +kernel
theorem dX2_startAt_6 : decode cX2_startAt 6 = .ok (.bipush (-9), 2) := by decide +kernel
theorem dX2_startAt_8 : decode cX2_startAt 8 = .ok (.putfield 9, 3) := by decide +kernel
theorem dX2_startAt_11 : decode cX2_startAt 11 = .ok (.aload_n 0, 1) := by decide +kernel
theorem dX2_startAt_12 : decode cX2_startAt 12 = .ok (.iconst 0, 1) := by decide +kernel
theorem dX2_startAt_13 : decode cX2_startAt 13 = .ok (.putfield 22, 3) := by decide +kernel
theorem dX2_startAt_16 : decode cX2_startAt 16 = .ok (.aload_n 0, 1) := by decide +kernel
theorem dX2_startAt_17 : decode cX2_startAt 17 = .ok (.iconst 0, 1) := by decide +kernel
theorem dX2_startAt_18 : decode cX2_startAt 18 = .ok (.putfield 25, 3) := by decide +kernel
theorem dX2_startAt_21 : decode cX2_startAt 21 = .ok (.aload_n 0, 1) := by decide +kernel
theorem dX2_startAt_22 : decode cX2_startAt 22 = .ok (.iconst 0, 1) := by decide +kernel
theorem dX2_startAt_23 : decode cX2_startAt 23 = .ok (.putfield 28, 3) := by decide +kernel
theorem dX2_startAt_26 : decode cX2_startAt 26 = .ok (.iconst 0, 1) := by decide +kernel
theorem dX2_startAt_27 : decode cX2_startAt 27 = .ok (.istore_n 2, 1) := by decide +kernel
theorem dX2_startAt_28 : decode cX2_startAt 28 = .ok (.iload_n 2, 1) := by decide +kernel
theorem dX2_startAt_29 : decode cX2_startAt 29 = .ok (.bipush 12, 2) := by decide +kernel
theorem dX2_startAt_31 : decode cX2_startAt 31 = .ok (.if_icmp .ge 16, 3) := by decide +kernel
theorem dX2_startAt_34 : decode cX2_startAt 34 = .ok (.aload_n 0, 1) := by decide +kernel
theorem dX2_startAt_35 : decode cX2_startAt 35 = .ok (.getfield 15, 3) := by decide +kernel
theorem dX2_startAt_38 : decode cX2_startAt 38 = .ok (.iload_n 2, 1) := by decide +kernel
theorem dX2_startAt_39 : decode cX2_startAt 39 = .ok (.iconst 0, 1) := by decide +kernel
theorem dX2_startAt_40 : decode cX2_startAt 40 = .ok (.iastore, 1) := by decide +kernel
theorem dX2_startAt_41 : decode cX2_startAt 41 = .ok (.iinc 2 1, 3) := by decide +kernel
theorem dX2_startAt_44 : decode cX2_startAt 44 = .ok (.goto (-16), 3) := by decide +kernel
theorem dX2_startAt_47 : decode cX2_startAt 47 = .ok (.return_, 1) := by decide +kernel
theorem dX2_become_0 : decode cX2_become 0 = .ok (.aload_n 0, 1) := by decide +kernel
theorem dX2_become_1 : decode cX2_become 1 = .ok (.aload_n 1, 1) := by decide +kernel
theorem dX2_become_2 : decode cX2_become 2 = .ok (.getfield 19, 3) := by decide +kernel
theorem dX2_become_5 : decode cX2_become 5 = .ok (.putfield 19, 3) := by decide +kernel
theorem dX2_become_8 : decode cX2_become 8 = .ok (.aload_n 0, 1) := by decide +kernel
theorem dX2_become_9 : decode cX2_become 9 = .ok (.aload_n 1, 1) := by decide +kernel
theorem dX2_become_10 : decode cX2_become 10 = .ok (.getfield 9, 3) := by decide +kernel
theorem dX2_become_13 : decode cX2_become 13 = .ok (.putfield 9, 3) := by decide +kernel
theorem dX2_become_16 : decode cX2_become 16 = .ok (.aload_n 0, 1) := by decide +kernel
theorem dX2_become_17 : decode cX2_become 17 = .ok (.aload_n 1, 1) := by decide +kernel
theorem dX2_become_18 : decode cX2_become 18 = .ok (.getfield 22, 3) := by decide +kernel
theorem dX2_become_21 : decode cX2_become 21 = .ok (.putfield 22, 3) := by decide +kernel
theorem dX2_become_24 : decode cX2_become 24 = .ok (.aload_n 0, 1) := by decide +kernel
theorem dX2_become_25 : decode cX2_become 25 = .ok (.aload_n 1, 1) := by decide +kernel
theorem dX2_become_26 : decode cX2_become 26 = .ok (.getfield 25, 3) := by decide +kernel
theorem dX2_become_29 : decode cX2_become 29 = .ok (.putfield 25, 3) := by decide +kernel
theorem dX2_become_32 : decode cX2_become 32 = .ok (.aload_n 0, 1) := by decide +kernel
theorem dX2_become_33 : decode cX2_become 33 = .ok (.aload_n 1, 1) := by decide +kernel
theorem dX2_become_34 : decode cX2_become 34 = .ok (.getfield 28, 3) := by decide +kernel
theorem dX2_become_37 : decode cX2_become 37 = .ok (.putfield 28, 3) := by decide +kernel
theorem dX2_become_40 : decode cX2_become 40 = .ok (.aload_n 1, 1) := by decide +kernel
theorem dX2_become_41 : decode cX2_become 41 = .ok (.getfield 15, 3) := by decide +kernel
theorem dX2_become_44 : decode cX2_become 44 = .ok (.iconst 0, 1) := by decide +kernel
theorem dX2_become_45 : decode cX2_become 45 = .ok (.aload_n 0, 1) := by decide +kernel
theorem dX2_become_46 : decode cX2_become 46 = .ok (.getfield 15, 3) := by decide +kernel
theorem dX2_become_49 : decode cX2_become 49 = .ok (.iconst 0, 1) := by decide +kernel
theorem dX2_become_50 : decode cX2_become 50 = .ok (.bipush 12, 2) := by decide +kernel
theorem dX2_become_52 : decode cX2_become 52 = .ok (.invokestatic 31, 3) := by decide +kernel
theorem dX2_become_55 : decode cX2_become 55 = .ok (.return_, 1) := by decide +kernel
theorem dX2_isShut_0 : decode cX2_isShut 0 = .ok (.aload_n 0, 1) := by decide +kernel
theorem dX2_isShut_1 : decode cX2_isShut 1 = .ok (.getfield 28, 3) := by decide +kernel
theorem dX2_isShut_4 : decode cX2_isShut 4 = .ok (.iload_n 1, 1) := by decide +kernel
theorem dX2_isShut_5 : decode cX2_isShut 5 = .ok (.invokestatic 37, 3) := by decide +kernel
theorem dX2_isShut_8 : decode cX2_isShut 8 = .ok (.ireturn, 1) := by decide +kernel
theorem dX3_init_0 : decode cX3_init 0 = .ok (.aload_n 0, 1) := by decide +kernel
theorem dX3_init_1 : decode cX3_init 1 = .ok (.invokespecial 3, 3) := by decide +kernel
theorem dX3_init_4 : decode cX3_init 4 = .ok (.aload_n 0, 1) := by decide +kernel
theorem dX3_init_5 : decode cX3_init 5 = .ok (.sipush 200, 3) := by decide +kernel
theorem dX3_init_8 : decode cX3_init 8 = .ok (.newarray .int, 2) := by decide +kernel
theorem dX3_init_10 : decode cX3_init 10 = .ok (.putfield 9, 3) := by decide +kernel
theorem dX3_init_13 : decode cX3_init 13 = .ok (.return_, 1) := by decide +kernel
theorem dX3_size_0 : decode cX3_size 0 = .ok (.aload_n 0, 1) := by decide +kernel
theorem dX3_size_1 : decode cX3_size 1 = .ok (.getfield 15, 3) := by decide +kernel
theorem dX3_size_4 : decode cX3_size 4 = .ok (.ireturn, 1) := by decide +kernel
theorem dX3_add_0 : decode cX3_add 0 = .ok (.aload_n 0, 1) := by decide +kernel
theorem dX3_add_1 : decode cX3_add 1 = .ok (.getfield 15, 3) := by decide +kernel
theorem dX3_add_4 : decode cX3_add 4 = .ok (.sipush 200, 3) := by decide +kernel
theorem dX3_add_7 : decode cX3_add 7 = .ok (.if_icmp .lt 5, 3) := by decide +kernel
theorem dX3_add_10 : decode cX3_add 10 = .ok (.iconst 0, 1) := by decide +kernel
theorem dX3_add_11 : decode cX3_add 11 = .ok (.ireturn, 1) := by decide +kernel
theorem dX3_add_12 : decode cX3_add 12 = .ok (.aload_n 0, 1) := by decide +kernel
theorem dX3_add_13 : decode cX3_add 13 = .ok (.getfield 9, 3) := by decide +kernel
theorem dX3_add_16 : decode cX3_add 16 = .ok (.aload_n 0, 1) := by decide +kernel
theorem dX3_add_17 : decode cX3_add 17 = .ok (.getfield 15, 3) := by decide +kernel
theorem dX3_add_20 : decode cX3_add 20 = .ok (.iload_n 1, 1) := by decide +kernel
theorem dX3_add_21 : decode cX3_add 21 = .ok (.iastore, 1) := by decide +kernel
theorem dX3_add_22 : decode cX3_add 22 = .ok (.aload_n 0, 1) := by decide +kernel
theorem dX3_add_23 : decode cX3_add 23 = .ok (.dup, 1) := by decide +kernel
theorem dX3_add_24 : decode cX3_add 24 = .ok (.getfield 15, 3) := by decide +kernel
theorem dX3_add_27 : decode cX3_add 27 = .ok (.iconst 1, 1) := by decide +kernel
theorem dX3_add_28 : decode cX3_add 28 = .ok (.iadd, 1) := by decide +kernel
theorem dX3_add_29 : decode cX3_add 29 = .ok (.putfield 15, 3) := by decide +kernel
theorem dX3_add_32 : decode cX3_add 32 = .ok (.iconst 1, 1) := by decide +kernel
theorem dX3_add_33 : decode cX3_add 33 = .ok (.ireturn, 1) := by decide +kernel
theorem dX3_empty_0 : decode cX3_empty 0 = .ok (.aload_n 0, 1) := by decide +kernel
theorem dX3_empty_1 : decode cX3_empty 1 = .ok (.getfield 15, 3) := by decide +kernel
theorem dX3_empty_4 : decode cX3_empty 4 = .ok (.istore_n 1, 1) := by decide +kernel
theorem dX3_empty_5 : decode cX3_empty 5 = .ok (.aload_n 0, 1) := by decide +kernel
theorem dX3_empty_6 : decode cX3_empty 6 = .ok (.iconst 0, 1) := by decide +kernel
theorem dX3_empty_7 : decode cX3_empty 7 = .ok (.putfield 15, 3) := by decide +kernel
theorem dX3_empty_10 : decode cX3_empty 10 = .ok (.iload_n 1, 1) := by decide +kernel
theorem dX3_empty_11 : decode cX3_empty 11 = .ok (.ireturn, 1) := by decide +kernel
theorem dX3_read_0 : decode cX3_read 0 = .ok (.aload_n 0, 1) := by decide +kernel
theorem dX3_read_1 : decode cX3_read 1 = .ok (.aload_n 1, 1) := by decide +kernel
theorem dX3_read_2 : decode cX3_read 2 = .ok (.invokevirtual 19, 3) := by decide +kernel
theorem dX3_read_5 : decode cX3_read 5 = .ok (.iconst 0, 1) := by decide +kernel
theorem dX3_read_6 : decode cX3_read 6 = .ok (.istore_n 2, 1) := by decide +kernel
theorem dX3_read_7 : decode cX3_read 7 = .ok (.aload_n 0, 1) := by decide +kernel
theorem dX3_read_8 : decode cX3_read 8 = .ok (.getfield 23, 3) := by decide +kernel
theorem dX3_read_11 : decode cX3_read 11 = .ok (.bipush (-2), 2) := by decide +kernel
theorem dX3_read_13 : decode cX3_read 13 = .ok (.if_icmp .eq 81, 3) := by decide +kernel
theorem dX3_read_16 : decode cX3_read 16 = .ok (.iload_n 2, 1) := by decide +kernel
theorem dX3_read_17 : decode cX3_read 17 = .ok (.sipush 200, 3) := by decide +kernel
theorem dX3_read_20 : decode cX3_read 20 = .ok (.if_icmp .ge 74, 3) := by decide +kernel
theorem dX3_read_23 : decode cX3_read 23 = .ok (.aload_n 0, 1) := by decide +kernel
theorem dX3_read_24 : decode cX3_read 24 = .ok (.getfield 23, 3) := by decide +kernel
theorem dX3_read_27 : decode cX3_read 27 = .ok (.istore_n 3, 1) := by decide +kernel
theorem dX3_read_28 : decode cX3_read 28 = .ok (.aload_n 0, 1) := by decide +kernel
theorem dX3_read_29 : decode cX3_read 29 = .ok (.iload_n 3, 1) := by decide +kernel
theorem dX3_read_30 : decode cX3_read 30 = .ok (.aload_n 1, 1) := by decide +kernel
theorem dX3_read_31 : decode cX3_read 31 = .ok (.iload_n 2, 1) := by decide +kernel
theorem dX3_read_32 : decode cX3_read 32 = .ok (.ifCond .ne 7, 3) := by decide +kernel
theorem dX3_read_35 : decode cX3_read 35 = .ok (.iconst 1, 1) := by decide +kernel
theorem dX3_read_36 : decode cX3_read 36 = .ok (.goto 4, 3) := by decide +kernel
theorem dX3_read_39 : decode cX3_read 39 = .ok (.iconst 0, 1) := by decide +kernel
theorem dX3_read_40 : decode cX3_read 40 = .ok (.invokevirtual 26, 3) := by decide +kernel
theorem dX3_read_43 : decode cX3_read 43 = .ok (.ifCond .ne 11, 3) := by decide +kernel
theorem dX3_read_46 : decode cX3_read 46 = .ok (.bipush (-10), 2) := by decide +kernel
theorem dX3_read_48 : decode cX3_read 48 = .ok (.aload_n 0, 1) := by decide +kernel
theorem dX3_read_49 : decode cX3_read 49 = .ok (.getfield 30, 3) := by decide +kernel
theorem dX3_read_52 : decode cX3_read 52 = .ok (.isub, 1) := by decide +kernel
theorem dX3_read_53 : decode cX3_read 53 = .ok (.ireturn, 1) := by decide +kernel
theorem dX3_read_54 : decode cX3_read 54 = .ok (.aload_n 0, 1) := by decide +kernel
theorem dX3_read_55 : decode cX3_read 55 = .ok (.invokevirtual 33, 3) := by decide +kernel
theorem dX3_read_58 : decode cX3_read 58 = .ok (.aload_n 0, 1) := by decide +kernel
theorem dX3_read_59 : decode cX3_read 59 = .ok (.iload_n 3, 1) := by decide +kernel
theorem dX3_read_60 : decode cX3_read 60 = .ok (.aload_n 1, 1) := by decide +kernel
theorem dX3_read_61 : decode cX3_read 61 = .ok (.invokevirtual 36, 3) := by decide +kernel
theorem dX3_read_64 : decode cX3_read 64 = .ok (.ifCond .eq 12, 3) := by decide +kernel
theorem dX3_read_67 : decode cX3_read 67 = .ok (.aload_n 0, 1) := by decide +kernel
theorem dX3_read_68 : decode cX3_read 68 = .ok (.getfield 23, 3) := by decide +kernel
theorem dX3_read_71 : decode cX3_read 71 = .ok (.bipush 59, 2) := by decide +kernel
theorem dX3_read_73 : decode cX3_read 73 = .ok (.if_icmp .eq 11, 3) := by decide +kernel
theorem dX3_read_76 : decode cX3_read 76 = .ok (.bipush (-10), 2) := by decide +kernel
theorem dX3_read_78 : decode cX3_read 78 = .ok (.aload_n 0, 1) := by decide +kernel
theorem dX3_read_79 : decode cX3_read 79 = .ok (.getfield 30, 3) := by decide +kernel
theorem dX3_read_82 : decode cX3_read 82 = .ok (.isub, 1) := by decide +kernel
theorem dX3_read_83 : decode cX3_read 83 = .ok (.ireturn, 1) := by decide +kernel
theorem dX3_read_84 : decode cX3_read 84 = .ok (.aload_n 0, 1) := by decide +kernel
theorem dX3_read_85 : decode cX3_read 85 = .ok (.invokevirtual 33, 3) := by decide +kernel
theorem dX3_read_88 : decode cX3_read 88 = .ok (.iinc 2 1, 3) := by decide +kernel
theorem dX3_read_91 : decode cX3_read 91 = .ok (.goto (-84), 3) := by decide +kernel
theorem dX3_read_94 : decode cX3_read 94 = .ok (.iload_n 2, 1) := by decide +kernel
theorem dX3_read_95 : decode cX3_read 95 = .ok (.ireturn, 1) := by decide +kernel
theorem dX3_beginReading_0 : decode cX3_beginReading 0 = .ok (.aload_n 1, 1) := by decide +kernel
theorem dX3_beginReading_1 : decode cX3_beginReading 1 = .ok (.invokevirtual 40, 3) := by decide +kernel
theorem dX3_beginReading_4 : decode cX3_beginReading 4 = .ok (.aload_n 0, 1) := by decide +kernel
theorem dX3_beginReading_5 : decode cX3_beginReading 5 = .ok (.iconst 0, 1) := by decide +kernel
theorem dX3_beginReading_6 : decode cX3_beginReading 6 = .ok (.putfield 45, 3) := by decide +kernel
theorem dX3_beginReading_9 : decode cX3_beginReading 9 = .ok (.aload_n 0, 1) := by decide +kernel
theorem dX3_beginReading_10 : decode cX3_beginReading 10 = .ok (.iconst 0, 1) := by decide +kernel
theorem dX3_beginReading_11 : decode cX3_beginReading 11 = .ok (.putfield 49, 3) := by decide +kernel
theorem dX3_beginReading_14 : decode cX3_beginReading 14 = .ok (.aload_n 0, 1) := by decide +kernel
theorem dX3_beginReading_15 : decode cX3_beginReading 15 = .ok (.iconst 0, 1) := by decide +kernel
theorem dX3_beginReading_16 : decode cX3_beginReading 16 = .ok (.putfield 52, 3) := by decide +kernel
theorem dX3_beginReading_19 : decode cX3_beginReading 19 = .ok (.aload_n 0, 1) := by decide +kernel
theorem dX3_beginReading_20 : decode cX3_beginReading 20 = .ok (.iconst 0, 1) := by decide +kernel
theorem dX3_beginReading_21 : decode cX3_beginReading 21 = .ok (.putfield 55, 3) := by decide +kernel
theorem dX3_beginReading_24 : decode cX3_beginReading 24 = .ok (.aload_n 0, 1) := by decide +kernel
theorem dX3_beginReading_25 : decode cX3_beginReading 25 = .ok (.invokevirtual 33, 3) := by decide +kernel
theorem dX3_beginReading_28 : decode cX3_beginReading 28 = .ok (.return_, 1) := by decide +kernel
theorem dX3_canBegin_0 : decode cX3_canBegin 0 = .ok (.iload_n 1, 1) := by decide +kernel
theorem dX3_canBegin_1 : decode cX3_canBegin 1 = .ok (.tableswitch 125 103 115 #[86, 125, 125, 125, 125, 112, 125, 99, 125, 67, 125, 69, 84], 67) := by decide +kernel
theorem dX3_canBegin_68 : decode cX3_canBegin 68 = .ok (.iload_n 3, 1) := by decide +kernel
theorem dX3_canBegin_69 : decode cX3_canBegin 69 = .ok (.ireturn, 1) := by decide +kernel
theorem dX3_canBegin_70 : decode cX3_canBegin 70 = .ok (.aload_n 2, 1) := by decide +kernel
theorem dX3_canBegin_71 : decode cX3_canBegin 71 = .ok (.getfield 58, 3) := by decide +kernel
theorem dX3_canBegin_74 : decode cX3_canBegin 74 = .ok (.bipush 12, 2) := by decide +kernel
theorem dX3_canBegin_76 : decode cX3_canBegin 76 = .ok (.if_icmp .ge 7, 3) := by decide +kernel
theorem dX3_canBegin_79 : decode cX3_canBegin 79 = .ok (.iconst 1, 1) := by decide +kernel
theorem dX3_canBegin_80 : decode cX3_canBegin 80 = .ok (.goto 4, 3) := by decide +kernel
theorem dX3_canBegin_83 : decode cX3_canBegin 83 = .ok (.iconst 0, 1) := by decide +kernel
theorem dX3_canBegin_84 : decode cX3_canBegin 84 = .ok (.ireturn, 1) := by decide +kernel
theorem dX3_canBegin_85 : decode cX3_canBegin 85 = .ok (.iconst 1, 1) := by decide +kernel
theorem dX3_canBegin_86 : decode cX3_canBegin 86 = .ok (.ireturn, 1) := by decide +kernel
theorem dX3_canBegin_87 : decode cX3_canBegin 87 = .ok (.aload_n 0, 1) := by decide +kernel
theorem dX3_canBegin_88 : decode cX3_canBegin 88 = .ok (.getfield 45, 3) := by decide +kernel
theorem dX3_canBegin_91 : decode cX3_canBegin 91 = .ok (.ifCond .ne 7, 3) := by decide +kernel
theorem dX3_canBegin_94 : decode cX3_canBegin 94 = .ok (.iconst 1, 1) := by decide +kernel
theorem dX3_canBegin_95 : decode cX3_canBegin 95 = .ok (.goto 4, 3) := by decide +kernel
theorem dX3_canBegin_98 : decode cX3_canBegin 98 = .ok (.iconst 0, 1) := by decide +kernel
theorem dX3_canBegin_99 : decode cX3_canBegin 99 = .ok (.ireturn, 1) := by decide +kernel
theorem dX3_canBegin_100 : decode cX3_canBegin 100 = .ok (.aload_n 0, 1) := by decide +kernel
theorem dX3_canBegin_101 : decode cX3_canBegin 101 = .ok (.getfield 49, 3) := by decide +kernel
theorem dX3_canBegin_104 : decode cX3_canBegin 104 = .ok (.ifCond .ne 7, 3) := by decide +kernel
theorem dX3_canBegin_107 : decode cX3_canBegin 107 = .ok (.iconst 1, 1) := by decide +kernel
theorem dX3_canBegin_108 : decode cX3_canBegin 108 = .ok (.goto 4, 3) := by decide +kernel
theorem dX3_canBegin_111 : decode cX3_canBegin 111 = .ok (.iconst 0, 1) := by decide +kernel
theorem dX3_canBegin_112 : decode cX3_canBegin 112 = .ok (.ireturn, 1) := by decide +kernel
theorem dX3_canBegin_113 : decode cX3_canBegin 113 = .ok (.aload_n 0, 1) := by decide +kernel
theorem dX3_canBegin_114 : decode cX3_canBegin 114 = .ok (.getfield 52, 3) := by decide +kernel
theorem dX3_canBegin_117 : decode cX3_canBegin 117 = .ok (.ifCond .ne 7, 3) := by decide +kernel
theorem dX3_canBegin_120 : decode cX3_canBegin 120 = .ok (.iconst 1, 1) := by decide +kernel
theorem dX3_canBegin_121 : decode cX3_canBegin 121 = .ok (.goto 4, 3) := by decide +kernel
theorem dX3_canBegin_124 : decode cX3_canBegin 124 = .ok (.iconst 0, 1) := by decide +kernel
theorem dX3_canBegin_125 : decode cX3_canBegin 125 = .ok (.ireturn, 1) := by decide +kernel
theorem dX3_canBegin_126 : decode cX3_canBegin 126 = .ok (.iconst 0, 1) := by decide +kernel
theorem dX3_canBegin_127 : decode cX3_canBegin 127 = .ok (.ireturn, 1) := by decide +kernel
theorem dX3_readNumbers_0 : decode cX3_readNumbers 0 = .ok (.iload_n 1, 1) := by decide +kernel
theorem dX3_readNumbers_1 : decode cX3_readNumbers 1 = .ok (.tableswitch 103 103 115 #[85, 103, 103, 103, 103, 97, 103, 91, 103, 67, 103, 73, 79], 67) := by decide +kernel
theorem dX3_readNumbers_68 : decode cX3_readNumbers 68 = .ok (.aload_n 0, 1) := by decide +kernel
theorem dX3_readNumbers_69 : decode cX3_readNumbers 69 = .ok (.aload_n 2, 1) := by decide +kernel
theorem dX3_readNumbers_70 : decode cX3_readNumbers 70 = .ok (.invokevirtual 61, 3) := by decide +kernel
theorem dX3_readNumbers_73 : decode cX3_readNumbers 73 = .ok (.ireturn, 1) := by decide +kernel
theorem dX3_readNumbers_74 : decode cX3_readNumbers 74 = .ok (.aload_n 0, 1) := by decide +kernel
theorem dX3_readNumbers_75 : decode cX3_readNumbers 75 = .ok (.aload_n 2, 1) := by decide +kernel
theorem dX3_readNumbers_76 : decode cX3_readNumbers 76 = .ok (.invokevirtual 65, 3) := by decide +kernel
theorem dX3_readNumbers_79 : decode cX3_readNumbers 79 = .ok (.ireturn, 1) := by decide +kernel
theorem dX3_readNumbers_80 : decode cX3_readNumbers 80 = .ok (.aload_n 0, 1) := by decide +kernel
theorem dX3_readNumbers_81 : decode cX3_readNumbers 81 = .ok (.aload_n 2, 1) := by decide +kernel
theorem dX3_readNumbers_82 : decode cX3_readNumbers 82 = .ok (.invokevirtual 68, 3) := by decide +kernel
theorem dX3_readNumbers_85 : decode cX3_readNumbers 85 = .ok (.ireturn, 1) := by decide +kernel
theorem dX3_readNumbers_86 : decode cX3_readNumbers 86 = .ok (.aload_n 0, 1) := by decide +kernel
theorem dX3_readNumbers_87 : decode cX3_readNumbers 87 = .ok (.aload_n 2, 1) := by decide +kernel
theorem dX3_readNumbers_88 : decode cX3_readNumbers 88 = .ok (.invokevirtual 71, 3) := by decide +kernel
theorem dX3_readNumbers_91 : decode cX3_readNumbers 91 = .ok (.ireturn, 1) := by decide +kernel
theorem dX3_readNumbers_92 : decode cX3_readNumbers 92 = .ok (.aload_n 0, 1) := by decide +kernel
theorem dX3_readNumbers_93 : decode cX3_readNumbers 93 = .ok (.aload_n 2, 1) := by decide +kernel
theorem dX3_readNumbers_94 : decode cX3_readNumbers 94 = .ok (.invokevirtual 74, 3) := by decide +kernel
theorem dX3_readNumbers_97 : decode cX3_readNumbers 97 = .ok (.ireturn, 1) := by decide +kernel
theorem dX3_readNumbers_98 : decode cX3_readNumbers 98 = .ok (.aload_n 0, 1) := by decide +kernel
theorem dX3_readNumbers_99 : decode cX3_readNumbers 99 = .ok (.aload_n 2, 1) := by decide +kernel
theorem dX3_readNumbers_100 : decode cX3_readNumbers 100 = .ok (.invokevirtual 77, 3) := by decide +kernel
theorem dX3_readNumbers_103 : decode cX3_readNumbers 103 = .ok (.ireturn, 1) := by decide +kernel
theorem dX3_readNumbers_104 : decode cX3_readNumbers 104 = .ok (.iconst 0, 1) := by decide +kernel
theorem dX3_readNumbers_105 : decode cX3_readNumbers 105 = .ok (.ireturn, 1) := by decide +kernel
theorem dX3_readPlaces_0 : decode cX3_readPlaces 0 = .ok (.aload_n 0, 1) := by decide +kernel
theorem dX3_readPlaces_1 : decode cX3_readPlaces 1 = .ok (.iconst 2, 1) := by decide +kernel
theorem dX3_readPlaces_2 : decode cX3_readPlaces 2 = .ok (.bipush 8, 2) := by decide +kernel
theorem dX3_readPlaces_4 : decode cX3_readPlaces 4 = .ok (.bipush (-9), 2) := by decide +kernel
theorem dX3_readPlaces_6 : decode cX3_readPlaces 6 = .ok (.invokevirtual 80, 3) := by decide +kernel
theorem dX3_readPlaces_9 : decode cX3_readPlaces 9 = .ok (.istore_n 2, 1) := by decide +kernel
theorem dX3_readPlaces_10 : decode cX3_readPlaces 10 = .ok (.iload_n 2, 1) := by decide +kernel
theorem dX3_readPlaces_11 : decode cX3_readPlaces 11 = .ok (.iconst (-1), 1) := by decide +kernel
theorem dX3_readPlaces_12 : decode cX3_readPlaces 12 = .ok (.if_icmp .ne 5, 3) := by decide +kernel
theorem dX3_readPlaces_15 : decode cX3_readPlaces 15 = .ok (.iconst 0, 1) := by decide +kernel
theorem dX3_readPlaces_16 : decode cX3_readPlaces 16 = .ok (.ireturn, 1) := by decide +kernel
theorem dX3_readPlaces_17 : decode cX3_readPlaces 17 = .ok (.aload_n 1, 1) := by decide +kernel
theorem dX3_readPlaces_18 : decode cX3_readPlaces 18 = .ok (.iload_n 2, 1) := by decide +kernel
theorem dX3_readPlaces_19 : decode cX3_readPlaces 19 = .ok (.putfield 84, 3) := by decide +kernel
theorem dX3_readPlaces_22 : decode cX3_readPlaces 22 = .ok (.iconst 1, 1) := by decide +kernel
theorem dX3_readPlaces_23 : decode cX3_readPlaces 23 = .ok (.ireturn, 1) := by decide +kernel
theorem dX3_readRoad_0 : decode cX3_readRoad 0 = .ok (.aload_n 0, 1) := by decide +kernel
theorem dX3_readRoad_1 : decode cX3_readRoad 1 = .ok (.iconst 0, 1) := by decide +kernel
theorem dX3_readRoad_2 : decode cX3_readRoad 2 = .ok (.aload_n 1, 1) := by decide +kernel
theorem dX3_readRoad_3 : decode cX3_readRoad 3 = .ok (.getfield 84, 3) := by decide +kernel
theorem dX3_readRoad_6 : decode cX3_readRoad 6 = .ok (.iconst 1, 1) := by decide +kernel
theorem dX3_readRoad_7 : decode cX3_readRoad 7 = .ok (.isub, 1) := by decide +kernel
theorem dX3_readRoad_8 : decode cX3_readRoad 8 = .ok (.bipush (-9), 2) := by decide +kernel
theorem dX3_readRoad_10 : decode cX3_readRoad 10 = .ok (.invokevirtual 80, 3) := by decide +kernel
theorem dX3_readRoad_13 : decode cX3_readRoad 13 = .ok (.istore_n 2, 1) := by decide +kernel
theorem dX3_readRoad_14 : decode cX3_readRoad 14 = .ok (.iload_n 2, 1) := by decide +kernel
theorem dX3_readRoad_15 : decode cX3_readRoad 15 = .ok (.iconst (-1), 1) := by decide +kernel
theorem dX3_readRoad_16 : decode cX3_readRoad 16 = .ok (.if_icmp .ne 5, 3) := by decide +kernel
theorem dX3_readRoad_19 : decode cX3_readRoad 19 = .ok (.iconst 0, 1) := by decide +kernel
theorem dX3_readRoad_20 : decode cX3_readRoad 20 = .ok (.ireturn, 1) := by decide +kernel
theorem dX3_readRoad_21 : decode cX3_readRoad 21 = .ok (.aload_n 0, 1) := by decide +kernel
theorem dX3_readRoad_22 : decode cX3_readRoad 22 = .ok (.iconst 0, 1) := by decide +kernel
theorem dX3_readRoad_23 : decode cX3_readRoad 23 = .ok (.aload_n 1, 1) := by decide +kernel
theorem dX3_readRoad_24 : decode cX3_readRoad 24 = .ok (.getfield 84, 3) := by decide +kernel
theorem dX3_readRoad_27 : decode cX3_readRoad 27 = .ok (.iconst 1, 1) := by decide +kernel
theorem dX3_readRoad_28 : decode cX3_readRoad 28 = .ok (.isub, 1) := by decide +kernel
theorem dX3_readRoad_29 : decode cX3_readRoad 29 = .ok (.iload_n 2, 1) := by decide +kernel
theorem dX3_readRoad_30 : decode cX3_readRoad 30 = .ok (.invokevirtual 80, 3) := by decide +kernel
theorem dX3_readRoad_33 : decode cX3_readRoad 33 = .ok (.istore_n 3, 1) := by decide +kernel
theorem dX3_readRoad_34 : decode cX3_readRoad 34 = .ok (.iload_n 3, 1) := by decide +kernel
theorem dX3_readRoad_35 : decode cX3_readRoad 35 = .ok (.iconst (-1), 1) := by decide +kernel
theorem dX3_readRoad_36 : decode cX3_readRoad 36 = .ok (.if_icmp .ne 5, 3) := by decide +kernel
theorem dX3_readRoad_39 : decode cX3_readRoad 39 = .ok (.iconst 0, 1) := by decide +kernel
theorem dX3_readRoad_40 : decode cX3_readRoad 40 = .ok (.ireturn, 1) := by decide +kernel
theorem dX3_readRoad_41 : decode cX3_readRoad 41 = .ok (.aload_n 0, 1) := by decide +kernel
theorem dX3_readRoad_42 : decode cX3_readRoad 42 = .ok (.iconst 1, 1) := by decide +kernel
theorem dX3_readRoad_43 : decode cX3_readRoad 43 = .ok (.bipush 60, 2) := by decide +kernel
theorem dX3_readRoad_45 : decode cX3_readRoad 45 = .ok (.bipush (-9), 2) := by decide +kernel
theorem dX3_readRoad_47 : decode cX3_readRoad 47 = .ok (.invokevirtual 80, 3) := by decide +kernel
theorem dX3_readRoad_50 : decode cX3_readRoad 50 = .ok (.istore 4, 2) := by decide +kernel
theorem dX3_readRoad_52 : decode cX3_readRoad 52 = .ok (.iload 4, 2) := by decide +kernel
theorem dX3_readRoad_54 : decode cX3_readRoad 54 = .ok (.iconst (-1), 1) := by decide +kernel
theorem dX3_readRoad_55 : decode cX3_readRoad 55 = .ok (.if_icmp .ne 5, 3) := by decide +kernel
theorem dX3_readRoad_58 : decode cX3_readRoad 58 = .ok (.iconst 0, 1) := by decide +kernel
theorem dX3_readRoad_59 : decode cX3_readRoad 59 = .ok (.ireturn, 1) := by decide +kernel
theorem dX3_readRoad_60 : decode cX3_readRoad 60 = .ok (.aload_n 1, 1) := by decide +kernel
theorem dX3_readRoad_61 : decode cX3_readRoad 61 = .ok (.iload_n 2, 1) := by decide +kernel
theorem dX3_readRoad_62 : decode cX3_readRoad 62 = .ok (.iload_n 3, 1) := by decide +kernel
theorem dX3_readRoad_63 : decode cX3_readRoad 63 = .ok (.iload 4, 2) := by decide +kernel
theorem dX3_readRoad_65 : decode cX3_readRoad 65 = .ok (.invokevirtual 87, 3) := by decide +kernel
theorem dX3_readRoad_68 : decode cX3_readRoad 68 = .ok (.iconst 1, 1) := by decide +kernel
theorem dX3_readRoad_69 : decode cX3_readRoad 69 = .ok (.ireturn, 1) := by decide +kernel
theorem dX3_readStraight_0 : decode cX3_readStraight 0 = .ok (.aload_n 0, 1) := by decide +kernel
theorem dX3_readStraight_1 : decode cX3_readStraight 1 = .ok (.iconst 0, 1) := by decide +kernel
theorem dX3_readStraight_2 : decode cX3_readStraight 2 = .ok (.aload_n 1, 1) := by decide +kernel
theorem dX3_readStraight_3 : decode cX3_readStraight 3 = .ok (.getfield 58, 3) := by decide +kernel
theorem dX3_readStraight_6 : decode cX3_readStraight 6 = .ok (.iconst 1, 1) := by decide +kernel
theorem dX3_readStraight_7 : decode cX3_readStraight 7 = .ok (.isub, 1) := by decide +kernel
theorem dX3_readStraight_8 : decode cX3_readStraight 8 = .ok (.bipush (-9), 2) := by decide +kernel
theorem dX3_readStraight_10 : decode cX3_readStraight 10 = .ok (.invokevirtual 80, 3) := by decide +kernel
theorem dX3_readStraight_13 : decode cX3_readStraight 13 = .ok (.istore_n 2, 1) := by decide +kernel
theorem dX3_readStraight_14 : decode cX3_readStraight 14 = .ok (.iload_n 2, 1) := by decide +kernel
theorem dX3_readStraight_15 : decode cX3_readStraight 15 = .ok (.iconst (-1), 1) := by decide +kernel
theorem dX3_readStraight_16 : decode cX3_readStraight 16 = .ok (.if_icmp .ne 5, 3) := by decide +kernel
theorem dX3_readStraight_19 : decode cX3_readStraight 19 = .ok (.iconst 0, 1) := by decide +kernel
theorem dX3_readStraight_20 : decode cX3_readStraight 20 = .ok (.ireturn, 1) := by decide +kernel
theorem dX3_readStraight_21 : decode cX3_readStraight 21 = .ok (.aload_n 0, 1) := by decide +kernel
theorem dX3_readStraight_22 : decode cX3_readStraight 22 = .ok (.iconst 0, 1) := by decide +kernel
theorem dX3_readStraight_23 : decode cX3_readStraight 23 = .ok (.aload_n 1, 1) := by decide +kernel
theorem dX3_readStraight_24 : decode cX3_readStraight 24 = .ok (.getfield 58, 3) := by decide +kernel
theorem dX3_readStraight_27 : decode cX3_readStraight 27 = .ok (.iconst 1, 1) := by decide +kernel
theorem dX3_readStraight_28 : decode cX3_readStraight 28 = .ok (.isub, 1) := by decide +kernel
theorem dX3_readStraight_29 : decode cX3_readStraight 29 = .ok (.iload_n 2, 1) := by decide +kernel
theorem dX3_readStraight_30 : decode cX3_readStraight 30 = .ok (.invokevirtual 80, 3) := by decide +kernel
theorem dX3_readStraight_33 : decode cX3_readStraight 33 = .ok (.istore_n 3, 1) := by decide +kernel
theorem dX3_readStraight_34 : decode cX3_readStraight 34 = .ok (.iload_n 3, 1) := by decide +kernel
theorem dX3_readStraight_35 : decode cX3_readStraight 35 = .ok (.iconst (-1), 1) := by decide +kernel
theorem dX3_readStraight_36 : decode cX3_readStraight 36 = .ok (.if_icmp .ne 5, 3) := by decide +kernel
theorem dX3_readStraight_39 : decode cX3_readStraight 39 = .ok (.iconst 0, 1) := by decide +kernel
theorem dX3_readStraight_40 : decode cX3_readStraight 40 = .ok (.ireturn, 1) := by decide +kernel
theorem dX3_readStraight_41 : decode cX3_readStraight 41 = .ok (.aload_n 1, 1) := by decide +kernel
theorem dX3_readStraight_42 : decode cX3_readStraight 42 = .ok (.iload_n 2, 1) := by decide +kernel
theorem dX3_readStraight_43 : decode cX3_readStraight 43 = .ok (.iload_n 3, 1) := by decide +kernel
theorem dX3_readStraight_44 : decode cX3_readStraight 44 = .ok (.invokevirtual 91, 3) := by decide +kernel
theorem dX3_readStraight_47 : decode cX3_readStraight 47 = .ok (.iconst 1, 1) := by decide +kernel
theorem dX3_readStraight_48 : decode cX3_readStraight 48 = .ok (.ireturn, 1) := by decide +kernel
theorem dX3_readGoal_0 : decode cX3_readGoal 0 = .ok (.aload_n 0, 1) := by decide +kernel
theorem dX3_readGoal_1 : decode cX3_readGoal 1 = .ok (.iconst 0, 1) := by decide +kernel
theorem dX3_readGoal_2 : decode cX3_readGoal 2 = .ok (.aload_n 1, 1) := by decide +kernel
theorem dX3_readGoal_3 : decode cX3_readGoal 3 = .ok (.getfield 84, 3) := by decide +kernel
theorem dX3_readGoal_6 : decode cX3_readGoal 6 = .ok (.iconst 1, 1) := by decide +kernel
theorem dX3_readGoal_7 : decode cX3_readGoal 7 = .ok (.isub, 1) := by decide +kernel
theorem dX3_readGoal_8 : decode cX3_readGoal 8 = .ok (.bipush (-9), 2) := by decide +kernel
theorem dX3_readGoal_10 : decode cX3_readGoal 10 = .ok (.invokevirtual 80, 3) := by decide +kernel
theorem dX3_readGoal_13 : decode cX3_readGoal 13 = .ok (.istore_n 2, 1) := by decide +kernel
theorem dX3_readGoal_14 : decode cX3_readGoal 14 = .ok (.iload_n 2, 1) := by decide +kernel
theorem dX3_readGoal_15 : decode cX3_readGoal 15 = .ok (.iconst (-1), 1) := by decide +kernel
theorem dX3_readGoal_16 : decode cX3_readGoal 16 = .ok (.if_icmp .ne 5, 3) := by decide +kernel
theorem dX3_readGoal_19 : decode cX3_readGoal 19 = .ok (.iconst 0, 1) := by decide +kernel
theorem dX3_readGoal_20 : decode cX3_readGoal 20 = .ok (.ireturn, 1) := by decide +kernel
theorem dX3_readGoal_21 : decode cX3_readGoal 21 = .ok (.aload_n 0, 1) := by decide +kernel
theorem dX3_readGoal_22 : decode cX3_readGoal 22 = .ok (.iconst 0, 1) := by decide +kernel
theorem dX3_readGoal_23 : decode cX3_readGoal 23 = .ok (.aload_n 1, 1) := by decide +kernel
theorem dX3_readGoal_24 : decode cX3_readGoal 24 = .ok (.getfield 84, 3) := by decide +kernel
theorem dX3_readGoal_27 : decode cX3_readGoal 27 = .ok (.iconst 1, 1) := by decide +kernel
theorem dX3_readGoal_28 : decode cX3_readGoal 28 = .ok (.isub, 1) := by decide +kernel
theorem dX3_readGoal_29 : decode cX3_readGoal 29 = .ok (.bipush (-9), 2) := by decide +kernel
theorem dX3_readGoal_31 : decode cX3_readGoal 31 = .ok (.invokevirtual 80, 3) := by decide +kernel
theorem dX3_readGoal_34 : decode cX3_readGoal 34 = .ok (.istore_n 3, 1) := by decide +kernel
theorem dX3_readGoal_35 : decode cX3_readGoal 35 = .ok (.iload_n 3, 1) := by decide +kernel
theorem dX3_readGoal_36 : decode cX3_readGoal 36 = .ok (.iconst (-1), 1) := by decide +kernel
theorem dX3_readGoal_37 : decode cX3_readGoal 37 = .ok (.if_icmp .ne 5, 3) := by decide +kernel
theorem dX3_readGoal_40 : decode cX3_readGoal 40 = .ok (.iconst 0, 1) := by decide +kernel
theorem dX3_readGoal_41 : decode cX3_readGoal 41 = .ok (.ireturn, 1) := by decide +kernel
theorem dX3_readGoal_42 : decode cX3_readGoal 42 = .ok (.aload_n 1, 1) := by decide +kernel
theorem dX3_readGoal_43 : decode cX3_readGoal 43 = .ok (.iload_n 2, 1) := by decide +kernel
theorem dX3_readGoal_44 : decode cX3_readGoal 44 = .ok (.putfield 95, 3) := by decide +kernel
theorem dX3_readGoal_47 : decode cX3_readGoal 47 = .ok (.aload_n 1, 1) := by decide +kernel
theorem dX3_readGoal_48 : decode cX3_readGoal 48 = .ok (.iload_n 3, 1) := by decide +kernel
theorem dX3_readGoal_49 : decode cX3_readGoal 49 = .ok (.putfield 98, 3) := by decide +kernel
theorem dX3_readGoal_52 : decode cX3_readGoal 52 = .ok (.aload_n 0, 1) := by decide +kernel
theorem dX3_readGoal_53 : decode cX3_readGoal 53 = .ok (.iconst 1, 1) := by decide +kernel
theorem dX3_readGoal_54 : decode cX3_readGoal 54 = .ok (.putfield 45, 3) := by decide +kernel
theorem dX3_readGoal_57 : decode cX3_readGoal 57 = .ok (.iconst 1, 1) := by decide +kernel
theorem dX3_readGoal_58 : decode cX3_readGoal 58 = .ok (.ireturn, 1) := by decide +kernel
theorem dX3_readNerves_0 : decode cX3_readNerves 0 = .ok (.aload_n 0, 1) := by decide +kernel
theorem dX3_readNerves_1 : decode cX3_readNerves 1 = .ok (.iconst 0, 1) := by decide +kernel
theorem dX3_readNerves_2 : decode cX3_readNerves 2 = .ok (.bipush 20, 2) := by decide +kernel
theorem dX3_readNerves_4 : decode cX3_readNerves 4 = .ok (.bipush (-9), 2) := by decide +kernel
theorem dX3_readNerves_6 : decode cX3_readNerves 6 = .ok (.invokevirtual 80, 3) := by decide +kernel
theorem dX3_readNerves_9 : decode cX3_readNerves 9 = .ok (.istore_n 2, 1) := by decide +kernel
theorem dX3_readNerves_10 : decode cX3_readNerves 10 = .ok (.iload_n 2, 1) := by decide +kernel
theorem dX3_readNerves_11 : decode cX3_readNerves 11 = .ok (.iconst (-1), 1) := by decide +kernel
theorem dX3_readNerves_12 : decode cX3_readNerves 12 = .ok (.if_icmp .ne 5, 3) := by decide +kernel
theorem dX3_readNerves_15 : decode cX3_readNerves 15 = .ok (.iconst 0, 1) := by decide +kernel
theorem dX3_readNerves_16 : decode cX3_readNerves 16 = .ok (.ireturn, 1) := by decide +kernel
theorem dX3_readNerves_17 : decode cX3_readNerves 17 = .ok (.aload_n 1, 1) := by decide +kernel
theorem dX3_readNerves_18 : decode cX3_readNerves 18 = .ok (.iload_n 2, 1) := by decide +kernel
theorem dX3_readNerves_19 : decode cX3_readNerves 19 = .ok (.putfield 101, 3) := by decide +kernel
theorem dX3_readNerves_22 : decode cX3_readNerves 22 = .ok (.aload_n 0, 1) := by decide +kernel
theorem dX3_readNerves_23 : decode cX3_readNerves 23 = .ok (.iconst 1, 1) := by decide +kernel
theorem dX3_readNerves_24 : decode cX3_readNerves 24 = .ok (.putfield 49, 3) := by decide +kernel
theorem dX3_readNerves_27 : decode cX3_readNerves 27 = .ok (.iconst 1, 1) := by decide +kernel
theorem dX3_readNerves_28 : decode cX3_readNerves 28 = .ok (.ireturn, 1) := by decide +kernel
theorem dX3_readLoad_0 : decode cX3_readLoad 0 = .ok (.aload_n 0, 1) := by decide +kernel
theorem dX3_readLoad_1 : decode cX3_readLoad 1 = .ok (.iconst 0, 1) := by decide +kernel
theorem dX3_readLoad_2 : decode cX3_readLoad 2 = .ok (.bipush 9, 2) := by decide +kernel
theorem dX3_readLoad_4 : decode cX3_readLoad 4 = .ok (.bipush (-9), 2) := by decide +kernel
theorem dX3_readLoad_6 : decode cX3_readLoad 6 = .ok (.invokevirtual 80, 3) := by decide +kernel
theorem dX3_readLoad_9 : decode cX3_readLoad 9 = .ok (.istore_n 2, 1) := by decide +kernel
theorem dX3_readLoad_10 : decode cX3_readLoad 10 = .ok (.iload_n 2, 1) := by decide +kernel
theorem dX3_readLoad_11 : decode cX3_readLoad 11 = .ok (.iconst (-1), 1) := by decide +kernel
theorem dX3_readLoad_12 : decode cX3_readLoad 12 = .ok (.if_icmp .ne 5, 3) := by decide +kernel
theorem dX3_readLoad_15 : decode cX3_readLoad 15 = .ok (.iconst 0, 1) := by decide +kernel
theorem dX3_readLoad_16 : decode cX3_readLoad 16 = .ok (.ireturn, 1) := by decide +kernel
theorem dX3_readLoad_17 : decode cX3_readLoad 17 = .ok (.aload_n 1, 1) := by decide +kernel
theorem dX3_readLoad_18 : decode cX3_readLoad 18 = .ok (.iload_n 2, 1) := by decide +kernel
theorem dX3_readLoad_19 : decode cX3_readLoad 19 = .ok (.putfield 104, 3) := by decide +kernel
theorem dX3_readLoad_22 : decode cX3_readLoad 22 = .ok (.aload_n 0, 1) := by decide +kernel
theorem dX3_readLoad_23 : decode cX3_readLoad 23 = .ok (.iconst 1, 1) := by decide +kernel
theorem dX3_readLoad_24 : decode cX3_readLoad 24 = .ok (.putfield 52, 3) := by decide +kernel
theorem dX3_readLoad_27 : decode cX3_readLoad 27 = .ok (.iconst 1, 1) := by decide +kernel
theorem dX3_readLoad_28 : decode cX3_readLoad 28 = .ok (.ireturn, 1) := by decide +kernel
theorem dX3_readNumber_0 : decode cX3_readNumber 0 = .ok (.aload_n 0, 1) := by decide +kernel
theorem dX3_readNumber_1 : decode cX3_readNumber 1 = .ok (.getfield 23, 3) := by decide +kernel
theorem dX3_readNumber_4 : decode cX3_readNumber 4 = .ok (.iconst (-1), 1) := by decide +kernel
theorem dX3_readNumber_5 : decode cX3_readNumber 5 = .ok (.if_icmp .ne 23, 3) := by decide +kernel
theorem dX3_readNumber_8 : decode cX3_readNumber 8 = .ok (.aload_n 0, 1) := by decide +kernel
theorem dX3_readNumber_9 : decode cX3_readNumber 9 = .ok (.getfield 107, 3) := by decide +kernel
theorem dX3_readNumber_12 : decode cX3_readNumber 12 = .ok (.iload_n 1, 1) := by decide +kernel
theorem dX3_readNumber_13 : decode cX3_readNumber 13 = .ok (.iload_n 2, 1) := by decide +kernel
theorem dX3_readNumber_14 : decode cX3_readNumber 14 = .ok (.invokestatic 110, 3) := by decide +kernel
theorem dX3_readNumber_17 : decode cX3_readNumber 17 = .ok (.ifCond .eq 11, 3) := by decide +kernel
theorem dX3_readNumber_20 : decode cX3_readNumber 20 = .ok (.aload_n 0, 1) := by decide +kernel
theorem dX3_readNumber_21 : decode cX3_readNumber 21 = .ok (.getfield 107, 3) := by decide +kernel
theorem dX3_readNumber_24 : decode cX3_readNumber 24 = .ok (.iload_n 3, 1) := by decide +kernel
theorem dX3_readNumber_25 : decode cX3_readNumber 25 = .ok (.if_icmp .ne 5, 3) := by decide +kernel
theorem dX3_readNumber_28 : decode cX3_readNumber 28 = .ok (.iconst (-1), 1) := by decide +kernel
theorem dX3_readNumber_29 : decode cX3_readNumber 29 = .ok (.ireturn, 1) := by decide +kernel
theorem dX3_readNumber_30 : decode cX3_readNumber 30 = .ok (.aload_n 0, 1) := by decide +kernel
theorem dX3_readNumber_31 : decode cX3_readNumber 31 = .ok (.getfield 107, 3) := by decide +kernel
theorem dX3_readNumber_34 : decode cX3_readNumber 34 = .ok (.istore 4, 2) := by decide +kernel
theorem dX3_readNumber_36 : decode cX3_readNumber 36 = .ok (.aload_n 0, 1) := by decide +kernel
theorem dX3_readNumber_37 : decode cX3_readNumber 37 = .ok (.invokevirtual 33, 3) := by decide +kernel
theorem dX3_readNumber_40 : decode cX3_readNumber 40 = .ok (.iload 4, 2) := by decide +kernel
theorem dX3_readNumber_42 : decode cX3_readNumber 42 = .ok (.ireturn, 1) := by decide +kernel
theorem dX3_readToken_0 : decode cX3_readToken 0 = .ok (.aload_n 0, 1) := by decide +kernel
theorem dX3_readToken_1 : decode cX3_readToken 1 = .ok (.getfield 55, 3) := by decide +kernel
theorem dX3_readToken_4 : decode cX3_readToken 4 = .ok (.aload_n 0, 1) := by decide +kernel
theorem dX3_readToken_5 : decode cX3_readToken 5 = .ok (.getfield 15, 3) := by decide +kernel
theorem dX3_readToken_8 : decode cX3_readToken 8 = .ok (.if_icmp .ge 30, 3) := by decide +kernel
theorem dX3_readToken_11 : decode cX3_readToken 11 = .ok (.aload_n 0, 1) := by decide +kernel
theorem dX3_readToken_12 : decode cX3_readToken 12 = .ok (.getfield 9, 3) := by decide +kernel
theorem dX3_readToken_15 : decode cX3_readToken 15 = .ok (.aload_n 0, 1) := by decide +kernel
theorem dX3_readToken_16 : decode cX3_readToken 16 = .ok (.getfield 55, 3) := by decide +kernel
theorem dX3_readToken_19 : decode cX3_readToken 19 = .ok (.iaload, 1) := by decide +kernel
theorem dX3_readToken_20 : decode cX3_readToken 20 = .ok (.bipush 32, 2) := by decide +kernel
theorem dX3_readToken_22 : decode cX3_readToken 22 = .ok (.if_icmp .ne 16, 3) := by decide +kernel
theorem dX3_readToken_25 : decode cX3_readToken 25 = .ok (.aload_n 0, 1) := by decide +kernel
theorem dX3_readToken_26 : decode cX3_readToken 26 = .ok (.dup, 1) := by decide +kernel
theorem dX3_readToken_27 : decode cX3_readToken 27 = .ok (.getfield 55, 3) := by decide +kernel
theorem dX3_readToken_30 : decode cX3_readToken 30 = .ok (.iconst 1, 1) := by decide +kernel
theorem dX3_readToken_31 : decode cX3_readToken 31 = .ok (.iadd, 1) := by decide +kernel
theorem dX3_readToken_32 : decode cX3_readToken 32 = .ok (.putfield 55, 3) := by decide +kernel
theorem dX3_readToken_35 : decode cX3_readToken 35 = .ok (.goto (-35), 3) := by decide +kernel
theorem dX3_readToken_38 : decode cX3_readToken 38 = .ok (.aload_n 0, 1) := by decide +kernel
theorem dX3_readToken_39 : decode cX3_readToken 39 = .ok (.aload_n 0, 1) := by decide +kernel
theorem dX3_readToken_40 : decode cX3_readToken 40 = .ok (.getfield 55, 3) := by decide +kernel
theorem dX3_readToken_43 : decode cX3_readToken 43 = .ok (.putfield 30, 3) := by decide +kernel
theorem dX3_readToken_46 : decode cX3_readToken 46 = .ok (.aload_n 0, 1) := by decide +kernel
theorem dX3_readToken_47 : decode cX3_readToken 47 = .ok (.invokevirtual 114, 3) := by decide +kernel
theorem dX3_readToken_50 : decode cX3_readToken 50 = .ok (.aload_n 0, 1) := by decide +kernel
theorem dX3_readToken_51 : decode cX3_readToken 51 = .ok (.getfield 55, 3) := by decide +kernel
theorem dX3_readToken_54 : decode cX3_readToken 54 = .ok (.aload_n 0, 1) := by decide +kernel
theorem dX3_readToken_55 : decode cX3_readToken 55 = .ok (.getfield 30, 3) := by decide +kernel
theorem dX3_readToken_58 : decode cX3_readToken 58 = .ok (.isub, 1) := by decide +kernel
theorem dX3_readToken_59 : decode cX3_readToken 59 = .ok (.istore_n 1, 1) := by decide +kernel
theorem dX3_readToken_60 : decode cX3_readToken 60 = .ok (.iload_n 1, 1) := by decide +kernel
theorem dX3_readToken_61 : decode cX3_readToken 61 = .ok (.ifCond .le 50, 3) := by decide +kernel
theorem dX3_readToken_64 : decode cX3_readToken 64 = .ok (.iload_n 1, 1) := by decide +kernel
theorem dX3_readToken_65 : decode cX3_readToken 65 = .ok (.iconst 1, 1) := by decide +kernel
theorem dX3_readToken_66 : decode cX3_readToken 66 = .ok (.if_icmp .le 21, 3) := by decide +kernel
theorem dX3_readToken_69 : decode cX3_readToken 69 = .ok (.aload_n 0, 1) := by decide +kernel
theorem dX3_readToken_70 : decode cX3_readToken 70 = .ok (.getfield 9, 3) := by decide +kernel
theorem dX3_readToken_73 : decode cX3_readToken 73 = .ok (.aload_n 0, 1) := by decide +kernel
theorem dX3_readToken_74 : decode cX3_readToken 74 = .ok (.getfield 30, 3) := by decide +kernel
theorem dX3_readToken_77 : decode cX3_readToken 77 = .ok (.iaload, 1) := by decide +kernel
theorem dX3_readToken_78 : decode cX3_readToken 78 = .ok (.bipush 48, 2) := by decide +kernel
theorem dX3_readToken_80 : decode cX3_readToken 80 = .ok (.if_icmp .ne 7, 3) := by decide +kernel
theorem dX3_readToken_83 : decode cX3_readToken 83 = .ok (.iconst 1, 1) := by decide +kernel
theorem dX3_readToken_84 : decode cX3_readToken 84 = .ok (.goto 4, 3) := by decide +kernel
theorem dX3_readToken_87 : decode cX3_readToken 87 = .ok (.iconst 0, 1) := by decide +kernel
theorem dX3_readToken_88 : decode cX3_readToken 88 = .ok (.istore_n 2, 1) := by decide +kernel
theorem dX3_readToken_89 : decode cX3_readToken 89 = .ok (.aload_n 0, 1) := by decide +kernel
theorem dX3_readToken_90 : decode cX3_readToken 90 = .ok (.iload_n 1, 1) := by decide +kernel
theorem dX3_readToken_91 : decode cX3_readToken 91 = .ok (.iconst 2, 1) := by decide +kernel
theorem dX3_readToken_92 : decode cX3_readToken 92 = .ok (.if_icmp .gt 7, 3) := by decide +kernel
theorem dX3_readToken_95 : decode cX3_readToken 95 = .ok (.iload_n 2, 1) := by decide +kernel
theorem dX3_readToken_96 : decode cX3_readToken 96 = .ok (.ifCond .eq 8, 3) := by decide +kernel
theorem dX3_readToken_99 : decode cX3_readToken 99 = .ok (.bipush (-3), 2) := by decide +kernel
theorem dX3_readToken_101 : decode cX3_readToken 101 = .ok (.goto 4, 3) := by decide +kernel
theorem dX3_readToken_104 : decode cX3_readToken 104 = .ok (.iconst (-1), 1) := by decide +kernel
theorem dX3_readToken_105 : decode cX3_readToken 105 = .ok (.putfield 23, 3) := by decide +kernel
theorem dX3_readToken_108 : decode cX3_readToken 108 = .ok (.goto 66, 3) := by decide +kernel
theorem dX3_readToken_111 : decode cX3_readToken 111 = .ok (.aload_n 0, 1) := by decide +kernel
theorem dX3_readToken_112 : decode cX3_readToken 112 = .ok (.getfield 55, 3) := by decide +kernel
theorem dX3_readToken_115 : decode cX3_readToken 115 = .ok (.aload_n 0, 1) := by decide +kernel
theorem dX3_readToken_116 : decode cX3_readToken 116 = .ok (.getfield 15, 3) := by decide +kernel
theorem dX3_readToken_119 : decode cX3_readToken 119 = .ok (.if_icmp .lt 12, 3) := by decide +kernel
theorem dX3_readToken_122 : decode cX3_readToken 122 = .ok (.aload_n 0, 1) := by decide +kernel
theorem dX3_readToken_123 : decode cX3_readToken 123 = .ok (.bipush (-2), 2) := by decide +kernel
theorem dX3_readToken_125 : decode cX3_readToken 125 = .ok (.putfield 23, 3) := by decide +kernel
theorem dX3_readToken_128 : decode cX3_readToken 128 = .ok (.goto 46, 3) := by decide +kernel
theorem dX3_readToken_131 : decode cX3_readToken 131 = .ok (.aload_n 0, 1) := by decide +kernel
theorem dX3_readToken_132 : decode cX3_readToken 132 = .ok (.aload_n 0, 1) := by decide +kernel
theorem dX3_readToken_133 : decode cX3_readToken 133 = .ok (.getfield 9, 3) := by decide +kernel
theorem dX3_readToken_136 : decode cX3_readToken 136 = .ok (.aload_n 0, 1) := by decide +kernel
theorem dX3_readToken_137 : decode cX3_readToken 137 = .ok (.getfield 55, 3) := by decide +kernel
theorem dX3_readToken_140 : decode cX3_readToken 140 = .ok (.iaload, 1) := by decide +kernel
theorem dX3_readToken_141 : decode cX3_readToken 141 = .ok (.invokestatic 117, 3) := by decide +kernel
theorem dX3_readToken_144 : decode cX3_readToken 144 = .ok (.ifCond .eq 15, 3) := by decide +kernel
theorem dX3_readToken_147 : decode cX3_readToken 147 = .ok (.aload_n 0, 1) := by decide +kernel
theorem dX3_readToken_148 : decode cX3_readToken 148 = .ok (.getfield 9, 3) := by decide +kernel
theorem dX3_readToken_151 : decode cX3_readToken 151 = .ok (.aload_n 0, 1) := by decide +kernel
theorem dX3_readToken_152 : decode cX3_readToken 152 = .ok (.getfield 55, 3) := by decide +kernel
theorem dX3_readToken_155 : decode cX3_readToken 155 = .ok (.iaload, 1) := by decide +kernel
theorem dX3_readToken_156 : decode cX3_readToken 156 = .ok (.goto 5, 3) := by decide +kernel
theorem dX3_readToken_159 : decode cX3_readToken 159 = .ok (.bipush (-3), 2) := by decide +kernel
theorem dX3_readToken_161 : decode cX3_readToken 161 = .ok (.putfield 23, 3) := by decide +kernel
theorem dX3_readToken_164 : decode cX3_readToken 164 = .ok (.aload_n 0, 1) := by decide +kernel
theorem dX3_readToken_165 : decode cX3_readToken 165 = .ok (.dup, 1) := by decide +kernel
theorem dX3_readToken_166 : decode cX3_readToken 166 = .ok (.getfield 55, 3) := by decide +kernel
theorem dX3_readToken_169 : decode cX3_readToken 169 = .ok (.iconst 1, 1) := by decide +kernel
theorem dX3_readToken_170 : decode cX3_readToken 170 = .ok (.iadd, 1) := by decide +kernel
theorem dX3_readToken_171 : decode cX3_readToken 171 = .ok (.putfield 55, 3) := by decide +kernel
theorem dX3_readToken_174 : decode cX3_readToken 174 = .ok (.return_, 1) := by decide +kernel
theorem dX3_readDigits_0 : decode cX3_readDigits 0 = .ok (.aload_n 0, 1) := by decide +kernel
theorem dX3_readDigits_1 : decode cX3_readDigits 1 = .ok (.iconst 0, 1) := by decide +kernel
theorem dX3_readDigits_2 : decode cX3_readDigits 2 = .ok (.putfield 107, 3) := by decide +kernel
theorem dX3_readDigits_5 : decode cX3_readDigits 5 = .ok (.aload_n 0, 1) := by decide +kernel
theorem dX3_readDigits_6 : decode cX3_readDigits 6 = .ok (.getfield 55, 3) := by decide +kernel
theorem dX3_readDigits_9 : decode cX3_readDigits 9 = .ok (.aload_n 0, 1) := by decide +kernel
theorem dX3_readDigits_10 : decode cX3_readDigits 10 = .ok (.getfield 15, 3) := by decide +kernel
theorem dX3_readDigits_13 : decode cX3_readDigits 13 = .ok (.if_icmp .ge 81, 3) := by decide +kernel
theorem dX3_readDigits_16 : decode cX3_readDigits 16 = .ok (.aload_n 0, 1) := by decide +kernel
theorem dX3_readDigits_17 : decode cX3_readDigits 17 = .ok (.getfield 9, 3) := by decide +kernel
theorem dX3_readDigits_20 : decode cX3_readDigits 20 = .ok (.aload_n 0, 1) := by decide +kernel
theorem dX3_readDigits_21 : decode cX3_readDigits 21 = .ok (.getfield 55, 3) := by decide +kernel
theorem dX3_readDigits_24 : decode cX3_readDigits 24 = .ok (.iaload, 1) := by decide +kernel
theorem dX3_readDigits_25 : decode cX3_readDigits 25 = .ok (.bipush 48, 2) := by decide +kernel
theorem dX3_readDigits_27 : decode cX3_readDigits 27 = .ok (.if_icmp .lt 67, 3) := by decide +kernel
theorem dX3_readDigits_30 : decode cX3_readDigits 30 = .ok (.aload_n 0, 1) := by decide +kernel
theorem dX3_readDigits_31 : decode cX3_readDigits 31 = .ok (.getfield 9, 3) := by decide +kernel
theorem dX3_readDigits_34 : decode cX3_readDigits 34 = .ok (.aload_n 0, 1) := by decide +kernel
theorem dX3_readDigits_35 : decode cX3_readDigits 35 = .ok (.getfield 55, 3) := by decide +kernel
theorem dX3_readDigits_38 : decode cX3_readDigits 38 = .ok (.iaload, 1) := by decide +kernel
theorem dX3_readDigits_39 : decode cX3_readDigits 39 = .ok (.bipush 57, 2) := by decide +kernel
theorem dX3_readDigits_41 : decode cX3_readDigits 41 = .ok (.if_icmp .gt 53, 3) := by decide +kernel
theorem dX3_readDigits_44 : decode cX3_readDigits 44 = .ok (.aload_n 0, 1) := by decide +kernel
theorem dX3_readDigits_45 : decode cX3_readDigits 45 = .ok (.getfield 55, 3) := by decide +kernel
theorem dX3_readDigits_48 : decode cX3_readDigits 48 = .ok (.aload_n 0, 1) := by decide +kernel
theorem dX3_readDigits_49 : decode cX3_readDigits 49 = .ok (.getfield 30, 3) := by decide +kernel
theorem dX3_readDigits_52 : decode cX3_readDigits 52 = .ok (.isub, 1) := by decide +kernel
theorem dX3_readDigits_53 : decode cX3_readDigits 53 = .ok (.iconst 2, 1) := by decide +kernel
theorem dX3_readDigits_54 : decode cX3_readDigits 54 = .ok (.if_icmp .ge 27, 3) := by decide +kernel
theorem dX3_readDigits_57 : decode cX3_readDigits 57 = .ok (.aload_n 0, 1) := by decide +kernel
theorem dX3_readDigits_58 : decode cX3_readDigits 58 = .ok (.aload_n 0, 1) := by decide +kernel
theorem dX3_readDigits_59 : decode cX3_readDigits 59 = .ok (.getfield 107, 3) := by decide +kernel
theorem dX3_readDigits_62 : decode cX3_readDigits 62 = .ok (.bipush 10, 2) := by decide +kernel
theorem dX3_readDigits_64 : decode cX3_readDigits 64 = .ok (.imul, 1) := by decide +kernel
theorem dX3_readDigits_65 : decode cX3_readDigits 65 = .ok (.aload_n 0, 1) := by decide +kernel
theorem dX3_readDigits_66 : decode cX3_readDigits 66 = .ok (.getfield 9, 3) := by decide +kernel
theorem dX3_readDigits_69 : decode cX3_readDigits 69 = .ok (.aload_n 0, 1) := by decide +kernel
theorem dX3_readDigits_70 : decode cX3_readDigits 70 = .ok (.getfield 55, 3) := by decide +kernel
theorem dX3_readDigits_73 : decode cX3_readDigits 73 = .ok (.iaload, 1) := by decide +kernel
theorem dX3_readDigits_74 : decode cX3_readDigits 74 = .ok (.iadd, 1) := by decide +kernel
theorem dX3_readDigits_75 : decode cX3_readDigits 75 = .ok (.bipush 48, 2) := by decide +kernel
theorem dX3_readDigits_77 : decode cX3_readDigits 77 = .ok (.isub, 1) := by decide +kernel
theorem dX3_readDigits_78 : decode cX3_readDigits 78 = .ok (.putfield 107, 3) := by decide +kernel
theorem dX3_readDigits_81 : decode cX3_readDigits 81 = .ok (.aload_n 0, 1) := by decide +kernel
theorem dX3_readDigits_82 : decode cX3_readDigits 82 = .ok (.dup, 1) := by decide +kernel
theorem dX3_readDigits_83 : decode cX3_readDigits 83 = .ok (.getfield 55, 3) := by decide +kernel
theorem dX3_readDigits_86 : decode cX3_readDigits 86 = .ok (.iconst 1, 1) := by decide +kernel
theorem dX3_readDigits_87 : decode cX3_readDigits 87 = .ok (.iadd, 1) := by decide +kernel
theorem dX3_readDigits_88 : decode cX3_readDigits 88 = .ok (.putfield 55, 3) := by decide +kernel
theorem dX3_readDigits_91 : decode cX3_readDigits 91 = .ok (.goto (-86), 3) := by decide +kernel
theorem dX3_readDigits_94 : decode cX3_readDigits 94 = .ok (.return_, 1) := by decide +kernel
theorem dX3_isTokenLetter_0 : decode cX3_isTokenLetter 0 = .ok (.iload_n 0, 1) := by decide +kernel
theorem dX3_isTokenLetter_1 : decode cX3_isTokenLetter 1 = .ok (.lookupswitch 69 #[(59, 67), (103, 67), (108, 67), (110, 67), (112, 67), (114, 67), (115, 67)], 67) := by decide +kernel
theorem dX3_isTokenLetter_68 : decode cX3_isTokenLetter 68 = .ok (.iconst 1, 1) := by decide +kernel
theorem dX3_isTokenLetter_69 : decode cX3_isTokenLetter 69 = .ok (.ireturn, 1) := by decide +kernel
theorem dX3_isTokenLetter_70 : decode cX3_isTokenLetter 70 = .ok (.iconst 0, 1) := by decide +kernel
theorem dX3_isTokenLetter_71 : decode cX3_isTokenLetter 71 = .ok (.ireturn, 1) := by decide +kernel
theorem dX4_init_0 : decode cX4_init 0 = .ok (.aload_n 0, 1) := by decide +kernel
theorem dX4_init_1 : decode cX4_init 1 = .ok (.invokespecial 3, 3) := by decide +kernel
theorem dX4_init_4 : decode cX4_init 4 = .ok (.aload_n 0, 1) := by decide +kernel
theorem dX4_init_5 : decode cX4_init 5 = .ok (.bipush 12, 2) := by decide +kernel
theorem dX4_init_7 : decode cX4_init 7 = .ok (.newarray .int, 2) := by decide +kernel
theorem dX4_init_9 : decode cX4_init 9 = .ok (.putfield 9, 3) := by decide +kernel
theorem dX4_init_12 : decode cX4_init 12 = .ok (.aload_n 0, 1) := by decide +kernel
theorem dX4_init_13 : decode cX4_init 13 = .ok (.bipush 12, 2) := by decide +kernel
theorem dX4_init_15 : decode cX4_init 15 = .ok (.newarray .int, 2) := by decide +kernel
theorem dX4_init_17 : decode cX4_init 17 = .ok (.putfield 15, 3) := by decide +kernel
theorem dX4_init_20 : decode cX4_init 20 = .ok (.aload_n 0, 1) := by decide +kernel
theorem dX4_init_21 : decode cX4_init 21 = .ok (.bipush 12, 2) := by decide +kernel
theorem dX4_init_23 : decode cX4_init 23 = .ok (.newarray .int, 2) := by decide +kernel
theorem dX4_init_25 : decode cX4_init 25 = .ok (.putfield 18, 3) := by decide +kernel
theorem dX4_init_28 : decode cX4_init 28 = .ok (.aload_n 0, 1) := by decide +kernel
theorem dX4_init_29 : decode cX4_init 29 = .ok (.bipush 12, 2) := by decide +kernel
theorem dX4_init_31 : decode cX4_init 31 = .ok (.newarray .int, 2) := by decide +kernel
theorem dX4_init_33 : decode cX4_init 33 = .ok (.putfield 21, 3) := by decide +kernel
theorem dX4_init_36 : decode cX4_init 36 = .ok (.aload_n 0, 1) := by decide +kernel
theorem dX4_init_37 : decode cX4_init 37 = .ok (.invokevirtual 24, 3) := by decide +kernel
theorem dX4_init_40 : decode cX4_init 40 = .ok (.return_, 1) := by decide +kernel
theorem dX4_beAsAtFirst_0 : decode cX4_beAsAtFirst 0 = .ok (.aload_n 0, 1) := by decide +kernel
theorem dX4_beAsAtFirst_1 : decode cX4_beAsAtFirst 1 = .ok (.iconst 2, 1) := by decide +kernel
theorem dX4_beAsAtFirst_2 : decode cX4_beAsAtFirst 2 = .ok (.putfield 27, 3) := by decide +kernel
theorem dX4_beAsAtFirst_5 : decode cX4_beAsAtFirst 5 = .ok (.aload_n 0, 1) := by decide +kernel
theorem dX4_beAsAtFirst_6 : decode cX4_beAsAtFirst 6 = .ok (.iconst 0, 1) := by decide +kernel
theorem dX4_beAsAtFirst_7 : decode cX4_beAsAtFirst 7 = .ok (.putfield 31, 3) := by decide +kernel
theorem dX4_beAsAtFirst_10 : decode cX4_beAsAtFirst 10 = .ok (.aload_n 0, 1) := by decide +kernel
theorem dX4_beAsAtFirst_11 : decode cX4_beAsAtFirst 11 = .ok (.iconst 0, 1) := by decide +kernel
theorem dX4_beAsAtFirst_12 : decode cX4_beAsAtFirst 12 = .ok (.putfield 34, 3) := by decide +kernel
theorem dX4_beAsAtFirst_15 : decode cX4_beAsAtFirst 15 = .ok (.aload_n 0, 1) := by decide +kernel
theorem dX4_beAsAtFirst_16 : decode cX4_beAsAtFirst 16 = .ok (.iconst 1, 1) := by decide +kernel
theorem dX4_beAsAtFirst_17 : decode cX4_beAsAtFirst 17 = .ok (.putfield 37, 3) := by decide +kernel
theorem dX4_beAsAtFirst_20 : decode cX4_beAsAtFirst 20 = .ok (.aload_n 0, 1) := by decide +kernel
theorem dX4_beAsAtFirst_21 : decode cX4_beAsAtFirst 21 = .ok (.iconst 2, 1) := by decide +kernel
theorem dX4_beAsAtFirst_22 : decode cX4_beAsAtFirst 22 = .ok (.putfield 40, 3) := by decide +kernel
theorem dX4_beAsAtFirst_25 : decode cX4_beAsAtFirst 25 = .ok (.aload_n 0, 1) := by decide +kernel
theorem dX4_beAsAtFirst_26 : decode cX4_beAsAtFirst 26 = .ok (.iconst 1, 1) := by decide +kernel
theorem dX4_beAsAtFirst_27 : decode cX4_beAsAtFirst 27 = .ok (.putfield 43, 3) := by decide +kernel
theorem dX4_beAsAtFirst_30 : decode cX4_beAsAtFirst 30 = .ok (.return_, 1) := by decide +kernel
theorem dX4_addRoad_0 : decode cX4_addRoad 0 = .ok (.aload_n 0, 1) := by decide +kernel
theorem dX4_addRoad_1 : decode cX4_addRoad 1 = .ok (.getfield 9, 3) := by decide +kernel
theorem dX4_addRoad_4 : decode cX4_addRoad 4 = .ok (.aload_n 0, 1) := by decide +kernel
theorem dX4_addRoad_5 : decode cX4_addRoad 5 = .ok (.getfield 31, 3) := by decide +kernel
theorem dX4_addRoad_8 : decode cX4_addRoad 8 = .ok (.iload_n 1, 1) := by decide +kernel
theorem dX4_addRoad_9 : decode cX4_addRoad 9 = .ok (.iastore, 1) := by decide +kernel
theorem dX4_addRoad_10 : decode cX4_addRoad 10 = .ok (.aload_n 0, 1) := by decide +kernel
theorem dX4_addRoad_11 : decode cX4_addRoad 11 = .ok (.getfield 15, 3) := by decide +kernel
theorem dX4_addRoad_14 : decode cX4_addRoad 14 = .ok (.aload_n 0, 1) := by decide +kernel
theorem dX4_addRoad_15 : decode cX4_addRoad 15 = .ok (.getfield 31, 3) := by decide +kernel
theorem dX4_addRoad_18 : decode cX4_addRoad 18 = .ok (.iload_n 2, 1) := by decide +kernel
theorem dX4_addRoad_19 : decode cX4_addRoad 19 = .ok (.iastore, 1) := by decide +kernel
theorem dX4_addRoad_20 : decode cX4_addRoad 20 = .ok (.aload_n 0, 1) := by decide +kernel
theorem dX4_addRoad_21 : decode cX4_addRoad 21 = .ok (.getfield 18, 3) := by decide +kernel
theorem dX4_addRoad_24 : decode cX4_addRoad 24 = .ok (.aload_n 0, 1) := by decide +kernel
theorem dX4_addRoad_25 : decode cX4_addRoad 25 = .ok (.getfield 31, 3) := by decide +kernel
theorem dX4_addRoad_28 : decode cX4_addRoad 28 = .ok (.iload_n 3, 1) := by decide +kernel
theorem dX4_addRoad_29 : decode cX4_addRoad 29 = .ok (.iastore, 1) := by decide +kernel
theorem dX4_addRoad_30 : decode cX4_addRoad 30 = .ok (.aload_n 0, 1) := by decide +kernel
theorem dX4_addRoad_31 : decode cX4_addRoad 31 = .ok (.getfield 21, 3) := by decide +kernel
theorem dX4_addRoad_34 : decode cX4_addRoad 34 = .ok (.aload_n 0, 1) := by decide +kernel
theorem dX4_addRoad_35 : decode cX4_addRoad 35 = .ok (.getfield 31, 3) := by decide +kernel
theorem dX4_addRoad_38 : decode cX4_addRoad 38 = .ok (.iconst 0, 1) := by decide +kernel
theorem dX4_addRoad_39 : decode cX4_addRoad 39 = .ok (.iastore, 1) := by decide +kernel
theorem dX4_addRoad_40 : decode cX4_addRoad 40 = .ok (.aload_n 0, 1) := by decide +kernel
theorem dX4_addRoad_41 : decode cX4_addRoad 41 = .ok (.dup, 1) := by decide +kernel
theorem dX4_addRoad_42 : decode cX4_addRoad 42 = .ok (.getfield 31, 3) := by decide +kernel
theorem dX4_addRoad_45 : decode cX4_addRoad 45 = .ok (.iconst 1, 1) := by decide +kernel
