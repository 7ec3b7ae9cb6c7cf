theorem dX6_shuts_26 : decode cX6_shuts 26 = .ok (.iload_n 1, 1) := by decide +kernel
theorem dX6_shuts_27 : decode cX6_shuts 27 = .ok (.invokevirtual 118, 3) := by decide +kernel
theorem dX6_shuts_30 : decode cX6_shuts 30 = .ok (.iload_n 2, 1) := by decide +kernel
theorem dX6_shuts_31 : decode cX6_shuts 31 = .ok (.iconst 1, 1) := by decide +kernel
theorem dX6_shuts_32 : decode cX6_shuts 32 = .ok (.if_icmp .ne 7, 3) := by decide +kernel
theorem dX6_shuts_35 : decode cX6_shuts 35 = .ok (.iconst 1, 1) := by decide +kernel
theorem dX6_shuts_36 : decode cX6_shuts 36 = .ok (.goto 4, 3) := by decide +kernel
theorem dX6_shuts_39 : decode cX6_shuts 39 = .ok (.iconst 0, 1) := by decide +kernel
theorem dX6_shuts_40 : decode cX6_shuts 40 = .ok (.if_icmp .ne 6, 3) := by decide +kernel
theorem dX6_shuts_43 : decode cX6_shuts 43 = .ok (.bipush (-2), 2) := by decide +kernel
theorem dX6_shuts_45 : decode cX6_shuts 45 = .ok (.ireturn, 1) := by decide +kernel
theorem dX6_shuts_46 : decode cX6_shuts 46 = .ok (.aload_n 0, 1) := by decide +kernel
theorem dX6_shuts_47 : decode cX6_shuts 47 = .ok (.getfield 36, 3) := by decide +kernel
theorem dX6_shuts_50 : decode cX6_shuts 50 = .ok (.aload_n 0, 1) := by decide +kernel
theorem dX6_shuts_51 : decode cX6_shuts 51 = .ok (.getfield 29, 3) := by decide +kernel
theorem dX6_shuts_54 : decode cX6_shuts 54 = .ok (.invokevirtual 157, 3) := by decide +kernel
theorem dX6_shuts_57 : decode cX6_shuts 57 = .ok (.aload_n 0, 1) := by decide +kernel
theorem dX6_shuts_58 : decode cX6_shuts 58 = .ok (.getfield 29, 3) := by decide +kernel
theorem dX6_shuts_61 : decode cX6_shuts 61 = .ok (.dup, 1) := by decide +kernel
theorem dX6_shuts_62 : decode cX6_shuts 62 = .ok (.getfield 145, 3) := by decide +kernel
theorem dX6_shuts_65 : decode cX6_shuts 65 = .ok (.iconst 1, 1) := by decide +kernel
theorem dX6_shuts_66 : decode cX6_shuts 66 = .ok (.iload_n 1, 1) := by decide +kernel
theorem dX6_shuts_67 : decode cX6_shuts 67 = .ok (.ishl, 1) := by decide +kernel
theorem dX6_shuts_68 : decode cX6_shuts 68 = .ok (.ixor, 1) := by decide +kernel
theorem dX6_shuts_69 : decode cX6_shuts 69 = .ok (.putfield 145, 3) := by decide +kernel
theorem dX6_shuts_72 : decode cX6_shuts 72 = .ok (.aload_n 0, 1) := by decide +kernel
theorem dX6_shuts_73 : decode cX6_shuts 73 = .ok (.getfield 29, 3) := by decide +kernel
theorem dX6_shuts_76 : decode cX6_shuts 76 = .ok (.getfield 145, 3) := by decide +kernel
theorem dX6_shuts_79 : decode cX6_shuts 79 = .ok (.invokestatic 167, 3) := by decide +kernel
theorem dX6_shuts_82 : decode cX6_shuts 82 = .ok (.ireturn, 1) := by decide +kernel
theorem dX6_undo_0 : decode cX6_undo 0 = .ok (.aload_n 0, 1) := by decide +kernel
theorem dX6_undo_1 : decode cX6_undo 1 = .ok (.getfield 36, 3) := by decide +kernel
theorem dX6_undo_4 : decode cX6_undo 4 = .ok (.aload_n 0, 1) := by decide +kernel
theorem dX6_undo_5 : decode cX6_undo 5 = .ok (.getfield 29, 3) := by decide +kernel
theorem dX6_undo_8 : decode cX6_undo 8 = .ok (.invokevirtual 172, 3) := by decide +kernel
theorem dX6_undo_11 : decode cX6_undo 11 = .ok (.ifCond .eq 13, 3) := by decide +kernel
theorem dX6_undo_14 : decode cX6_undo 14 = .ok (.aload_n 0, 1) := by decide +kernel
theorem dX6_undo_15 : decode cX6_undo 15 = .ok (.getfield 36, 3) := by decide +kernel
theorem dX6_undo_18 : decode cX6_undo 18 = .ok (.invokevirtual 148, 3) := by decide +kernel
theorem dX6_undo_21 : decode cX6_undo 21 = .ok (.goto 5, 3) := by decide +kernel
theorem dX6_undo_24 : decode cX6_undo 24 = .ok (.bipush (-2), 2) := by decide +kernel
theorem dX6_undo_26 : decode cX6_undo 26 = .ok (.ireturn, 1) := by decide +kernel
theorem dX6_way_0 : decode cX6_way 0 = .ok (.iload_n 1, 1) := by decide +kernel
theorem dX6_way_1 : decode cX6_way 1 = .ok (.bipush (-2), 2) := by decide +kernel
theorem dX6_way_3 : decode cX6_way 3 = .ok (.if_icmp .ge 5, 3) := by decide +kernel
theorem dX6_way_6 : decode cX6_way 6 = .ok (.iconst (-1), 1) := by decide +kernel
theorem dX6_way_7 : decode cX6_way 7 = .ok (.ireturn, 1) := by decide +kernel
theorem dX6_way_8 : decode cX6_way 8 = .ok (.aload_n 0, 1) := by decide +kernel
theorem dX6_way_9 : decode cX6_way 9 = .ok (.getfield 43, 3) := by decide +kernel
theorem dX6_way_12 : decode cX6_way 12 = .ok (.aload_n 0, 1) := by decide +kernel
theorem dX6_way_13 : decode cX6_way 13 = .ok (.getfield 19, 3) := by decide +kernel
theorem dX6_way_16 : decode cX6_way 16 = .ok (.aload_n 0, 1) := by decide +kernel
theorem dX6_way_17 : decode cX6_way 17 = .ok (.getfield 29, 3) := by decide +kernel
theorem dX6_way_20 : decode cX6_way 20 = .ok (.invokevirtual 176, 3) := by decide +kernel
theorem dX6_way_23 : decode cX6_way 23 = .ok (.aload_n 0, 1) := by decide +kernel
theorem dX6_way_24 : decode cX6_way 24 = .ok (.getfield 43, 3) := by decide +kernel
theorem dX6_way_27 : decode cX6_way 27 = .ok (.aload_n 0, 1) := by decide +kernel
theorem dX6_way_28 : decode cX6_way 28 = .ok (.getfield 29, 3) := by decide +kernel
theorem dX6_way_31 : decode cX6_way 31 = .ok (.getfield 133, 3) := by decide +kernel
theorem dX6_way_34 : decode cX6_way 34 = .ok (.aload_n 0, 1) := by decide +kernel
theorem dX6_way_35 : decode cX6_way 35 = .ok (.getfield 29, 3) := by decide +kernel
theorem dX6_way_38 : decode cX6_way 38 = .ok (.getfield 136, 3) := by decide +kernel
theorem dX6_way_41 : decode cX6_way 41 = .ok (.invokevirtual 180, 3) := by decide +kernel
theorem dX6_way_44 : decode cX6_way 44 = .ok (.istore_n 2, 1) := by decide +kernel
theorem dX6_way_45 : decode cX6_way 45 = .ok (.iload_n 2, 1) := by decide +kernel
theorem dX6_way_46 : decode cX6_way 46 = .ok (.bipush (-9), 2) := by decide +kernel
theorem dX6_way_48 : decode cX6_way 48 = .ok (.if_icmp .eq 8, 3) := by decide +kernel
theorem dX6_way_51 : decode cX6_way 51 = .ok (.iload_n 1, 1) := by decide +kernel
theorem dX6_way_52 : decode cX6_way 52 = .ok (.iconst (-1), 1) := by decide +kernel
theorem dX6_way_53 : decode cX6_way 53 = .ok (.if_icmp .ne 5, 3) := by decide +kernel
theorem dX6_way_56 : decode cX6_way 56 = .ok (.iload_n 2, 1) := by decide +kernel
theorem dX6_way_57 : decode cX6_way 57 = .ok (.ireturn, 1) := by decide +kernel
theorem dX6_way_58 : decode cX6_way 58 = .ok (.iload_n 1, 1) := by decide +kernel
theorem dX6_way_59 : decode cX6_way 59 = .ok (.bipush (-2), 2) := by decide +kernel
theorem dX6_way_61 : decode cX6_way 61 = .ok (.if_icmp .ne 11, 3) := by decide +kernel
theorem dX6_way_64 : decode cX6_way 64 = .ok (.aload_n 0, 1) := by decide +kernel
theorem dX6_way_65 : decode cX6_way 65 = .ok (.getfield 43, 3) := by decide +kernel
theorem dX6_way_68 : decode cX6_way 68 = .ok (.getfield 183, 3) := by decide +kernel
theorem dX6_way_71 : decode cX6_way 71 = .ok (.ireturn, 1) := by decide +kernel
theorem dX6_way_72 : decode cX6_way 72 = .ok (.iload_n 1, 1) := by decide +kernel
theorem dX6_way_73 : decode cX6_way 73 = .ok (.aload_n 0, 1) := by decide +kernel
theorem dX6_way_74 : decode cX6_way 74 = .ok (.getfield 43, 3) := by decide +kernel
theorem dX6_way_77 : decode cX6_way 77 = .ok (.getfield 186, 3) := by decide +kernel
theorem dX6_way_80 : decode cX6_way 80 = .ok (.if_icmp .ge 15, 3) := by decide +kernel
theorem dX6_way_83 : decode cX6_way 83 = .ok (.aload_n 0, 1) := by decide +kernel
theorem dX6_way_84 : decode cX6_way 84 = .ok (.getfield 43, 3) := by decide +kernel
theorem dX6_way_87 : decode cX6_way 87 = .ok (.getfield 189, 3) := by decide +kernel
theorem dX6_way_90 : decode cX6_way 90 = .ok (.iload_n 1, 1) := by decide +kernel
theorem dX6_way_91 : decode cX6_way 91 = .ok (.iaload, 1) := by decide +kernel
theorem dX6_way_92 : decode cX6_way 92 = .ok (.goto 5, 3) := by decide +kernel
theorem dX6_way_95 : decode cX6_way 95 = .ok (.bipush (-5), 2) := by decide +kernel
theorem dX6_way_97 : decode cX6_way 97 = .ok (.ireturn, 1) := by decide +kernel
theorem dX6_round_0 : decode cX6_round 0 = .ok (.aload_n 0, 1) := by decide +kernel
theorem dX6_round_1 : decode cX6_round 1 = .ok (.getfield 43, 3) := by decide +kernel
theorem dX6_round_4 : decode cX6_round 4 = .ok (.aload_n 0, 1) := by decide +kernel
theorem dX6_round_5 : decode cX6_round 5 = .ok (.getfield 19, 3) := by decide +kernel
theorem dX6_round_8 : decode cX6_round 8 = .ok (.aload_n 0, 1) := by decide +kernel
theorem dX6_round_9 : decode cX6_round 9 = .ok (.getfield 29, 3) := by decide +kernel
theorem dX6_round_12 : decode cX6_round 12 = .ok (.invokevirtual 176, 3) := by decide +kernel
theorem dX6_round_15 : decode cX6_round 15 = .ok (.aload_n 0, 1) := by decide +kernel
theorem dX6_round_16 : decode cX6_round 16 = .ok (.getfield 29, 3) := by decide +kernel
theorem dX6_round_19 : decode cX6_round 19 = .ok (.getfield 133, 3) := by decide +kernel
theorem dX6_round_22 : decode cX6_round 22 = .ok (.aload_n 0, 1) := by decide +kernel
theorem dX6_round_23 : decode cX6_round 23 = .ok (.getfield 19, 3) := by decide +kernel
theorem dX6_round_26 : decode cX6_round 26 = .ok (.getfield 192, 3) := by decide +kernel
theorem dX6_round_29 : decode cX6_round 29 = .ok (.if_icmp .ne 6, 3) := by decide +kernel
theorem dX6_round_32 : decode cX6_round 32 = .ok (.bipush (-9), 2) := by decide +kernel
theorem dX6_round_34 : decode cX6_round 34 = .ok (.ireturn, 1) := by decide +kernel
theorem dX6_round_35 : decode cX6_round 35 = .ok (.aload_n 0, 1) := by decide +kernel
theorem dX6_round_36 : decode cX6_round 36 = .ok (.getfield 43, 3) := by decide +kernel
theorem dX6_round_39 : decode cX6_round 39 = .ok (.aload_n 0, 1) := by decide +kernel
theorem dX6_round_40 : decode cX6_round 40 = .ok (.getfield 29, 3) := by decide +kernel
theorem dX6_round_43 : decode cX6_round 43 = .ok (.getfield 133, 3) := by decide +kernel
theorem dX6_round_46 : decode cX6_round 46 = .ok (.aload_n 0, 1) := by decide +kernel
theorem dX6_round_47 : decode cX6_round 47 = .ok (.getfield 29, 3) := by decide +kernel
theorem dX6_round_50 : decode cX6_round 50 = .ok (.getfield 136, 3) := by decide +kernel
theorem dX6_round_53 : decode cX6_round 53 = .ok (.invokevirtual 195, 3) := by decide +kernel
theorem dX6_round_56 : decode cX6_round 56 = .ok (.istore_n 1, 1) := by decide +kernel
theorem dX6_round_57 : decode cX6_round 57 = .ok (.iload_n 1, 1) := by decide +kernel
theorem dX6_round_58 : decode cX6_round 58 = .ok (.bipush (-9), 2) := by decide +kernel
theorem dX6_round_60 : decode cX6_round 60 = .ok (.if_icmp .ne 6, 3) := by decide +kernel
theorem dX6_round_63 : decode cX6_round 63 = .ok (.bipush (-9), 2) := by decide +kernel
theorem dX6_round_65 : decode cX6_round 65 = .ok (.ireturn, 1) := by decide +kernel
theorem dX6_round_66 : decode cX6_round 66 = .ok (.iload_n 1, 1) := by decide +kernel
theorem dX6_round_67 : decode cX6_round 67 = .ok (.aload_n 0, 1) := by decide +kernel
theorem dX6_round_68 : decode cX6_round 68 = .ok (.getfield 29, 3) := by decide +kernel
theorem dX6_round_71 : decode cX6_round 71 = .ok (.getfield 136, 3) := by decide +kernel
theorem dX6_round_74 : decode cX6_round 74 = .ok (.if_icmp .ne 7, 3) := by decide +kernel
theorem dX6_round_77 : decode cX6_round 77 = .ok (.iconst 1, 1) := by decide +kernel
theorem dX6_round_78 : decode cX6_round 78 = .ok (.goto 4, 3) := by decide +kernel
theorem dX6_round_81 : decode cX6_round 81 = .ok (.iconst 0, 1) := by decide +kernel
theorem dX6_round_82 : decode cX6_round 82 = .ok (.ireturn, 1) := by decide +kernel
theorem dX6_on_0 : decode cX6_on 0 = .ok (.aload_n 0, 1) := by decide +kernel
theorem dX6_on_1 : decode cX6_on 1 = .ok (.getfield 19, 3) := by decide +kernel
theorem dX6_on_4 : decode cX6_on 4 = .ok (.iload_n 1, 1) := by decide +kernel
theorem dX6_on_5 : decode cX6_on 5 = .ok (.invokevirtual 102, 3) := by decide +kernel
theorem dX6_on_8 : decode cX6_on 8 = .ok (.ifCond .eq 18, 3) := by decide +kernel
theorem dX6_on_11 : decode cX6_on 11 = .ok (.aload_n 0, 1) := by decide +kernel
theorem dX6_on_12 : decode cX6_on 12 = .ok (.iload_n 1, 1) := by decide +kernel
theorem dX6_on_13 : decode cX6_on 13 = .ok (.aload_n 0, 1) := by decide +kernel
theorem dX6_on_14 : decode cX6_on 14 = .ok (.getfield 29, 3) := by decide +kernel
theorem dX6_on_17 : decode cX6_on 17 = .ok (.getfield 133, 3) := by decide +kernel
theorem dX6_on_20 : decode cX6_on 20 = .ok (.invokevirtual 149, 3) := by decide +kernel
theorem dX6_on_23 : decode cX6_on 23 = .ok (.ifCond .ne 5, 3) := by decide +kernel
theorem dX6_on_26 : decode cX6_on 26 = .ok (.iconst (-1), 1) := by decide +kernel
theorem dX6_on_27 : decode cX6_on 27 = .ok (.ireturn, 1) := by decide +kernel
theorem dX6_on_28 : decode cX6_on 28 = .ok (.aload_n 0, 1) := by decide +kernel
theorem dX6_on_29 : decode cX6_on 29 = .ok (.getfield 43, 3) := by decide +kernel
theorem dX6_on_32 : decode cX6_on 32 = .ok (.aload_n 0, 1) := by decide +kernel
theorem dX6_on_33 : decode cX6_on 33 = .ok (.getfield 19, 3) := by decide +kernel
theorem dX6_on_36 : decode cX6_on 36 = .ok (.aload_n 0, 1) := by decide +kernel
theorem dX6_on_37 : decode cX6_on 37 = .ok (.getfield 29, 3) := by decide +kernel
theorem dX6_on_40 : decode cX6_on 40 = .ok (.invokevirtual 176, 3) := by decide +kernel
theorem dX6_on_43 : decode cX6_on 43 = .ok (.aload_n 0, 1) := by decide +kernel
theorem dX6_on_44 : decode cX6_on 44 = .ok (.getfield 43, 3) := by decide +kernel
theorem dX6_on_47 : decode cX6_on 47 = .ok (.iload_n 1, 1) := by decide +kernel
theorem dX6_on_48 : decode cX6_on 48 = .ok (.aload_n 0, 1) := by decide +kernel
theorem dX6_on_49 : decode cX6_on 49 = .ok (.getfield 29, 3) := by decide +kernel
theorem dX6_on_52 : decode cX6_on 52 = .ok (.getfield 133, 3) := by decide +kernel
theorem dX6_on_55 : decode cX6_on 55 = .ok (.aload_n 0, 1) := by decide +kernel
theorem dX6_on_56 : decode cX6_on 56 = .ok (.getfield 29, 3) := by decide +kernel
theorem dX6_on_59 : decode cX6_on 59 = .ok (.getfield 136, 3) := by decide +kernel
theorem dX6_on_62 : decode cX6_on 62 = .ok (.invokevirtual 198, 3) := by decide +kernel
theorem dX6_on_65 : decode cX6_on 65 = .ok (.ireturn, 1) := by decide +kernel
theorem dX6_worst_0 : decode cX6_worst 0 = .ok (.iload_n 1, 1) := by decide +kernel
theorem dX6_worst_1 : decode cX6_worst 1 = .ok (.iconst 0, 1) := by decide +kernel
theorem dX6_worst_2 : decode cX6_worst 2 = .ok (.iconst 1, 1) := by decide +kernel
theorem dX6_worst_3 : decode cX6_worst 3 = .ok (.invokestatic 80, 3) := by decide +kernel
theorem dX6_worst_6 : decode cX6_worst 6 = .ok (.ifCond .ne 5, 3) := by decide +kernel
theorem dX6_worst_9 : decode cX6_worst 9 = .ok (.iconst (-1), 1) := by decide +kernel
theorem dX6_worst_10 : decode cX6_worst 10 = .ok (.ireturn, 1) := by decide +kernel
theorem dX6_worst_11 : decode cX6_worst 11 = .ok (.aload_n 0, 1) := by decide +kernel
theorem dX6_worst_12 : decode cX6_worst 12 = .ok (.getfield 43, 3) := by decide +kernel
theorem dX6_worst_15 : decode cX6_worst 15 = .ok (.aload_n 0, 1) := by decide +kernel
theorem dX6_worst_16 : decode cX6_worst 16 = .ok (.getfield 19, 3) := by decide +kernel
theorem dX6_worst_19 : decode cX6_worst 19 = .ok (.aload_n 0, 1) := by decide +kernel
theorem dX6_worst_20 : decode cX6_worst 20 = .ok (.getfield 29, 3) := by decide +kernel
theorem dX6_worst_23 : decode cX6_worst 23 = .ok (.invokevirtual 176, 3) := by decide +kernel
theorem dX6_worst_26 : decode cX6_worst 26 = .ok (.aload_n 0, 1) := by decide +kernel
theorem dX6_worst_27 : decode cX6_worst 27 = .ok (.getfield 43, 3) := by decide +kernel
theorem dX6_worst_30 : decode cX6_worst 30 = .ok (.aload_n 0, 1) := by decide +kernel
theorem dX6_worst_31 : decode cX6_worst 31 = .ok (.getfield 29, 3) := by decide +kernel
theorem dX6_worst_34 : decode cX6_worst 34 = .ok (.getfield 133, 3) := by decide +kernel
theorem dX6_worst_37 : decode cX6_worst 37 = .ok (.aload_n 0, 1) := by decide +kernel
theorem dX6_worst_38 : decode cX6_worst 38 = .ok (.getfield 29, 3) := by decide +kernel
theorem dX6_worst_41 : decode cX6_worst 41 = .ok (.getfield 136, 3) := by decide +kernel
theorem dX6_worst_44 : decode cX6_worst 44 = .ok (.invokevirtual 202, 3) := by decide +kernel
theorem dX6_worst_47 : decode cX6_worst 47 = .ok (.bipush (-9), 2) := by decide +kernel
theorem dX6_worst_49 : decode cX6_worst 49 = .ok (.if_icmp .ne 6, 3) := by decide +kernel
theorem dX6_worst_52 : decode cX6_worst 52 = .ok (.bipush (-9), 2) := by decide +kernel
theorem dX6_worst_54 : decode cX6_worst 54 = .ok (.ireturn, 1) := by decide +kernel
theorem dX6_worst_55 : decode cX6_worst 55 = .ok (.aload_n 0, 1) := by decide +kernel
theorem dX6_worst_56 : decode cX6_worst 56 = .ok (.invokevirtual 130, 3) := by decide +kernel
theorem dX6_worst_59 : decode cX6_worst 59 = .ok (.istore_n 2, 1) := by decide +kernel
theorem dX6_worst_60 : decode cX6_worst 60 = .ok (.bipush (-9), 2) := by decide +kernel
theorem dX6_worst_62 : decode cX6_worst 62 = .ok (.istore_n 3, 1) := by decide +kernel
theorem dX6_worst_63 : decode cX6_worst 63 = .ok (.iconst 0, 1) := by decide +kernel
theorem dX6_worst_64 : decode cX6_worst 64 = .ok (.istore 4, 2) := by decide +kernel
theorem dX6_worst_66 : decode cX6_worst 66 = .ok (.iconst 0, 1) := by decide +kernel
theorem dX6_worst_67 : decode cX6_worst 67 = .ok (.istore 5, 2) := by decide +kernel
theorem dX6_worst_69 : decode cX6_worst 69 = .ok (.iload 5, 2) := by decide +kernel
theorem dX6_worst_71 : decode cX6_worst 71 = .ok (.aload_n 0, 1) := by decide +kernel
theorem dX6_worst_72 : decode cX6_worst 72 = .ok (.getfield 19, 3) := by decide +kernel
theorem dX6_worst_75 : decode cX6_worst 75 = .ok (.getfield 205, 3) := by decide +kernel
theorem dX6_worst_78 : decode cX6_worst 78 = .ok (.if_icmp .ge 90, 3) := by decide +kernel
theorem dX6_worst_81 : decode cX6_worst 81 = .ok (.iload 4, 2) := by decide +kernel
theorem dX6_worst_83 : decode cX6_worst 83 = .ok (.bipush (-9), 2) := by decide +kernel
theorem dX6_worst_85 : decode cX6_worst 85 = .ok (.if_icmp .eq 83, 3) := by decide +kernel
theorem dX6_worst_88 : decode cX6_worst 88 = .ok (.iload_n 2, 1) := by decide +kernel
theorem dX6_worst_89 : decode cX6_worst 89 = .ok (.iload 5, 2) := by decide +kernel
theorem dX6_worst_91 : decode cX6_worst 91 = .ok (.invokestatic 208, 3) := by decide +kernel
theorem dX6_worst_94 : decode cX6_worst 94 = .ok (.ifCond .eq 68, 3) := by decide +kernel
theorem dX6_worst_97 : decode cX6_worst 97 = .ok (.aload_n 0, 1) := by decide +kernel
theorem dX6_worst_98 : decode cX6_worst 98 = .ok (.getfield 43, 3) := by decide +kernel
theorem dX6_worst_101 : decode cX6_worst 101 = .ok (.iload_n 2, 1) := by decide +kernel
theorem dX6_worst_102 : decode cX6_worst 102 = .ok (.iconst 1, 1) := by decide +kernel
theorem dX6_worst_103 : decode cX6_worst 103 = .ok (.iload 5, 2) := by decide +kernel
theorem dX6_worst_105 : decode cX6_worst 105 = .ok (.ishl, 1) := by decide +kernel
theorem dX6_worst_106 : decode cX6_worst 106 = .ok (.iconst (-1), 1) := by decide +kernel
theorem dX6_worst_107 : decode cX6_worst 107 = .ok (.ixor, 1) := by decide +kernel
theorem dX6_worst_108 : decode cX6_worst 108 = .ok (.iand, 1) := by decide +kernel
theorem dX6_worst_109 : decode cX6_worst 109 = .ok (.invokevirtual 211, 3) := by decide +kernel
theorem dX6_worst_112 : decode cX6_worst 112 = .ok (.aload_n 0, 1) := by decide +kernel
theorem dX6_worst_113 : decode cX6_worst 113 = .ok (.getfield 43, 3) := by decide +kernel
theorem dX6_worst_116 : decode cX6_worst 116 = .ok (.aload_n 0, 1) := by decide +kernel
theorem dX6_worst_117 : decode cX6_worst 117 = .ok (.getfield 29, 3) := by decide +kernel
theorem dX6_worst_120 : decode cX6_worst 120 = .ok (.getfield 133, 3) := by decide +kernel
theorem dX6_worst_123 : decode cX6_worst 123 = .ok (.aload_n 0, 1) := by decide +kernel
theorem dX6_worst_124 : decode cX6_worst 124 = .ok (.getfield 29, 3) := by decide +kernel
theorem dX6_worst_127 : decode cX6_worst 127 = .ok (.getfield 136, 3) := by decide +kernel
theorem dX6_worst_130 : decode cX6_worst 130 = .ok (.invokevirtual 202, 3) := by decide +kernel
theorem dX6_worst_133 : decode cX6_worst 133 = .ok (.istore 6, 2) := by decide +kernel
theorem dX6_worst_135 : decode cX6_worst 135 = .ok (.iload_n 3, 1) := by decide +kernel
theorem dX6_worst_136 : decode cX6_worst 136 = .ok (.bipush (-9), 2) := by decide +kernel
theorem dX6_worst_138 : decode cX6_worst 138 = .ok (.if_icmp .eq 17, 3) := by decide +kernel
theorem dX6_worst_141 : decode cX6_worst 141 = .ok (.iload 6, 2) := by decide +kernel
theorem dX6_worst_143 : decode cX6_worst 143 = .ok (.bipush (-9), 2) := by decide +kernel
theorem dX6_worst_145 : decode cX6_worst 145 = .ok (.if_icmp .eq 10, 3) := by decide +kernel
theorem dX6_worst_148 : decode cX6_worst 148 = .ok (.iload 6, 2) := by decide +kernel
theorem dX6_worst_150 : decode cX6_worst 150 = .ok (.iload 4, 2) := by decide +kernel
theorem dX6_worst_152 : decode cX6_worst 152 = .ok (.if_icmp .le 10, 3) := by decide +kernel
theorem dX6_worst_155 : decode cX6_worst 155 = .ok (.iload 5, 2) := by decide +kernel
theorem dX6_worst_157 : decode cX6_worst 157 = .ok (.istore_n 3, 1) := by decide +kernel
theorem dX6_worst_158 : decode cX6_worst 158 = .ok (.iload 6, 2) := by decide +kernel
theorem dX6_worst_160 : decode cX6_worst 160 = .ok (.istore 4, 2) := by decide +kernel
theorem dX6_worst_162 : decode cX6_worst 162 = .ok (.iinc 5 1, 3) := by decide +kernel
theorem dX6_worst_165 : decode cX6_worst 165 = .ok (.goto (-96), 3) := by decide +kernel
theorem dX6_worst_168 : decode cX6_worst 168 = .ok (.iload_n 3, 1) := by decide +kernel
theorem dX6_worst_169 : decode cX6_worst 169 = .ok (.bipush (-9), 2) := by decide +kernel
theorem dX6_worst_171 : decode cX6_worst 171 = .ok (.if_icmp .eq 7, 3) := by decide +kernel
theorem dX6_worst_174 : decode cX6_worst 174 = .ok (.iload_n 1, 1) := by decide +kernel
theorem dX6_worst_175 : decode cX6_worst 175 = .ok (.ifCond .ne 5, 3) := by decide +kernel
theorem dX6_worst_178 : decode cX6_worst 178 = .ok (.iload_n 3, 1) := by decide +kernel
theorem dX6_worst_179 : decode cX6_worst 179 = .ok (.ireturn, 1) := by decide +kernel
theorem dX6_worst_180 : decode cX6_worst 180 = .ok (.iload 4, 2) := by decide +kernel
theorem dX6_worst_182 : decode cX6_worst 182 = .ok (.bipush (-9), 2) := by decide +kernel
theorem dX6_worst_184 : decode cX6_worst 184 = .ok (.if_icmp .ne 8, 3) := by decide +kernel
theorem dX6_worst_187 : decode cX6_worst 187 = .ok (.bipush (-5), 2) := by decide +kernel
theorem dX6_worst_189 : decode cX6_worst 189 = .ok (.goto 5, 3) := by decide +kernel
theorem dX6_worst_192 : decode cX6_worst 192 = .ok (.iload 4, 2) := by decide +kernel
theorem dX6_worst_194 : decode cX6_worst 194 = .ok (.ireturn, 1) := by decide +kernel
theorem dX6_plans_0 : decode cX6_plans 0 = .ok (.aload_n 0, 1) := by decide +kernel
theorem dX6_plans_1 : decode cX6_plans 1 = .ok (.getfield 19, 3) := by decide +kernel
theorem dX6_plans_4 : decode cX6_plans 4 = .ok (.iload_n 1, 1) := by decide +kernel
theorem dX6_plans_5 : decode cX6_plans 5 = .ok (.invokevirtual 102, 3) := by decide +kernel
theorem dX6_plans_8 : decode cX6_plans 8 = .ok (.ifCond .ne 5, 3) := by decide +kernel
theorem dX6_plans_11 : decode cX6_plans 11 = .ok (.iconst (-1), 1) := by decide +kernel
theorem dX6_plans_12 : decode cX6_plans 12 = .ok (.ireturn, 1) := by decide +kernel
theorem dX6_plans_13 : decode cX6_plans 13 = .ok (.aload_n 0, 1) := by decide +kernel
theorem dX6_plans_14 : decode cX6_plans 14 = .ok (.getfield 214, 3) := by decide +kernel
theorem dX6_plans_17 : decode cX6_plans 17 = .ok (.bipush 8, 2) := by decide +kernel
theorem dX6_plans_19 : decode cX6_plans 19 = .ok (.if_icmp .lt 6, 3) := by decide +kernel
theorem dX6_plans_22 : decode cX6_plans 22 = .ok (.bipush (-3), 2) := by decide +kernel
theorem dX6_plans_24 : decode cX6_plans 24 = .ok (.ireturn, 1) := by decide +kernel
theorem dX6_plans_25 : decode cX6_plans 25 = .ok (.aload_n 0, 1) := by decide +kernel
theorem dX6_plans_26 : decode cX6_plans 26 = .ok (.getfield 54, 3) := by decide +kernel
theorem dX6_plans_29 : decode cX6_plans 29 = .ok (.aload_n 0, 1) := by decide +kernel
theorem dX6_plans_30 : decode cX6_plans 30 = .ok (.getfield 214, 3) := by decide +kernel
theorem dX6_plans_33 : decode cX6_plans 33 = .ok (.iload_n 1, 1) := by decide +kernel
theorem dX6_plans_34 : decode cX6_plans 34 = .ok (.iastore, 1) := by decide +kernel
theorem dX6_plans_35 : decode cX6_plans 35 = .ok (.aload_n 0, 1) := by decide +kernel
theorem dX6_plans_36 : decode cX6_plans 36 = .ok (.dup, 1) := by decide +kernel
theorem dX6_plans_37 : decode cX6_plans 37 = .ok (.getfield 214, 3) := by decide +kernel
theorem dX6_plans_40 : decode cX6_plans 40 = .ok (.iconst 1, 1) := by decide +kernel
theorem dX6_plans_41 : decode cX6_plans 41 = .ok (.iadd, 1) := by decide +kernel
theorem dX6_plans_42 : decode cX6_plans 42 = .ok (.putfield 214, 3) := by decide +kernel
theorem dX6_plans_45 : decode cX6_plans 45 = .ok (.aload_n 0, 1) := by decide +kernel
theorem dX6_plans_46 : decode cX6_plans 46 = .ok (.getfield 214, 3) := by decide +kernel
theorem dX6_plans_49 : decode cX6_plans 49 = .ok (.ireturn, 1) := by decide +kernel
theorem dX6_drops_0 : decode cX6_drops 0 = .ok (.aload_n 0, 1) := by decide +kernel
theorem dX6_drops_1 : decode cX6_drops 1 = .ok (.getfield 214, 3) := by decide +kernel
theorem dX6_drops_4 : decode cX6_drops 4 = .ok (.istore_n 1, 1) := by decide +kernel
theorem dX6_drops_5 : decode cX6_drops 5 = .ok (.aload_n 0, 1) := by decide +kernel
theorem dX6_drops_6 : decode cX6_drops 6 = .ok (.iconst 0, 1) := by decide +kernel
theorem dX6_drops_7 : decode cX6_drops 7 = .ok (.putfield 214, 3) := by decide +kernel
theorem dX6_drops_10 : decode cX6_drops 10 = .ok (.iload_n 1, 1) := by decide +kernel
theorem dX6_drops_11 : decode cX6_drops 11 = .ok (.ireturn, 1) := by decide +kernel
theorem dX6_his_0 : decode cX6_his 0 = .ok (.iload_n 1, 1) := by decide +kernel
theorem dX6_his_1 : decode cX6_his 1 = .ok (.iconst 0, 1) := by decide +kernel
theorem dX6_his_2 : decode cX6_his 2 = .ok (.iconst 1, 1) := by decide +kernel
theorem dX6_his_3 : decode cX6_his 3 = .ok (.invokestatic 80, 3) := by decide +kernel
theorem dX6_his_6 : decode cX6_his 6 = .ok (.ifCond .ne 5, 3) := by decide +kernel
theorem dX6_his_9 : decode cX6_his 9 = .ok (.iconst (-1), 1) := by decide +kernel
theorem dX6_his_10 : decode cX6_his 10 = .ok (.ireturn, 1) := by decide +kernel
theorem dX6_his_11 : decode cX6_his 11 = .ok (.aload_n 0, 1) := by decide +kernel
theorem dX6_his_12 : decode cX6_his 12 = .ok (.getfield 29, 3) := by decide +kernel
theorem dX6_his_15 : decode cX6_his 15 = .ok (.getfield 133, 3) := by decide +kernel
theorem dX6_his_18 : decode cX6_his 18 = .ok (.istore_n 2, 1) := by decide +kernel
theorem dX6_his_19 : decode cX6_his 19 = .ok (.aload_n 0, 1) := by decide +kernel
theorem dX6_his_20 : decode cX6_his 20 = .ok (.getfield 29, 3) := by decide +kernel
theorem dX6_his_23 : decode cX6_his 23 = .ok (.getfield 136, 3) := by decide +kernel
theorem dX6_his_26 : decode cX6_his 26 = .ok (.istore_n 3, 1) := by decide +kernel
theorem dX6_his_27 : decode cX6_his 27 = .ok (.iconst 0, 1) := by decide +kernel
theorem dX6_his_28 : decode cX6_his 28 = .ok (.istore 4, 2) := by decide +kernel
theorem dX6_his_30 : decode cX6_his 30 = .ok (.iconst 0, 1) := by decide +kernel
theorem dX6_his_31 : decode cX6_his 31 = .ok (.istore 5, 2) := by decide +kernel
theorem dX6_his_33 : decode cX6_his 33 = .ok (.iload 5, 2) := by decide +kernel
theorem dX6_his_35 : decode cX6_his 35 = .ok (.aload_n 0, 1) := by decide +kernel
theorem dX6_his_36 : decode cX6_his 36 = .ok (.getfield 214, 3) := by decide +kernel
theorem dX6_his_39 : decode cX6_his 39 = .ok (.if_icmp .ge 59, 3) := by decide +kernel
theorem dX6_his_42 : decode cX6_his 42 = .ok (.aload_n 0, 1) := by decide +kernel
theorem dX6_his_43 : decode cX6_his 43 = .ok (.aload_n 0, 1) := by decide +kernel
theorem dX6_his_44 : decode cX6_his 44 = .ok (.getfield 54, 3) := by decide +kernel
theorem dX6_his_47 : decode cX6_his 47 = .ok (.iload 5, 2) := by decide +kernel
theorem dX6_his_49 : decode cX6_his 49 = .ok (.iaload, 1) := by decide +kernel
theorem dX6_his_50 : decode cX6_his 50 = .ok (.iload_n 2, 1) := by decide +kernel
theorem dX6_his_51 : decode cX6_his 51 = .ok (.invokevirtual 149, 3) := by decide +kernel
theorem dX6_his_54 : decode cX6_his 54 = .ok (.ifCond .eq 44, 3) := by decide +kernel
theorem dX6_his_57 : decode cX6_his 57 = .ok (.aload_n 0, 1) := by decide +kernel
theorem dX6_his_58 : decode cX6_his 58 = .ok (.getfield 54, 3) := by decide +kernel
theorem dX6_his_61 : decode cX6_his 61 = .ok (.iload 5, 2) := by decide +kernel
theorem dX6_his_63 : decode cX6_his 63 = .ok (.iaload, 1) := by decide +kernel
theorem dX6_his_64 : decode cX6_his 64 = .ok (.istore 6, 2) := by decide +kernel
theorem dX6_his_66 : decode cX6_his 66 = .ok (.iload 4, 2) := by decide +kernel
theorem dX6_his_68 : decode cX6_his 68 = .ok (.aload_n 0, 1) := by decide +kernel
theorem dX6_his_69 : decode cX6_his 69 = .ok (.iload_n 3, 1) := by decide +kernel
theorem dX6_his_70 : decode cX6_his 70 = .ok (.iload 6, 2) := by decide +kernel
theorem dX6_his_72 : decode cX6_his 72 = .ok (.invokevirtual 153, 3) := by decide +kernel
theorem dX6_his_75 : decode cX6_his 75 = .ok (.iadd, 1) := by decide +kernel
theorem dX6_his_76 : decode cX6_his 76 = .ok (.istore 4, 2) := by decide +kernel
theorem dX6_his_78 : decode cX6_his 78 = .ok (.aload_n 0, 1) := by decide +kernel
theorem dX6_his_79 : decode cX6_his 79 = .ok (.getfield 19, 3) := by decide +kernel
theorem dX6_his_82 : decode cX6_his 82 = .ok (.iload 6, 2) := by decide +kernel
theorem dX6_his_84 : decode cX6_his 84 = .ok (.iload_n 2, 1) := by decide +kernel
theorem dX6_his_85 : decode cX6_his 85 = .ok (.invokevirtual 164, 3) := by decide +kernel
theorem dX6_his_88 : decode cX6_his 88 = .ok (.istore_n 2, 1) := by decide +kernel
theorem dX6_his_89 : decode cX6_his 89 = .ok (.iload 6, 2) := by decide +kernel
theorem dX6_his_91 : decode cX6_his 91 = .ok (.istore_n 3, 1) := by decide +kernel
theorem dX6_his_92 : decode cX6_his 92 = .ok (.iinc 5 1, 3) := by decide +kernel
theorem dX6_his_95 : decode cX6_his 95 = .ok (.goto (-62), 3) := by decide +kernel
theorem dX6_his_98 : decode cX6_his 98 = .ok (.iload_n 1, 1) := by decide +kernel
theorem dX6_his_99 : decode cX6_his 99 = .ok (.iconst 1, 1) := by decide +kernel
theorem dX6_his_100 : decode cX6_his 100 = .ok (.if_icmp .ne 6, 3) := by decide +kernel
theorem dX6_his_103 : decode cX6_his 103 = .ok (.iload 5, 2) := by decide +kernel
theorem dX6_his_105 : decode cX6_his 105 = .ok (.ireturn, 1) := by decide +kernel
theorem dX6_his_106 : decode cX6_his 106 = .ok (.aload_n 0, 1) := by decide +kernel
theorem dX6_his_107 : decode cX6_his 107 = .ok (.getfield 43, 3) := by decide +kernel
theorem dX6_his_110 : decode cX6_his 110 = .ok (.aload_n 0, 1) := by decide +kernel
theorem dX6_his_111 : decode cX6_his 111 = .ok (.getfield 19, 3) := by decide +kernel
theorem dX6_his_114 : decode cX6_his 114 = .ok (.aload_n 0, 1) := by decide +kernel
theorem dX6_his_115 : decode cX6_his 115 = .ok (.getfield 29, 3) := by decide +kernel
theorem dX6_his_118 : decode cX6_his 118 = .ok (.invokevirtual 176, 3) := by decide +kernel
theorem dX6_his_121 : decode cX6_his 121 = .ok (.aload_n 0, 1) := by decide +kernel
theorem dX6_his_122 : decode cX6_his 122 = .ok (.getfield 43, 3) := by decide +kernel
theorem dX6_his_125 : decode cX6_his 125 = .ok (.iload_n 2, 1) := by decide +kernel
theorem dX6_his_126 : decode cX6_his 126 = .ok (.iload_n 3, 1) := by decide +kernel
theorem dX6_his_127 : decode cX6_his 127 = .ok (.invokevirtual 202, 3) := by decide +kernel
theorem dX6_his_130 : decode cX6_his 130 = .ok (.istore 6, 2) := by decide +kernel
theorem dX6_his_132 : decode cX6_his 132 = .ok (.iload 6, 2) := by decide +kernel
theorem dX6_his_134 : decode cX6_his 134 = .ok (.bipush (-9), 2) := by decide +kernel
theorem dX6_his_136 : decode cX6_his 136 = .ok (.if_icmp .ne 8, 3) := by decide +kernel
theorem dX6_his_139 : decode cX6_his 139 = .ok (.bipush (-9), 2) := by decide +kernel
theorem dX6_his_141 : decode cX6_his 141 = .ok (.goto 8, 3) := by decide +kernel
theorem dX6_his_144 : decode cX6_his 144 = .ok (.iload 4, 2) := by decide +kernel
theorem dX6_his_146 : decode cX6_his 146 = .ok (.iload 6, 2) := by decide +kernel
theorem dX6_his_148 : decode cX6_his 148 = .ok (.iadd, 1) := by decide +kernel
theorem dX6_his_149 : decode cX6_his 149 = .ok (.ireturn, 1) := by decide +kernel
theorem dX6_cars_0 : decode cX6_cars 0 = .ok (.iload_n 1, 1) := by decide +kernel
theorem dX6_cars_1 : decode cX6_cars 1 = .ok (.iconst 0, 1) := by decide +kernel
theorem dX6_cars_2 : decode cX6_cars 2 = .ok (.bipush 20, 2) := by decide +kernel
theorem dX6_cars_4 : decode cX6_cars 4 = .ok (.invokestatic 80, 3) := by decide +kernel
theorem dX6_cars_7 : decode cX6_cars 7 = .ok (.ifCond .eq 12, 3) := by decide +kernel
theorem dX6_cars_10 : decode cX6_cars 10 = .ok (.iload_n 2, 1) := by decide +kernel
theorem dX6_cars_11 : decode cX6_cars 11 = .ok (.iconst 0, 1) := by decide +kernel
theorem dX6_cars_12 : decode cX6_cars 12 = .ok (.iconst 1, 1) := by decide +kernel
theorem dX6_cars_13 : decode cX6_cars 13 = .ok (.invokestatic 80, 3) := by decide +kernel
theorem dX6_cars_16 : decode cX6_cars 16 = .ok (.ifCond .ne 5, 3) := by decide +kernel
theorem dX6_cars_19 : decode cX6_cars 19 = .ok (.iconst (-1), 1) := by decide +kernel
theorem dX6_cars_20 : decode cX6_cars 20 = .ok (.ireturn, 1) := by decide +kernel
theorem dX6_cars_21 : decode cX6_cars 21 = .ok (.aload_n 0, 1) := by decide +kernel
theorem dX6_cars_22 : decode cX6_cars 22 = .ok (.getfield 43, 3) := by decide +kernel
theorem dX6_cars_25 : decode cX6_cars 25 = .ok (.aload_n 0, 1) := by decide +kernel
theorem dX6_cars_26 : decode cX6_cars 26 = .ok (.getfield 19, 3) := by decide +kernel
theorem dX6_cars_29 : decode cX6_cars 29 = .ok (.aload_n 0, 1) := by decide +kernel
theorem dX6_cars_30 : decode cX6_cars 30 = .ok (.getfield 29, 3) := by decide +kernel
theorem dX6_cars_33 : decode cX6_cars 33 = .ok (.invokevirtual 176, 3) := by decide +kernel
theorem dX6_cars_36 : decode cX6_cars 36 = .ok (.aload_n 0, 1) := by decide +kernel
theorem dX6_cars_37 : decode cX6_cars 37 = .ok (.getfield 43, 3) := by decide +kernel
theorem dX6_cars_40 : decode cX6_cars 40 = .ok (.aload_n 0, 1) := by decide +kernel
theorem dX6_cars_41 : decode cX6_cars 41 = .ok (.getfield 19, 3) := by decide +kernel
theorem dX6_cars_44 : decode cX6_cars 44 = .ok (.getfield 72, 3) := by decide +kernel
theorem dX6_cars_47 : decode cX6_cars 47 = .ok (.bipush (-9), 2) := by decide +kernel
theorem dX6_cars_49 : decode cX6_cars 49 = .ok (.invokevirtual 180, 3) := by decide +kernel
theorem dX6_cars_52 : decode cX6_cars 52 = .ok (.istore_n 3, 1) := by decide +kernel
theorem dX6_cars_53 : decode cX6_cars 53 = .ok (.iload_n 3, 1) := by decide +kernel
theorem dX6_cars_54 : decode cX6_cars 54 = .ok (.bipush (-9), 2) := by decide +kernel
theorem dX6_cars_56 : decode cX6_cars 56 = .ok (.if_icmp .ne 6, 3) := by decide +kernel
theorem dX6_cars_59 : decode cX6_cars 59 = .ok (.bipush (-9), 2) := by decide +kernel
theorem dX6_cars_61 : decode cX6_cars 61 = .ok (.ireturn, 1) := by decide +kernel
theorem dX6_cars_62 : decode cX6_cars 62 = .ok (.iload_n 2, 1) := by decide +kernel
theorem dX6_cars_63 : decode cX6_cars 63 = .ok (.ifCond .ne 12, 3) := by decide +kernel
theorem dX6_cars_66 : decode cX6_cars 66 = .ok (.aload_n 0, 1) := by decide +kernel
theorem dX6_cars_67 : decode cX6_cars 67 = .ok (.iload_n 1, 1) := by decide +kernel
theorem dX6_cars_68 : decode cX6_cars 68 = .ok (.iload_n 3, 1) := by decide +kernel
theorem dX6_cars_69 : decode cX6_cars 69 = .ok (.invokevirtual 217, 3) := by decide +kernel
theorem dX6_cars_72 : decode cX6_cars 72 = .ok (.goto 9, 3) := by decide +kernel
theorem dX6_cars_75 : decode cX6_cars 75 = .ok (.aload_n 0, 1) := by decide +kernel
theorem dX6_cars_76 : decode cX6_cars 76 = .ok (.iload_n 1, 1) := by decide +kernel
theorem dX6_cars_77 : decode cX6_cars 77 = .ok (.iload_n 3, 1) := by decide +kernel
theorem dX6_cars_78 : decode cX6_cars 78 = .ok (.invokevirtual 220, 3) := by decide +kernel
theorem dX6_cars_81 : decode cX6_cars 81 = .ok (.ireturn, 1) := by decide +kernel
theorem dX6_tunnel_0 : decode cX6_tunnel 0 = .ok (.iload_n 1, 1) := by decide +kernel
theorem dX6_tunnel_1 : decode cX6_tunnel 1 = .ok (.iconst 0, 1) := by decide +kernel
theorem dX6_tunnel_2 : decode cX6_tunnel 2 = .ok (.bipush 8, 2) := by decide +kernel
theorem dX6_tunnel_4 : decode cX6_tunnel 4 = .ok (.invokestatic 80, 3) := by decide +kernel
theorem dX6_tunnel_7 : decode cX6_tunnel 7 = .ok (.ifCond .ne 5, 3) := by decide +kernel
theorem dX6_tunnel_10 : decode cX6_tunnel 10 = .ok (.iconst (-1), 1) := by decide +kernel
theorem dX6_tunnel_11 : decode cX6_tunnel 11 = .ok (.ireturn, 1) := by decide +kernel
theorem dX6_tunnel_12 : decode cX6_tunnel 12 = .ok (.iconst 1, 1) := by decide +kernel
theorem dX6_tunnel_13 : decode cX6_tunnel 13 = .ok (.aload_n 0, 1) := by decide +kernel
theorem dX6_tunnel_14 : decode cX6_tunnel 14 = .ok (.getfield 29, 3) := by decide +kernel
theorem dX6_tunnel_17 : decode cX6_tunnel 17 = .ok (.getfield 133, 3) := by decide +kernel
theorem dX6_tunnel_20 : decode cX6_tunnel 20 = .ok (.ishl, 1) := by decide +kernel
theorem dX6_tunnel_21 : decode cX6_tunnel 21 = .ok (.istore_n 2, 1) := by decide +kernel
theorem dX6_tunnel_22 : decode cX6_tunnel 22 = .ok (.iconst 1, 1) := by decide +kernel
theorem dX6_tunnel_23 : decode cX6_tunnel 23 = .ok (.istore_n 3, 1) := by decide +kernel
theorem dX6_tunnel_24 : decode cX6_tunnel 24 = .ok (.iload_n 3, 1) := by decide +kernel
theorem dX6_tunnel_25 : decode cX6_tunnel 25 = .ok (.iload_n 1, 1) := by decide +kernel
theorem dX6_tunnel_26 : decode cX6_tunnel 26 = .ok (.if_icmp .gt 15, 3) := by decide +kernel
theorem dX6_tunnel_29 : decode cX6_tunnel 29 = .ok (.aload_n 0, 1) := by decide +kernel
theorem dX6_tunnel_30 : decode cX6_tunnel 30 = .ok (.iload_n 2, 1) := by decide +kernel
theorem dX6_tunnel_31 : decode cX6_tunnel 31 = .ok (.invokevirtual 223, 3) := by decide +kernel
theorem dX6_tunnel_34 : decode cX6_tunnel 34 = .ok (.istore_n 2, 1) := by decide +kernel
theorem dX6_tunnel_35 : decode cX6_tunnel 35 = .ok (.iinc 3 1, 3) := by decide +kernel
theorem dX6_tunnel_38 : decode cX6_tunnel 38 = .ok (.goto (-14), 3) := by decide +kernel
theorem dX6_tunnel_41 : decode cX6_tunnel 41 = .ok (.iload_n 2, 1) := by decide +kernel
theorem dX6_tunnel_42 : decode cX6_tunnel 42 = .ok (.ireturn, 1) := by decide +kernel
theorem dX6_saw_0 : decode cX6_saw 0 = .ok (.iload_n 1, 1) := by decide +kernel
theorem dX6_saw_1 : decode cX6_saw 1 = .ok (.iconst 0, 1) := by decide +kernel
theorem dX6_saw_2 : decode cX6_saw 2 = .ok (.bipush 8, 2) := by decide +kernel
theorem dX6_saw_4 : decode cX6_saw 4 = .ok (.invokestatic 80, 3) := by decide +kernel
theorem dX6_saw_7 : decode cX6_saw 7 = .ok (.ifCond .eq 14, 3) := by decide +kernel
theorem dX6_saw_10 : decode cX6_saw 10 = .ok (.aload_n 0, 1) := by decide +kernel
theorem dX6_saw_11 : decode cX6_saw 11 = .ok (.getfield 19, 3) := by decide +kernel
theorem dX6_saw_14 : decode cX6_saw 14 = .ok (.iload_n 2, 1) := by decide +kernel
theorem dX6_saw_15 : decode cX6_saw 15 = .ok (.invokevirtual 124, 3) := by decide +kernel
theorem dX6_saw_18 : decode cX6_saw 18 = .ok (.ifCond .ne 5, 3) := by decide +kernel
theorem dX6_saw_21 : decode cX6_saw 21 = .ok (.iconst (-1), 1) := by decide +kernel
theorem dX6_saw_22 : decode cX6_saw 22 = .ok (.ireturn, 1) := by decide +kernel
theorem dX6_saw_23 : decode cX6_saw 23 = .ok (.aload_n 0, 1) := by decide +kernel
theorem dX6_saw_24 : decode cX6_saw 24 = .ok (.getfield 226, 3) := by decide +kernel
theorem dX6_saw_27 : decode cX6_saw 27 = .ok (.iconst 5, 1) := by decide +kernel
theorem dX6_saw_28 : decode cX6_saw 28 = .ok (.if_icmp .lt 6, 3) := by decide +kernel
theorem dX6_saw_31 : decode cX6_saw 31 = .ok (.bipush (-3), 2) := by decide +kernel
theorem dX6_saw_33 : decode cX6_saw 33 = .ok (.ireturn, 1) := by decide +kernel
theorem dX6_saw_34 : decode cX6_saw 34 = .ok (.aload_n 0, 1) := by decide +kernel
theorem dX6_saw_35 : decode cX6_saw 35 = .ok (.getfield 58, 3) := by decide +kernel
theorem dX6_saw_38 : decode cX6_saw 38 = .ok (.aload_n 0, 1) := by decide +kernel
theorem dX6_saw_39 : decode cX6_saw 39 = .ok (.getfield 226, 3) := by decide +kernel
theorem dX6_saw_42 : decode cX6_saw 42 = .ok (.iload_n 1, 1) := by decide +kernel
theorem dX6_saw_43 : decode cX6_saw 43 = .ok (.iastore, 1) := by decide +kernel
theorem dX6_saw_44 : decode cX6_saw 44 = .ok (.aload_n 0, 1) := by decide +kernel
theorem dX6_saw_45 : decode cX6_saw 45 = .ok (.getfield 61, 3) := by decide +kernel
theorem dX6_saw_48 : decode cX6_saw 48 = .ok (.aload_n 0, 1) := by decide +kernel
theorem dX6_saw_49 : decode cX6_saw 49 = .ok (.getfield 226, 3) := by decide +kernel
theorem dX6_saw_52 : decode cX6_saw 52 = .ok (.iload_n 2, 1) := by decide +kernel
theorem dX6_saw_53 : decode cX6_saw 53 = .ok (.iastore, 1) := by decide +kernel
theorem dX6_saw_54 : decode cX6_saw 54 = .ok (.aload_n 0, 1) := by decide +kernel
theorem dX6_saw_55 : decode cX6_saw 55 = .ok (.dup, 1) := by decide +kernel
theorem dX6_saw_56 : decode cX6_saw 56 = .ok (.getfield 226, 3) := by decide +kernel
theorem dX6_saw_59 : decode cX6_saw 59 = .ok (.iconst 1, 1) := by decide +kernel
theorem dX6_saw_60 : decode cX6_saw 60 = .ok (.iadd, 1) := by decide +kernel
theorem dX6_saw_61 : decode cX6_saw 61 = .ok (.putfield 226, 3) := by decide +kernel
theorem dX6_saw_64 : decode cX6_saw 64 = .ok (.aload_n 0, 1) := by decide +kernel
theorem dX6_saw_65 : decode cX6_saw 65 = .ok (.getfield 226, 3) := by decide +kernel
theorem dX6_saw_68 : decode cX6_saw 68 = .ok (.ireturn, 1) := by decide +kernel
theorem dX6_forget_0 : decode cX6_forget 0 = .ok (.aload_n 0, 1) := by decide +kernel
theorem dX6_forget_1 : decode cX6_forget 1 = .ok (.getfield 226, 3) := by decide +kernel
theorem dX6_forget_4 : decode cX6_forget 4 = .ok (.istore_n 1, 1) := by decide +kernel
theorem dX6_forget_5 : decode cX6_forget 5 = .ok (.aload_n 0, 1) := by decide +kernel
theorem dX6_forget_6 : decode cX6_forget 6 = .ok (.iconst 0, 1) := by decide +kernel
theorem dX6_forget_7 : decode cX6_forget 7 = .ok (.putfield 226, 3) := by decide +kernel
theorem dX6_forget_10 : decode cX6_forget 10 = .ok (.iload_n 1, 1) := by decide +kernel
theorem dX6_forget_11 : decode cX6_forget 11 = .ok (.ireturn, 1) := by decide +kernel
theorem dX6_where_0 : decode cX6_where 0 = .ok (.iload_n 1, 1) := by decide +kernel
theorem dX6_where_1 : decode cX6_where 1 = .ok (.iconst 0, 1) := by decide +kernel
theorem dX6_where_2 : decode cX6_where 2 = .ok (.bipush 8, 2) := by decide +kernel
theorem dX6_where_4 : decode cX6_where 4 = .ok (.invokestatic 80, 3) := by decide +kernel
theorem dX6_where_7 : decode cX6_where 7 = .ok (.ifCond .ne 5, 3) := by decide +kernel
theorem dX6_where_10 : decode cX6_where 10 = .ok (.iconst (-1), 1) := by decide +kernel
theorem dX6_where_11 : decode cX6_where 11 = .ok (.ireturn, 1) := by decide +kernel
theorem dX6_where_12 : decode cX6_where 12 = .ok (.aload_n 0, 1) := by decide +kernel
theorem dX6_where_13 : decode cX6_where 13 = .ok (.iconst 1, 1) := by decide +kernel
theorem dX6_where_14 : decode cX6_where 14 = .ok (.aload_n 0, 1) := by decide +kernel
theorem dX6_where_15 : decode cX6_where 15 = .ok (.getfield 29, 3) := by decide +kernel
theorem dX6_where_18 : decode cX6_where 18 = .ok (.getfield 133, 3) := by decide +kernel
theorem dX6_where_21 : decode cX6_where 21 = .ok (.ishl, 1) := by decide +kernel
theorem dX6_where_22 : decode cX6_where 22 = .ok (.iconst 0, 1) := by decide +kernel
theorem dX6_where_23 : decode cX6_where 23 = .ok (.invokevirtual 229, 3) := by decide +kernel
theorem dX6_where_26 : decode cX6_where 26 = .ok (.istore_n 2, 1) := by decide +kernel
theorem dX6_where_27 : decode cX6_where 27 = .ok (.iconst 1, 1) := by decide +kernel
theorem dX6_where_28 : decode cX6_where 28 = .ok (.istore_n 3, 1) := by decide +kernel
theorem dX6_where_29 : decode cX6_where 29 = .ok (.iload_n 3, 1) := by decide +kernel
theorem dX6_where_30 : decode cX6_where 30 = .ok (.iload_n 1, 1) := by decide +kernel
theorem dX6_where_31 : decode cX6_where 31 = .ok (.if_icmp .gt 20, 3) := by decide +kernel
theorem dX6_where_34 : decode cX6_where 34 = .ok (.aload_n 0, 1) := by decide +kernel
theorem dX6_where_35 : decode cX6_where 35 = .ok (.aload_n 0, 1) := by decide +kernel
theorem dX6_where_36 : decode cX6_where 36 = .ok (.iload_n 2, 1) := by decide +kernel
theorem dX6_where_37 : decode cX6_where 37 = .ok (.invokevirtual 223, 3) := by decide +kernel
theorem dX6_where_40 : decode cX6_where 40 = .ok (.iload_n 3, 1) := by decide +kernel
theorem dX6_where_41 : decode cX6_where 41 = .ok (.invokevirtual 229, 3) := by decide +kernel
theorem dX6_where_44 : decode cX6_where 44 = .ok (.istore_n 2, 1) := by decide +kernel
theorem dX6_where_45 : decode cX6_where 45 = .ok (.iinc 3 1, 3) := by decide +kernel
theorem dX6_where_48 : decode cX6_where 48 = .ok (.goto (-19), 3) := by decide +kernel
theorem dX6_where_51 : decode cX6_where 51 = .ok (.iload_n 2, 1) := by decide +kernel
theorem dX6_where_52 : decode cX6_where 52 = .ok (.ireturn, 1) := by decide +kernel
theorem dX6_which_0 : decode cX6_which 0 = .ok (.iload_n 1, 1) := by decide +kernel
theorem dX6_which_1 : decode cX6_which 1 = .ok (.iconst 0, 1) := by decide +kernel
theorem dX6_which_2 : decode cX6_which 2 = .ok (.bipush 60, 2) := by decide +kernel
theorem dX6_which_4 : decode cX6_which 4 = .ok (.invokestatic 80, 3) := by decide +kernel
theorem dX6_which_7 : decode cX6_which 7 = .ok (.ifCond .eq 14, 3) := by decide +kernel
theorem dX6_which_10 : decode cX6_which 10 = .ok (.iload_n 2, 1) := by decide +kernel
theorem dX6_which_11 : decode cX6_which 11 = .ok (.iconst 0, 1) := by decide +kernel
theorem dX6_which_12 : decode cX6_which 12 = .ok (.sipush 999, 3) := by decide +kernel
theorem dX6_which_15 : decode cX6_which 15 = .ok (.invokestatic 80, 3) := by decide +kernel
theorem dX6_which_18 : decode cX6_which 18 = .ok (.ifCond .ne 5, 3) := by decide +kernel
theorem dX6_which_21 : decode cX6_which 21 = .ok (.iconst (-1), 1) := by decide +kernel
theorem dX6_which_22 : decode cX6_which 22 = .ok (.ireturn, 1) := by decide +kernel
theorem dX6_which_23 : decode cX6_which 23 = .ok (.aload_n 0, 1) := by decide +kernel
theorem dX6_which_24 : decode cX6_which 24 = .ok (.getfield 43, 3) := by decide +kernel
theorem dX6_which_27 : decode cX6_which 27 = .ok (.aload_n 0, 1) := by decide +kernel
theorem dX6_which_28 : decode cX6_which 28 = .ok (.getfield 19, 3) := by decide +kernel
theorem dX6_which_31 : decode cX6_which 31 = .ok (.aload_n 0, 1) := by decide +kernel
theorem dX6_which_32 : decode cX6_which 32 = .ok (.getfield 29, 3) := by decide +kernel
theorem dX6_which_35 : decode cX6_which 35 = .ok (.invokevirtual 176, 3) := by decide +kernel
theorem dX6_which_38 : decode cX6_which 38 = .ok (.iconst 0, 1) := by decide +kernel
theorem dX6_which_39 : decode cX6_which 39 = .ok (.istore_n 3, 1) := by decide +kernel
theorem dX6_which_40 : decode cX6_which 40 = .ok (.iconst 0, 1) := by decide +kernel
theorem dX6_which_41 : decode cX6_which 41 = .ok (.istore 4, 2) := by decide +kernel
theorem dX6_which_43 : decode cX6_which 43 = .ok (.iload 4, 2) := by decide +kernel
theorem dX6_which_45 : decode cX6_which 45 = .ok (.aload_n 0, 1) := by decide +kernel
theorem dX6_which_46 : decode cX6_which 46 = .ok (.getfield 19, 3) := by decide +kernel
theorem dX6_which_49 : decode cX6_which 49 = .ok (.getfield 205, 3) := by decide +kernel
theorem dX6_which_52 : decode cX6_which 52 = .ok (.if_icmp .ge 37, 3) := by decide +kernel
theorem dX6_which_55 : decode cX6_which 55 = .ok (.aload_n 0, 1) := by decide +kernel
theorem dX6_which_56 : decode cX6_which 56 = .ok (.getfield 43, 3) := by decide +kernel
theorem dX6_which_59 : decode cX6_which 59 = .ok (.iload 4, 2) := by decide +kernel
theorem dX6_which_61 : decode cX6_which 61 = .ok (.iload_n 1, 1) := by decide +kernel
theorem dX6_which_62 : decode cX6_which 62 = .ok (.aload_n 0, 1) := by decide +kernel
theorem dX6_which_63 : decode cX6_which 63 = .ok (.getfield 19, 3) := by decide +kernel
theorem dX6_which_66 : decode cX6_which 66 = .ok (.getfield 72, 3) := by decide +kernel
theorem dX6_which_69 : decode cX6_which 69 = .ok (.invokevirtual 232, 3) := by decide +kernel
theorem dX6_which_72 : decode cX6_which 72 = .ok (.iload_n 2, 1) := by decide +kernel
theorem dX6_which_73 : decode cX6_which 73 = .ok (.if_icmp .ne 10, 3) := by decide +kernel
theorem dX6_which_76 : decode cX6_which 76 = .ok (.iload_n 3, 1) := by decide +kernel
theorem dX6_which_77 : decode cX6_which 77 = .ok (.iconst 1, 1) := by decide +kernel
theorem dX6_which_78 : decode cX6_which 78 = .ok (.iload 4, 2) := by decide +kernel
theorem dX6_which_80 : decode cX6_which 80 = .ok (.ishl, 1) := by decide +kernel
theorem dX6_which_81 : decode cX6_which 81 = .ok (.ior, 1) := by decide +kernel
theorem dX6_which_82 : decode cX6_which 82 = .ok (.istore_n 3, 1) := by decide +kernel
theorem dX6_which_83 : decode cX6_which 83 = .ok (.iinc 4 1, 3) := by decide +kernel
theorem dX6_which_86 : decode cX6_which 86 = .ok (.goto (-43), 3) := by decide +kernel
theorem dX6_which_89 : decode cX6_which 89 = .ok (.iload_n 3, 1) := by decide +kernel
theorem dX6_which_90 : decode cX6_which 90 = .ok (.ireturn, 1) := by decide +kernel
theorem dX6_odds_0 : decode cX6_odds 0 = .ok (.aload_n 0, 1) := by decide +kernel
theorem dX6_odds_1 : decode cX6_odds 1 = .ok (.getfield 19, 3) := by decide +kernel
theorem dX6_odds_4 : decode cX6_odds 4 = .ok (.iload_n 1, 1) := by decide +kernel
theorem dX6_odds_5 : decode cX6_odds 5 = .ok (.invokevirtual 124, 3) := by decide +kernel
theorem dX6_odds_8 : decode cX6_odds 8 = .ok (.ifCond .eq 21, 3) := by decide +kernel
theorem dX6_odds_11 : decode cX6_odds 11 = .ok (.iload_n 2, 1) := by decide +kernel
theorem dX6_odds_12 : decode cX6_odds 12 = .ok (.iconst 0, 1) := by decide +kernel
theorem dX6_odds_13 : decode cX6_odds 13 = .ok (.iconst 4, 1) := by decide +kernel
theorem dX6_odds_14 : decode cX6_odds 14 = .ok (.invokestatic 80, 3) := by decide +kernel
theorem dX6_odds_17 : decode cX6_odds 17 = .ok (.ifCond .eq 12, 3) := by decide +kernel
theorem dX6_odds_20 : decode cX6_odds 20 = .ok (.iload_n 3, 1) := by decide +kernel
theorem dX6_odds_21 : decode cX6_odds 21 = .ok (.iconst 0, 1) := by decide +kernel
theorem dX6_odds_22 : decode cX6_odds 22 = .ok (.iconst 1, 1) := by decide +kernel
theorem dX6_odds_23 : decode cX6_odds 23 = .ok (.invokestatic 80, 3) := by decide +kernel
theorem dX6_odds_26 : decode cX6_odds 26 = .ok (.ifCond .ne 7, 3) := by decide +kernel
theorem dX6_odds_29 : decode cX6_odds 29 = .ok (.ldc2_w 235, 3) := by decide +kernel
theorem dX6_odds_32 : decode cX6_odds 32 = .ok (.lreturn, 1) := by decide +kernel
theorem dX6_odds_33 : decode cX6_odds 33 = .ok (.aload_n 0, 1) := by decide +kernel
theorem dX6_odds_34 : decode cX6_odds 34 = .ok (.getfield 50, 3) := by decide +kernel
theorem dX6_odds_37 : decode cX6_odds 37 = .ok (.aload_n 0, 1) := by decide +kernel
theorem dX6_odds_38 : decode cX6_odds 38 = .ok (.getfield 19, 3) := by decide +kernel
theorem dX6_odds_41 : decode cX6_odds 41 = .ok (.aload_n 0, 1) := by decide +kernel
theorem dX6_odds_42 : decode cX6_odds 42 = .ok (.invokevirtual 130, 3) := by decide +kernel
theorem dX6_odds_45 : decode cX6_odds 45 = .ok (.aload_n 0, 1) := by decide +kernel
theorem dX6_odds_46 : decode cX6_odds 46 = .ok (.getfield 29, 3) := by decide +kernel
theorem dX6_odds_49 : decode cX6_odds 49 = .ok (.getfield 133, 3) := by decide +kernel
theorem dX6_odds_52 : decode cX6_odds 52 = .ok (.iload_n 2, 1) := by decide +kernel
theorem dX6_odds_53 : decode cX6_odds 53 = .ok (.invokevirtual 237, 3) := by decide +kernel
theorem dX6_odds_56 : decode cX6_odds 56 = .ok (.iload_n 3, 1) := by decide +kernel
theorem dX6_odds_57 : decode cX6_odds 57 = .ok (.ifCond .ne 14, 3) := by decide +kernel
theorem dX6_odds_60 : decode cX6_odds 60 = .ok (.aload_n 0, 1) := by decide +kernel
theorem dX6_odds_61 : decode cX6_odds 61 = .ok (.getfield 50, 3) := by decide +kernel
theorem dX6_odds_64 : decode cX6_odds 64 = .ok (.iload_n 1, 1) := by decide +kernel
theorem dX6_odds_65 : decode cX6_odds 65 = .ok (.invokevirtual 241, 3) := by decide +kernel
theorem dX6_odds_68 : decode cX6_odds 68 = .ok (.goto 11, 3) := by decide +kernel
theorem dX6_odds_71 : decode cX6_odds 71 = .ok (.aload_n 0, 1) := by decide +kernel
theorem dX6_odds_72 : decode cX6_odds 72 = .ok (.getfield 50, 3) := by decide +kernel
theorem dX6_odds_75 : decode cX6_odds 75 = .ok (.iload_n 1, 1) := by decide +kernel
theorem dX6_odds_76 : decode cX6_odds 76 = .ok (.invokevirtual 245, 3) := by decide +kernel
theorem dX6_odds_79 : decode cX6_odds 79 = .ok (.lreturn, 1) := by decide +kernel
theorem dX6_rate_0 : decode cX6_rate 0 = .ok (.iload_n 1, 1) := by decide +kernel
theorem dX6_rate_1 : decode cX6_rate 1 = .ok (.iconst 0, 1) := by decide +kernel
theorem dX6_rate_2 : decode cX6_rate 2 = .ok (.iconst 5, 1) := by decide +kernel
theorem dX6_rate_3 : decode cX6_rate 3 = .ok (.invokestatic 80, 3) := by decide +kernel
theorem dX6_rate_6 : decode cX6_rate 6 = .ok (.ifCond .eq 14, 3) := by decide +kernel
theorem dX6_rate_9 : decode cX6_rate 9 = .ok (.aload_n 0, 1) := by decide +kernel
theorem dX6_rate_10 : decode cX6_rate 10 = .ok (.getfield 19, 3) := by decide +kernel
theorem dX6_rate_13 : decode cX6_rate 13 = .ok (.iload_n 2, 1) := by decide +kernel
theorem dX6_rate_14 : decode cX6_rate 14 = .ok (.invokevirtual 102, 3) := by decide +kernel
theorem dX6_rate_17 : decode cX6_rate 17 = .ok (.ifCond .ne 6, 3) := by decide +kernel
theorem dX6_rate_20 : decode cX6_rate 20 = .ok (.ldc 248, 2) := by decide +kernel
theorem dX6_rate_22 : decode cX6_rate 22 = .ok (.ireturn, 1) := by decide +kernel
theorem dX6_rate_23 : decode cX6_rate 23 = .ok (.aload_n 0, 1) := by decide +kernel
theorem dX6_rate_24 : decode cX6_rate 24 = .ok (.iload_n 1, 1) := by decide +kernel
theorem dX6_rate_25 : decode cX6_rate 25 = .ok (.iload_n 2, 1) := by decide +kernel
theorem dX6_rate_26 : decode cX6_rate 26 = .ok (.invokevirtual 249, 3) := by decide +kernel
theorem dX6_rate_29 : decode cX6_rate 29 = .ok (.ireturn, 1) := by decide +kernel
theorem dX6_keep_0 : decode cX6_keep 0 = .ok (.iload_n 1, 1) := by decide +kernel
theorem dX6_keep_1 : decode cX6_keep 1 = .ok (.iconst 0, 1) := by decide +kernel
theorem dX6_keep_2 : decode cX6_keep 2 = .ok (.iconst 1, 1) := by decide +kernel
theorem dX6_keep_3 : decode cX6_keep 3 = .ok (.invokestatic 80, 3) := by decide +kernel
theorem dX6_keep_6 : decode cX6_keep 6 = .ok (.ifCond .ne 5, 3) := by decide +kernel
theorem dX6_keep_9 : decode cX6_keep 9 = .ok (.iconst (-1), 1) := by decide +kernel
theorem dX6_keep_10 : decode cX6_keep 10 = .ok (.ireturn, 1) := by decide +kernel
theorem dX6_keep_11 : decode cX6_keep 11 = .ok (.aload_n 0, 1) := by decide +kernel
theorem dX6_keep_12 : decode cX6_keep 12 = .ok (.getfield 64, 3) := by decide +kernel
theorem dX6_keep_15 : decode cX6_keep 15 = .ok (.iload_n 1, 1) := by decide +kernel
theorem dX6_keep_16 : decode cX6_keep 16 = .ok (.aaload, 1) := by decide +kernel
theorem dX6_keep_17 : decode cX6_keep 17 = .ok (.aload_n 0, 1) := by decide +kernel
theorem dX6_keep_18 : decode cX6_keep 18 = .ok (.getfield 29, 3) := by decide +kernel
theorem dX6_keep_21 : decode cX6_keep 21 = .ok (.invokevirtual 252, 3) := by decide +kernel
theorem dX6_keep_24 : decode cX6_keep 24 = .ok (.aload_n 0, 1) := by decide +kernel
theorem dX6_keep_25 : decode cX6_keep 25 = .ok (.getfield 68, 3) := by decide +kernel
theorem dX6_keep_28 : decode cX6_keep 28 = .ok (.iload_n 1, 1) := by decide +kernel
theorem dX6_keep_29 : decode cX6_keep 29 = .ok (.iconst 1, 1) := by decide +kernel
theorem dX6_keep_30 : decode cX6_keep 30 = .ok (.bastore, 1) := by decide +kernel
theorem dX6_keep_31 : decode cX6_keep 31 = .ok (.aload_n 0, 1) := by decide +kernel
theorem dX6_keep_32 : decode cX6_keep 32 = .ok (.getfield 29, 3) := by decide +kernel
theorem dX6_keep_35 : decode cX6_keep 35 = .ok (.getfield 139, 3) := by decide +kernel
theorem dX6_keep_38 : decode cX6_keep 38 = .ok (.ireturn, 1) := by decide +kernel
theorem dX6_back_0 : decode cX6_back 0 = .ok (.iload_n 1, 1) := by decide +kernel
theorem dX6_back_1 : decode cX6_back 1 = .ok (.iconst 0, 1) := by decide +kernel
theorem dX6_back_2 : decode cX6_back 2 = .ok (.iconst 1, 1) := by decide +kernel
theorem dX6_back_3 : decode cX6_back 3 = .ok (.invokestatic 80, 3) := by decide +kernel
theorem dX6_back_6 : decode cX6_back 6 = .ok (.ifCond .ne 5, 3) := by decide +kernel
theorem dX6_back_9 : decode cX6_back 9 = .ok (.iconst (-1), 1) := by decide +kernel
theorem dX6_back_10 : decode cX6_back 10 = .ok (.ireturn, 1) := by decide +kernel
theorem dX6_back_11 : decode cX6_back 11 = .ok (.aload_n 0, 1) := by decide +kernel
theorem dX6_back_12 : decode cX6_back 12 = .ok (.getfield 68, 3) := by decide +kernel
theorem dX6_back_15 : decode cX6_back 15 = .ok (.iload_n 1, 1) := by decide +kernel
theorem dX6_back_16 : decode cX6_back 16 = .ok (.baload, 1) := by decide +kernel
theorem dX6_back_17 : decode cX6_back 17 = .ok (.ifCond .ne 6, 3) := by decide +kernel
theorem dX6_back_20 : decode cX6_back 20 = .ok (.bipush (-2), 2) := by decide +kernel
theorem dX6_back_22 : decode cX6_back 22 = .ok (.ireturn, 1) := by decide +kernel
theorem dX6_back_23 : decode cX6_back 23 = .ok (.aload_n 0, 1) := by decide +kernel
theorem dX6_back_24 : decode cX6_back 24 = .ok (.getfield 29, 3) := by decide +kernel
theorem dX6_back_27 : decode cX6_back 27 = .ok (.aload_n 0, 1) := by decide +kernel
theorem dX6_back_28 : decode cX6_back 28 = .ok (.getfield 64, 3) := by decide +kernel
theorem dX6_back_31 : decode cX6_back 31 = .ok (.iload_n 1, 1) := by decide +kernel
theorem dX6_back_32 : decode cX6_back 32 = .ok (.aaload, 1) := by decide +kernel
theorem dX6_back_33 : decode cX6_back 33 = .ok (.invokevirtual 252, 3) := by decide +kernel
theorem dX6_back_36 : decode cX6_back 36 = .ok (.aload_n 0, 1) := by decide +kernel
theorem dX6_back_37 : decode cX6_back 37 = .ok (.getfield 36, 3) := by decide +kernel
theorem dX6_back_40 : decode cX6_back 40 = .ok (.invokevirtual 255, 3) := by decide +kernel
theorem dX6_back_43 : decode cX6_back 43 = .ok (.aload_n 0, 1) := by decide +kernel
theorem dX6_back_44 : decode cX6_back 44 = .ok (.getfield 29, 3) := by decide +kernel
theorem dX6_back_47 : decode cX6_back 47 = .ok (.getfield 139, 3) := by decide +kernel
theorem dX6_back_50 : decode cX6_back 50 = .ok (.ireturn, 1) := by decide +kernel
theorem dX6_count_0 : decode cX6_count 0 = .ok (.iload_n 1, 1) := by decide +kernel
theorem dX6_count_1 : decode cX6_count 1 = .ok (.tableswitch 117 0 8 #[51, 59, 67, 75, 83, 91, 99, 104, 109], 51) := by decide +kernel
theorem dX6_count_52 : decode cX6_count 52 = .ok (.aload_n 0, 1) := by decide +kernel
theorem dX6_count_53 : decode cX6_count 53 = .ok (.getfield 19, 3) := by decide +kernel
theorem dX6_count_56 : decode cX6_count 56 = .ok (.getfield 258, 3) := by decide +kernel
theorem dX6_count_59 : decode cX6_count 59 = .ok (.ireturn, 1) := by decide +kernel
theorem dX6_count_60 : decode cX6_count 60 = .ok (.aload_n 0, 1) := by decide +kernel
theorem dX6_count_61 : decode cX6_count 61 = .ok (.getfield 19, 3) := by decide +kernel
theorem dX6_count_64 : decode cX6_count 64 = .ok (.getfield 205, 3) := by decide +kernel
theorem dX6_count_67 : decode cX6_count 67 = .ok (.ireturn, 1) := by decide +kernel
theorem dX6_count_68 : decode cX6_count 68 = .ok (.aload_n 0, 1) := by decide +kernel
theorem dX6_count_69 : decode cX6_count 69 = .ok (.getfield 19, 3) := by decide +kernel
theorem dX6_count_72 : decode cX6_count 72 = .ok (.getfield 72, 3) := by decide +kernel
theorem dX6_count_75 : decode cX6_count 75 = .ok (.ireturn, 1) := by decide +kernel
theorem dX6_count_76 : decode cX6_count 76 = .ok (.aload_n 0, 1) := by decide +kernel
theorem dX6_count_77 : decode cX6_count 77 = .ok (.getfield 19, 3) := by decide +kernel
theorem dX6_count_80 : decode cX6_count 80 = .ok (.getfield 192, 3) := by decide +kernel
theorem dX6_count_83 : decode cX6_count 83 = .ok (.ireturn, 1) := by decide +kernel
theorem dX6_count_84 : decode cX6_count 84 = .ok (.aload_n 0, 1) := by decide +kernel
theorem dX6_count_85 : decode cX6_count 85 = .ok (.getfield 19, 3) := by decide +kernel
theorem dX6_count_88 : decode cX6_count 88 = .ok (.getfield 261, 3) := by decide +kernel
theorem dX6_count_91 : decode cX6_count 91 = .ok (.ireturn, 1) := by decide +kernel
theorem dX6_count_92 : decode cX6_count 92 = .ok (.aload_n 0, 1) := by decide +kernel
theorem dX6_count_93 : decode cX6_count 93 = .ok (.getfield 19, 3) := by decide +kernel
theorem dX6_count_96 : decode cX6_count 96 = .ok (.getfield 264, 3) := by decide +kernel
theorem dX6_count_99 : decode cX6_count 99 = .ok (.ireturn, 1) := by decide +kernel
theorem dX6_count_100 : decode cX6_count 100 = .ok (.aload_n 0, 1) := by decide +kernel
theorem dX6_count_101 : decode cX6_count 101 = .ok (.getfield 214, 3) := by decide +kernel
theorem dX6_count_104 : decode cX6_count 104 = .ok (.ireturn, 1) := by decide +kernel
theorem dX6_count_105 : decode cX6_count 105 = .ok (.aload_n 0, 1) := by decide +kernel
theorem dX6_count_106 : decode cX6_count 106 = .ok (.getfield 226, 3) := by decide +kernel
theorem dX6_count_109 : decode cX6_count 109 = .ok (.ireturn, 1) := by decide +kernel
theorem dX6_count_110 : decode cX6_count 110 = .ok (.aload_n 0, 1) := by decide +kernel
theorem dX6_count_111 : decode cX6_count 111 = .ok (.getfield 10, 3) := by decide +kernel
theorem dX6_count_114 : decode cX6_count 114 = .ok (.invokevirtual 88, 3) := by decide +kernel
theorem dX6_count_117 : decode cX6_count 117 = .ok (.ireturn, 1) := by decide +kernel
theorem dX6_count_118 : decode cX6_count 118 = .ok (.iconst (-1), 1) := by decide +kernel
theorem dX6_count_119 : decode cX6_count 119 = .ok (.ireturn, 1) := by decide +kernel
theorem dX6_trace_0 : decode cX6_trace 0 = .ok (.aload_n 0, 1) := by decide +kernel
theorem dX6_trace_1 : decode cX6_trace 1 = .ok (.getfield 267, 3) := by decide +kernel
theorem dX6_trace_4 : decode cX6_trace 4 = .ok (.lreturn, 1) := by decide +kernel
theorem dX6_isWithin_0 : decode cX6_isWithin 0 = .ok (.iload_n 0, 1) := by decide +kernel
theorem dX6_isWithin_1 : decode cX6_isWithin 1 = .ok (.iload_n 1, 1) := by decide +kernel
theorem dX6_isWithin_2 : decode cX6_isWithin 2 = .ok (.if_icmp .lt 12, 3) := by decide +kernel
theorem dX6_isWithin_5 : decode cX6_isWithin 5 = .ok (.iload_n 0, 1) := by decide +kernel
theorem dX6_isWithin_6 : decode cX6_isWithin 6 = .ok (.iload_n 2, 1) := by decide +kernel
theorem dX6_isWithin_7 : decode cX6_isWithin 7 = .ok (.if_icmp .gt 7, 3) := by decide +kernel
theorem dX6_isWithin_10 : decode cX6_isWithin 10 = .ok (.iconst 1, 1) := by decide +kernel
theorem dX6_isWithin_11 : decode cX6_isWithin 11 = .ok (.goto 4, 3) := by decide +kernel
theorem dX6_isWithin_14 : decode cX6_isWithin 14 = .ok (.iconst 0, 1) := by decide +kernel
theorem dX6_isWithin_15 : decode cX6_isWithin 15 = .ok (.ireturn, 1) := by decide +kernel
theorem dX6_has_0 : decode cX6_has 0 = .ok (.iload_n 0, 1) := by decide +kernel
theorem dX6_has_1 : decode cX6_has 1 = .ok (.iload_n 1, 1) := by decide +kernel
theorem dX6_has_2 : decode cX6_has 2 = .ok (.ishr, 1) := by decide +kernel
theorem dX6_has_3 : decode cX6_has 3 = .ok (.iconst 1, 1) := by decide +kernel
theorem dX6_has_4 : decode cX6_has 4 = .ok (.iand, 1) := by decide +kernel
theorem dX6_has_5 : decode cX6_has 5 = .ok (.ifCond .eq 7, 3) := by decide +kernel
theorem dX6_has_8 : decode cX6_has 8 = .ok (.iconst 1, 1) := by decide +kernel
theorem dX6_has_9 : decode cX6_has 9 = .ok (.goto 4, 3) := by decide +kernel
theorem dX6_has_12 : decode cX6_has 12 = .ok (.iconst 0, 1) := by decide +kernel
theorem dX6_has_13 : decode cX6_has 13 = .ok (.ireturn, 1) := by decide +kernel
theorem dX6_beginAnew_0 : decode cX6_beginAnew 0 = .ok (.aload_n 0, 1) := by decide +kernel
theorem dX6_beginAnew_1 : decode cX6_beginAnew 1 = .ok (.getfield 29, 3) := by decide +kernel
theorem dX6_beginAnew_4 : decode cX6_beginAnew 4 = .ok (.aload_n 0, 1) := by decide +kernel
theorem dX6_beginAnew_5 : decode cX6_beginAnew 5 = .ok (.getfield 19, 3) := by decide +kernel
theorem dX6_beginAnew_8 : decode cX6_beginAnew 8 = .ok (.getfield 72, 3) := by decide +kernel
theorem dX6_beginAnew_11 : decode cX6_beginAnew 11 = .ok (.invokevirtual 76, 3) := by decide +kernel
theorem dX6_beginAnew_14 : decode cX6_beginAnew 14 = .ok (.aload_n 0, 1) := by decide +kernel
theorem dX6_beginAnew_15 : decode cX6_beginAnew 15 = .ok (.getfield 36, 3) := by decide +kernel
theorem dX6_beginAnew_18 : decode cX6_beginAnew 18 = .ok (.invokevirtual 255, 3) := by decide +kernel
theorem dX6_beginAnew_21 : decode cX6_beginAnew 21 = .ok (.aload_n 0, 1) := by decide +kernel
theorem dX6_beginAnew_22 : decode cX6_beginAnew 22 = .ok (.iconst 0, 1) := by decide +kernel
theorem dX6_beginAnew_23 : decode cX6_beginAnew 23 = .ok (.putfield 214, 3) := by decide +kernel
theorem dX6_beginAnew_26 : decode cX6_beginAnew 26 = .ok (.aload_n 0, 1) := by decide +kernel
theorem dX6_beginAnew_27 : decode cX6_beginAnew 27 = .ok (.iconst 0, 1) := by decide +kernel
theorem dX6_beginAnew_28 : decode cX6_beginAnew 28 = .ok (.putfield 226, 3) := by decide +kernel
theorem dX6_beginAnew_31 : decode cX6_beginAnew 31 = .ok (.iconst 0, 1) := by decide +kernel
theorem dX6_beginAnew_32 : decode cX6_beginAnew 32 = .ok (.istore_n 1, 1) := by decide +kernel
theorem dX6_beginAnew_33 : decode cX6_beginAnew 33 = .ok (.iload_n 1, 1) := by decide +kernel
theorem dX6_beginAnew_34 : decode cX6_beginAnew 34 = .ok (.iconst 2, 1) := by decide +kernel
theorem dX6_beginAnew_35 : decode cX6_beginAnew 35 = .ok (.if_icmp .ge 16, 3) := by decide +kernel
theorem dX6_beginAnew_38 : decode cX6_beginAnew 38 = .ok (.aload_n 0, 1) := by decide +kernel
theorem dX6_beginAnew_39 : decode cX6_beginAnew 39 = .ok (.getfield 68, 3) := by decide +kernel
theorem dX6_beginAnew_42 : decode cX6_beginAnew 42 = .ok (.iload_n 1, 1) := by decide +kernel
theorem dX6_beginAnew_43 : decode cX6_beginAnew 43 = .ok (.iconst 0, 1) := by decide +kernel
theorem dX6_beginAnew_44 : decode cX6_beginAnew 44 = .ok (.bastore, 1) := by decide +kernel
theorem dX6_beginAnew_45 : decode cX6_beginAnew 45 = .ok (.iinc 1 1, 3) := by decide +kernel
theorem dX6_beginAnew_48 : decode cX6_beginAnew 48 = .ok (.goto (-15), 3) := by decide +kernel
theorem dX6_beginAnew_51 : decode cX6_beginAnew 51 = .ok (.return_, 1) := by decide +kernel
theorem dX6_longOf_0 : decode cX6_longOf 0 = .ok (.aload_n 0, 1) := by decide +kernel
theorem dX6_longOf_1 : decode cX6_longOf 1 = .ok (.getfield 19, 3) := by decide +kernel
theorem dX6_longOf_4 : decode cX6_longOf 4 = .ok (.getfield 271, 3) := by decide +kernel
theorem dX6_longOf_7 : decode cX6_longOf 7 = .ok (.iload_n 1, 1) := by decide +kernel
theorem dX6_longOf_8 : decode cX6_longOf 8 = .ok (.iaload, 1) := by decide +kernel
theorem dX6_longOf_9 : decode cX6_longOf 9 = .ok (.aload_n 0, 1) := by decide +kernel
theorem dX6_longOf_10 : decode cX6_longOf 10 = .ok (.getfield 29, 3) := by decide +kernel
theorem dX6_longOf_13 : decode cX6_longOf 13 = .ok (.getfield 115, 3) := by decide +kernel
theorem dX6_longOf_16 : decode cX6_longOf 16 = .ok (.iload_n 1, 1) := by decide +kernel
theorem dX6_longOf_17 : decode cX6_longOf 17 = .ok (.iaload, 1) := by decide +kernel
theorem dX6_longOf_18 : decode cX6_longOf 18 = .ok (.iadd, 1) := by decide +kernel
theorem dX6_longOf_19 : decode cX6_longOf 19 = .ok (.ireturn, 1) := by decide +kernel
theorem dX6_openRoads_0 : decode cX6_openRoads 0 = .ok (.aload_n 0, 1) := by decide +kernel
theorem dX6_openRoads_1 : decode cX6_openRoads 1 = .ok (.getfield 19, 3) := by decide +kernel
theorem dX6_openRoads_4 : decode cX6_openRoads 4 = .ok (.invokevirtual 273, 3) := by decide +kernel
theorem dX6_openRoads_7 : decode cX6_openRoads 7 = .ok (.aload_n 0, 1) := by decide +kernel
theorem dX6_openRoads_8 : decode cX6_openRoads 8 = .ok (.getfield 29, 3) := by decide +kernel
theorem dX6_openRoads_11 : decode cX6_openRoads 11 = .ok (.getfield 145, 3) := by decide +kernel
theorem dX6_openRoads_14 : decode cX6_openRoads 14 = .ok (.iconst (-1), 1) := by decide +kernel
theorem dX6_openRoads_15 : decode cX6_openRoads 15 = .ok (.ixor, 1) := by decide +kernel
theorem dX6_openRoads_16 : decode cX6_openRoads 16 = .ok (.iand, 1) := by decide +kernel
theorem dX6_openRoads_17 : decode cX6_openRoads 17 = .ok (.ireturn, 1) := by decide +kernel
theorem dX6_canTake_0 : decode cX6_canTake 0 = .ok (.aload_n 0, 1) := by decide +kernel
theorem dX6_canTake_1 : decode cX6_canTake 1 = .ok (.getfield 29, 3) := by decide +kernel
theorem dX6_canTake_4 : decode cX6_canTake 4 = .ok (.iload_n 1, 1) := by decide +kernel
theorem dX6_canTake_5 : decode cX6_canTake 5 = .ok (.invokevirtual 118, 3) := by decide +kernel
theorem dX6_canTake_8 : decode cX6_canTake 8 = .ok (.ifCond .ne 19, 3) := by decide +kernel
theorem dX6_canTake_11 : decode cX6_canTake 11 = .ok (.aload_n 0, 1) := by decide +kernel
theorem dX6_canTake_12 : decode cX6_canTake 12 = .ok (.getfield 19, 3) := by decide +kernel
theorem dX6_canTake_15 : decode cX6_canTake 15 = .ok (.iload_n 1, 1) := by decide +kernel
theorem dX6_canTake_16 : decode cX6_canTake 16 = .ok (.iload_n 2, 1) := by decide +kernel
theorem dX6_canTake_17 : decode cX6_canTake 17 = .ok (.invokevirtual 276, 3) := by decide +kernel
theorem dX6_canTake_20 : decode cX6_canTake 20 = .ok (.ifCond .eq 7, 3) := by decide +kernel
theorem dX6_canTake_23 : decode cX6_canTake 23 = .ok (.iconst 1, 1) := by decide +kernel
theorem dX6_canTake_24 : decode cX6_canTake 24 = .ok (.goto 4, 3) := by decide +kernel
theorem dX6_canTake_27 : decode cX6_canTake 27 = .ok (.iconst 0, 1) := by decide +kernel
theorem dX6_canTake_28 : decode cX6_canTake 28 = .ok (.ireturn, 1) := by decide +kernel
theorem dX6_minutesOfTaking_0 : decode cX6_minutesOfTaking 0 = .ok (.aload_n 0, 1) := by decide +kernel
theorem dX6_minutesOfTaking_1 : decode cX6_minutesOfTaking 1 = .ok (.iload_n 2, 1) := by decide +kernel
theorem dX6_minutesOfTaking_2 : decode cX6_minutesOfTaking 2 = .ok (.invokevirtual 111, 3) := by decide +kernel
theorem dX6_minutesOfTaking_5 : decode cX6_minutesOfTaking 5 = .ok (.aload_n 0, 1) := by decide +kernel
theorem dX6_minutesOfTaking_6 : decode cX6_minutesOfTaking 6 = .ok (.getfield 19, 3) := by decide +kernel
theorem dX6_minutesOfTaking_9 : decode cX6_minutesOfTaking 9 = .ok (.iload_n 1, 1) := by decide +kernel
theorem dX6_minutesOfTaking_10 : decode cX6_minutesOfTaking 10 = .ok (.iload_n 2, 1) := by decide +kernel
theorem dX6_minutesOfTaking_11 : decode cX6_minutesOfTaking 11 = .ok (.invokevirtual 279, 3) := by decide +kernel
theorem dX6_minutesOfTaking_14 : decode cX6_minutesOfTaking 14 = .ok (.iadd, 1) := by decide +kernel
theorem dX6_minutesOfTaking_15 : decode cX6_minutesOfTaking 15 = .ok (.ireturn, 1) := by decide +kernel
theorem dX6_minutesOneByOne_0 : decode cX6_minutesOneByOne 0 = .ok (.iload_n 1, 1) := by decide +kernel
theorem dX6_minutesOneByOne_1 : decode cX6_minutesOneByOne 1 = .ok (.ifCond .ne 7, 3) := by decide +kernel
theorem dX6_minutesOneByOne_4 : decode cX6_minutesOneByOne 4 = .ok (.iconst 0, 1) := by decide +kernel
theorem dX6_minutesOneByOne_5 : decode cX6_minutesOneByOne 5 = .ok (.goto 4, 3) := by decide +kernel
theorem dX6_minutesOneByOne_8 : decode cX6_minutesOneByOne 8 = .ok (.iload_n 2, 1) := by decide +kernel
theorem dX6_minutesOneByOne_9 : decode cX6_minutesOneByOne 9 = .ok (.istore_n 3, 1) := by decide +kernel
theorem dX6_minutesOneByOne_10 : decode cX6_minutesOneByOne 10 = .ok (.iconst 1, 1) := by decide +kernel
theorem dX6_minutesOneByOne_11 : decode cX6_minutesOneByOne 11 = .ok (.istore 4, 2) := by decide +kernel
theorem dX6_minutesOneByOne_13 : decode cX6_minutesOneByOne 13 = .ok (.iload 4, 2) := by decide +kernel
theorem dX6_minutesOneByOne_15 : decode cX6_minutesOneByOne 15 = .ok (.iload_n 1, 1) := by decide +kernel
theorem dX6_minutesOneByOne_16 : decode cX6_minutesOneByOne 16 = .ok (.if_icmp .ge 42, 3) := by decide +kernel
theorem dX6_minutesOneByOne_19 : decode cX6_minutesOneByOne 19 = .ok (.aload_n 0, 1) := by decide +kernel
theorem dX6_minutesOneByOne_20 : decode cX6_minutesOneByOne 20 = .ok (.getfield 43, 3) := by decide +kernel
theorem dX6_minutesOneByOne_23 : decode cX6_minutesOneByOne 23 = .ok (.aload_n 0, 1) := by decide +kernel
theorem dX6_minutesOneByOne_24 : decode cX6_minutesOneByOne 24 = .ok (.getfield 19, 3) := by decide +kernel
theorem dX6_minutesOneByOne_27 : decode cX6_minutesOneByOne 27 = .ok (.getfield 264, 3) := by decide +kernel
theorem dX6_minutesOneByOne_30 : decode cX6_minutesOneByOne 30 = .ok (.invokevirtual 282, 3) := by decide +kernel
theorem dX6_minutesOneByOne_33 : decode cX6_minutesOneByOne 33 = .ok (.iload_n 3, 1) := by decide +kernel
theorem dX6_minutesOneByOne_34 : decode cX6_minutesOneByOne 34 = .ok (.aload_n 0, 1) := by decide +kernel
theorem dX6_minutesOneByOne_35 : decode cX6_minutesOneByOne 35 = .ok (.getfield 43, 3) := by decide +kernel
theorem dX6_minutesOneByOne_38 : decode cX6_minutesOneByOne 38 = .ok (.aload_n 0, 1) := by decide +kernel
theorem dX6_minutesOneByOne_39 : decode cX6_minutesOneByOne 39 = .ok (.getfield 19, 3) := by decide +kernel
theorem dX6_minutesOneByOne_42 : decode cX6_minutesOneByOne 42 = .ok (.getfield 72, 3) := by decide +kernel
theorem dX6_minutesOneByOne_45 : decode cX6_minutesOneByOne 45 = .ok (.bipush (-9), 2) := by decide +kernel
theorem dX6_minutesOneByOne_47 : decode cX6_minutesOneByOne 47 = .ok (.invokevirtual 180, 3) := by decide +kernel
theorem dX6_minutesOneByOne_50 : decode cX6_minutesOneByOne 50 = .ok (.iadd, 1) := by decide +kernel
theorem dX6_minutesOneByOne_51 : decode cX6_minutesOneByOne 51 = .ok (.istore_n 3, 1) := by decide +kernel
theorem dX6_minutesOneByOne_52 : decode cX6_minutesOneByOne 52 = .ok (.iinc 4 1, 3) := by decide +kernel
theorem dX6_minutesOneByOne_55 : decode cX6_minutesOneByOne 55 = .ok (.goto (-42), 3) := by decide +kernel
theorem dX6_minutesOneByOne_58 : decode cX6_minutesOneByOne 58 = .ok (.iload_n 3, 1) := by decide +kernel
theorem dX6_minutesOneByOne_59 : decode cX6_minutesOneByOne 59 = .ok (.ireturn, 1) := by decide +kernel
theorem dX6_minutesAlike_0 : decode cX6_minutesAlike 0 = .ok (.iload_n 2, 1) := by decide +kernel
theorem dX6_minutesAlike_1 : decode cX6_minutesAlike 1 = .ok (.aload_n 0, 1) := by decide +kernel
theorem dX6_minutesAlike_2 : decode cX6_minutesAlike 2 = .ok (.getfield 19, 3) := by decide +kernel
theorem dX6_minutesAlike_5 : decode cX6_minutesAlike 5 = .ok (.getfield 264, 3) := by decide +kernel
theorem dX6_minutesAlike_8 : decode cX6_minutesAlike 8 = .ok (.iload_n 1, 1) := by decide +kernel
theorem dX6_minutesAlike_9 : decode cX6_minutesAlike 9 = .ok (.iconst 1, 1) := by decide +kernel
theorem dX6_minutesAlike_10 : decode cX6_minutesAlike 10 = .ok (.isub, 1) := by decide +kernel
theorem dX6_minutesAlike_11 : decode cX6_minutesAlike 11 = .ok (.imul, 1) := by decide +kernel
theorem dX6_minutesAlike_12 : decode cX6_minutesAlike 12 = .ok (.aload_n 0, 1) := by decide +kernel
theorem dX6_minutesAlike_13 : decode cX6_minutesAlike 13 = .ok (.getfield 43, 3) := by decide +kernel
theorem dX6_minutesAlike_16 : decode cX6_minutesAlike 16 = .ok (.invokevirtual 285, 3) := by decide +kernel
theorem dX6_minutesAlike_19 : decode cX6_minutesAlike 19 = .ok (.imul, 1) := by decide +kernel
theorem dX6_minutesAlike_20 : decode cX6_minutesAlike 20 = .ok (.iadd, 1) := by decide +kernel
theorem dX6_minutesAlike_21 : decode cX6_minutesAlike 21 = .ok (.istore_n 3, 1) := by decide +kernel
theorem dX6_minutesAlike_22 : decode cX6_minutesAlike 22 = .ok (.iload_n 1, 1) := by decide +kernel
theorem dX6_minutesAlike_23 : decode cX6_minutesAlike 23 = .ok (.iload_n 3, 1) := by decide +kernel
theorem dX6_minutesAlike_24 : decode cX6_minutesAlike 24 = .ok (.imul, 1) := by decide +kernel
theorem dX6_minutesAlike_25 : decode cX6_minutesAlike 25 = .ok (.ireturn, 1) := by decide +kernel
theorem dX6_oneRoadOn_0 : decode cX6_oneRoadOn 0 = .ok (.aload_n 0, 1) := by decide +kernel
theorem dX6_oneRoadOn_1 : decode cX6_oneRoadOn 1 = .ok (.invokevirtual 130, 3) := by decide +kernel
theorem dX6_oneRoadOn_4 : decode cX6_oneRoadOn 4 = .ok (.istore_n 2, 1) := by decide +kernel
theorem dX6_oneRoadOn_5 : decode cX6_oneRoadOn 5 = .ok (.iconst 0, 1) := by decide +kernel
theorem dX6_oneRoadOn_6 : decode cX6_oneRoadOn 6 = .ok (.istore_n 3, 1) := by decide +kernel
theorem dX6_oneRoadOn_7 : decode cX6_oneRoadOn 7 = .ok (.iconst 0, 1) := by decide +kernel
theorem dX6_oneRoadOn_8 : decode cX6_oneRoadOn 8 = .ok (.istore 4, 2) := by decide +kernel
theorem dX6_oneRoadOn_10 : decode cX6_oneRoadOn 10 = .ok (.iload 4, 2) := by decide +kernel
theorem dX6_oneRoadOn_12 : decode cX6_oneRoadOn 12 = .ok (.aload_n 0, 1) := by decide +kernel
theorem dX6_oneRoadOn_13 : decode cX6_oneRoadOn 13 = .ok (.getfield 19, 3) := by decide +kernel
theorem dX6_oneRoadOn_16 : decode cX6_oneRoadOn 16 = .ok (.getfield 205, 3) := by decide +kernel
theorem dX6_oneRoadOn_19 : decode cX6_oneRoadOn 19 = .ok (.if_icmp .ge 82, 3) := by decide +kernel
theorem dX6_oneRoadOn_22 : decode cX6_oneRoadOn 22 = .ok (.iload_n 2, 1) := by decide +kernel
theorem dX6_oneRoadOn_23 : decode cX6_oneRoadOn 23 = .ok (.iload 4, 2) := by decide +kernel
theorem dX6_oneRoadOn_25 : decode cX6_oneRoadOn 25 = .ok (.invokestatic 208, 3) := by decide +kernel
theorem dX6_oneRoadOn_28 : decode cX6_oneRoadOn 28 = .ok (.ifCond .eq 67, 3) := by decide +kernel
theorem dX6_oneRoadOn_31 : decode cX6_oneRoadOn 31 = .ok (.iload_n 1, 1) := by decide +kernel
theorem dX6_oneRoadOn_32 : decode cX6_oneRoadOn 32 = .ok (.aload_n 0, 1) := by decide +kernel
theorem dX6_oneRoadOn_33 : decode cX6_oneRoadOn 33 = .ok (.getfield 19, 3) := by decide +kernel
theorem dX6_oneRoadOn_36 : decode cX6_oneRoadOn 36 = .ok (.getfield 105, 3) := by decide +kernel
theorem dX6_oneRoadOn_39 : decode cX6_oneRoadOn 39 = .ok (.iload 4, 2) := by decide +kernel
theorem dX6_oneRoadOn_41 : decode cX6_oneRoadOn 41 = .ok (.iaload, 1) := by decide +kernel
theorem dX6_oneRoadOn_42 : decode cX6_oneRoadOn 42 = .ok (.invokestatic 208, 3) := by decide +kernel
theorem dX6_oneRoadOn_45 : decode cX6_oneRoadOn 45 = .ok (.ifCond .eq 18, 3) := by decide +kernel
theorem dX6_oneRoadOn_48 : decode cX6_oneRoadOn 48 = .ok (.iload_n 3, 1) := by decide +kernel
theorem dX6_oneRoadOn_49 : decode cX6_oneRoadOn 49 = .ok (.iconst 1, 1) := by decide +kernel
theorem dX6_oneRoadOn_50 : decode cX6_oneRoadOn 50 = .ok (.aload_n 0, 1) := by decide +kernel
theorem dX6_oneRoadOn_51 : decode cX6_oneRoadOn 51 = .ok (.getfield 19, 3) := by decide +kernel
theorem dX6_oneRoadOn_54 : decode cX6_oneRoadOn 54 = .ok (.getfield 108, 3) := by decide +kernel
theorem dX6_oneRoadOn_57 : decode cX6_oneRoadOn 57 = .ok (.iload 4, 2) := by decide +kernel
theorem dX6_oneRoadOn_59 : decode cX6_oneRoadOn 59 = .ok (.iaload, 1) := by decide +kernel
theorem dX6_oneRoadOn_60 : decode cX6_oneRoadOn 60 = .ok (.ishl, 1) := by decide +kernel
theorem dX6_oneRoadOn_61 : decode cX6_oneRoadOn 61 = .ok (.ior, 1) := by decide +kernel
theorem dX6_oneRoadOn_62 : decode cX6_oneRoadOn 62 = .ok (.istore_n 3, 1) := by decide +kernel
theorem dX6_oneRoadOn_63 : decode cX6_oneRoadOn 63 = .ok (.iload_n 1, 1) := by decide +kernel
theorem dX6_oneRoadOn_64 : decode cX6_oneRoadOn 64 = .ok (.aload_n 0, 1) := by decide +kernel
theorem dX6_oneRoadOn_65 : decode cX6_oneRoadOn 65 = .ok (.getfield 19, 3) := by decide +kernel
theorem dX6_oneRoadOn_68 : decode cX6_oneRoadOn 68 = .ok (.getfield 108, 3) := by decide +kernel
theorem dX6_oneRoadOn_71 : decode cX6_oneRoadOn 71 = .ok (.iload 4, 2) := by decide +kernel
theorem dX6_oneRoadOn_73 : decode cX6_oneRoadOn 73 = .ok (.iaload, 1) := by decide +kernel
theorem dX6_oneRoadOn_74 : decode cX6_oneRoadOn 74 = .ok (.invokestatic 208, 3) := by decide +kernel
theorem dX6_oneRoadOn_77 : decode cX6_oneRoadOn 77 = .ok (.ifCond .eq 18, 3) := by decide +kernel
theorem dX6_oneRoadOn_80 : decode cX6_oneRoadOn 80 = .ok (.iload_n 3, 1) := by decide +kernel
theorem dX6_oneRoadOn_81 : decode cX6_oneRoadOn 81 = .ok (.iconst 1, 1) := by decide +kernel
theorem dX6_oneRoadOn_82 : decode cX6_oneRoadOn 82 = .ok (.aload_n 0, 1) := by decide +kernel
theorem dX6_oneRoadOn_83 : decode cX6_oneRoadOn 83 = .ok (.getfield 19, 3) := by decide +kernel
theorem dX6_oneRoadOn_86 : decode cX6_oneRoadOn 86 = .ok (.getfield 105, 3) := by decide +kernel
theorem dX6_oneRoadOn_89 : decode cX6_oneRoadOn 89 = .ok (.iload 4, 2) := by decide +kernel
theorem dX6_oneRoadOn_91 : decode cX6_oneRoadOn 91 = .ok (.iaload, 1) := by decide +kernel
theorem dX6_oneRoadOn_92 : decode cX6_oneRoadOn 92 = .ok (.ishl, 1) := by decide +kernel
theorem dX6_oneRoadOn_93 : decode cX6_oneRoadOn 93 = .ok (.ior, 1) := by decide +kernel
theorem dX6_oneRoadOn_94 : decode cX6_oneRoadOn 94 = .ok (.istore_n 3, 1) := by decide +kernel
theorem dX6_oneRoadOn_95 : decode cX6_oneRoadOn 95 = .ok (.iinc 4 1, 3) := by decide +kernel
theorem dX6_oneRoadOn_98 : decode cX6_oneRoadOn 98 = .ok (.goto (-88), 3) := by decide +kernel
theorem dX6_oneRoadOn_101 : decode cX6_oneRoadOn 101 = .ok (.iload_n 3, 1) := by decide +kernel
theorem dX6_oneRoadOn_102 : decode cX6_oneRoadOn 102 = .ok (.ireturn, 1) := by decide +kernel
theorem dX6_asSeen_0 : decode cX6_asSeen 0 = .ok (.iload_n 1, 1) := by decide +kernel
theorem dX6_asSeen_1 : decode cX6_asSeen 1 = .ok (.istore_n 3, 1) := by decide +kernel
theorem dX6_asSeen_2 : decode cX6_asSeen 2 = .ok (.iconst 0, 1) := by decide +kernel
theorem dX6_asSeen_3 : decode cX6_asSeen 3 = .ok (.istore 4, 2) := by decide +kernel
theorem dX6_asSeen_5 : decode cX6_asSeen 5 = .ok (.iload 4, 2) := by decide +kernel
theorem dX6_asSeen_7 : decode cX6_asSeen 7 = .ok (.aload_n 0, 1) := by decide +kernel
theorem dX6_asSeen_8 : decode cX6_asSeen 8 = .ok (.getfield 226, 3) := by decide +kernel
theorem dX6_asSeen_11 : decode cX6_asSeen 11 = .ok (.if_icmp .ge 32, 3) := by decide +kernel
theorem dX6_asSeen_14 : decode cX6_asSeen 14 = .ok (.aload_n 0, 1) := by decide +kernel
theorem dX6_asSeen_15 : decode cX6_asSeen 15 = .ok (.getfield 58, 3) := by decide +kernel
theorem dX6_asSeen_18 : decode cX6_asSeen 18 = .ok (.iload 4, 2) := by decide +kernel
theorem dX6_asSeen_20 : decode cX6_asSeen 20 = .ok (.iaload, 1) := by decide +kernel
theorem dX6_asSeen_21 : decode cX6_asSeen 21 = .ok (.iload_n 2, 1) := by decide +kernel
theorem dX6_asSeen_22 : decode cX6_asSeen 22 = .ok (.if_icmp .ne 15, 3) := by decide +kernel
theorem dX6_asSeen_25 : decode cX6_asSeen 25 = .ok (.iload_n 3, 1) := by decide +kernel
theorem dX6_asSeen_26 : decode cX6_asSeen 26 = .ok (.iconst 1, 1) := by decide +kernel
theorem dX6_asSeen_27 : decode cX6_asSeen 27 = .ok (.aload_n 0, 1) := by decide +kernel
theorem dX6_asSeen_28 : decode cX6_asSeen 28 = .ok (.getfield 61, 3) := by decide +kernel
theorem dX6_asSeen_31 : decode cX6_asSeen 31 = .ok (.iload 4, 2) := by decide +kernel
theorem dX6_asSeen_33 : decode cX6_asSeen 33 = .ok (.iaload, 1) := by decide +kernel
theorem dX6_asSeen_34 : decode cX6_asSeen 34 = .ok (.ishl, 1) := by decide +kernel
theorem dX6_asSeen_35 : decode cX6_asSeen 35 = .ok (.iand, 1) := by decide +kernel
theorem dX6_asSeen_36 : decode cX6_asSeen 36 = .ok (.istore_n 3, 1) := by decide +kernel
theorem dX6_asSeen_37 : decode cX6_asSeen 37 = .ok (.iinc 4 1, 3) := by decide +kernel
theorem dX6_asSeen_40 : decode cX6_asSeen 40 = .ok (.goto (-35), 3) := by decide +kernel
theorem dX6_asSeen_43 : decode cX6_asSeen 43 = .ok (.iload_n 3, 1) := by decide +kernel
theorem dX6_asSeen_44 : decode cX6_asSeen 44 = .ok (.ireturn, 1) := by decide +kernel
theorem dX6_ratedAs_0 : decode cX6_ratedAs 0 = .ok (.aload_n 0, 1) := by decide +kernel
theorem dX6_ratedAs_1 : decode cX6_ratedAs 1 = .ok (.dup, 1) := by decide +kernel
theorem dX6_ratedAs_2 : decode cX6_ratedAs 2 = .ok (.getfield 267, 3) := by decide +kernel
theorem dX6_ratedAs_5 : decode cX6_ratedAs 5 = .ok (.getstatic 288, 3) := by decide +kernel
theorem dX6_ratedAs_8 : decode cX6_ratedAs 8 = .ok (.iload_n 1, 1) := by decide +kernel
theorem dX6_ratedAs_9 : decode cX6_ratedAs 9 = .ok (.iaload, 1) := by decide +kernel
theorem dX6_ratedAs_10 : decode cX6_ratedAs 10 = .ok (.i2l, 1) := by decide +kernel
theorem dX6_ratedAs_11 : decode cX6_ratedAs 11 = .ok (.ladd, 1) := by decide +kernel
theorem dX6_ratedAs_12 : decode cX6_ratedAs 12 = .ok (.putfield 267, 3) := by decide +kernel
theorem dX6_ratedAs_15 : decode cX6_ratedAs 15 = .ok (.getstatic 291, 3) := by decide +kernel
theorem dX6_ratedAs_18 : decode cX6_ratedAs 18 = .ok (.iload_n 1, 1) := by decide +kernel
theorem dX6_ratedAs_19 : decode cX6_ratedAs 19 = .ok (.iaload, 1) := by decide +kernel
theorem dX6_ratedAs_20 : decode cX6_ratedAs 20 = .ok (.istore_n 3, 1) := by decide +kernel
theorem dX6_ratedAs_21 : decode cX6_ratedAs 21 = .ok (.iload_n 3, 1) := by decide +kernel
theorem dX6_ratedAs_22 : decode cX6_ratedAs 22 = .ok (.iconst 0, 1) := by decide +kernel
theorem dX6_ratedAs_23 : decode cX6_ratedAs 23 = .ok (.iload_n 1, 1) := by decide +kernel
theorem dX6_ratedAs_24 : decode cX6_ratedAs 24 = .ok (.iconst 1, 1) := by decide +kernel
theorem dX6_ratedAs_25 : decode cX6_ratedAs 25 = .ok (.isub, 1) := by decide +kernel
theorem dX6_ratedAs_26 : decode cX6_ratedAs 26 = .ok (.invokestatic 80, 3) := by decide +kernel
theorem dX6_ratedAs_29 : decode cX6_ratedAs 29 = .ok (.ifCond .eq 12, 3) := by decide +kernel
theorem dX6_ratedAs_32 : decode cX6_ratedAs 32 = .ok (.aload_n 0, 1) := by decide +kernel
theorem dX6_ratedAs_33 : decode cX6_ratedAs 33 = .ok (.iload_n 3, 1) := by decide +kernel
theorem dX6_ratedAs_34 : decode cX6_ratedAs 34 = .ok (.iload_n 2, 1) := by decide +kernel
theorem dX6_ratedAs_35 : decode cX6_ratedAs 35 = .ok (.invokevirtual 249, 3) := by decide +kernel
theorem dX6_ratedAs_38 : decode cX6_ratedAs 38 = .ok (.goto 8, 3) := by decide +kernel
theorem dX6_ratedAs_41 : decode cX6_ratedAs 41 = .ok (.aload_n 0, 1) := by decide +kernel
theorem dX6_ratedAs_42 : decode cX6_ratedAs 42 = .ok (.iload_n 2, 1) := by decide +kernel
theorem dX6_ratedAs_43 : decode cX6_ratedAs 43 = .ok (.invokevirtual 111, 3) := by decide +kernel
theorem dX6_ratedAs_46 : decode cX6_ratedAs 46 = .ok (.istore 4, 2) := by decide +kernel
theorem dX6_ratedAs_48 : decode cX6_ratedAs 48 = .ok (.iload_n 1, 1) := by decide +kernel
theorem dX6_ratedAs_49 : decode cX6_ratedAs 49 = .ok (.tableswitch 83 1 5 #[35, 48, 62, 67, 72], 35) := by decide +kernel
theorem dX6_ratedAs_84 : decode cX6_ratedAs 84 = .ok (.iload 4, 2) := by decide +kernel
theorem dX6_ratedAs_86 : decode cX6_ratedAs 86 = .ok (.aload_n 0, 1) := by decide +kernel
theorem dX6_ratedAs_87 : decode cX6_ratedAs 87 = .ok (.getfield 29, 3) := by decide +kernel
theorem dX6_ratedAs_90 : decode cX6_ratedAs 90 = .ok (.getfield 115, 3) := by decide +kernel
theorem dX6_ratedAs_93 : decode cX6_ratedAs 93 = .ok (.iload_n 2, 1) := by decide +kernel
theorem dX6_ratedAs_94 : decode cX6_ratedAs 94 = .ok (.iaload, 1) := by decide +kernel
theorem dX6_ratedAs_95 : decode cX6_ratedAs 95 = .ok (.iadd, 1) := by decide +kernel
theorem dX6_ratedAs_96 : decode cX6_ratedAs 96 = .ok (.ireturn, 1) := by decide +kernel
theorem dX6_ratedAs_97 : decode cX6_ratedAs 97 = .ok (.iload 4, 2) := by decide +kernel
theorem dX6_ratedAs_99 : decode cX6_ratedAs 99 = .ok (.aload_n 0, 1) := by decide +kernel
theorem dX6_ratedAs_100 : decode cX6_ratedAs 100 = .ok (.getfield 29, 3) := by decide +kernel
theorem dX6_ratedAs_103 : decode cX6_ratedAs 103 = .ok (.getfield 145, 3) := by decide +kernel
theorem dX6_ratedAs_106 : decode cX6_ratedAs 106 = .ok (.invokestatic 167, 3) := by decide +kernel
theorem dX6_ratedAs_109 : decode cX6_ratedAs 109 = .ok (.isub, 1) := by decide +kernel
theorem dX6_ratedAs_110 : decode cX6_ratedAs 110 = .ok (.ireturn, 1) := by decide +kernel
theorem dX6_ratedAs_111 : decode cX6_ratedAs 111 = .ok (.iconst 2, 1) := by decide +kernel
theorem dX6_ratedAs_112 : decode cX6_ratedAs 112 = .ok (.iload 4, 2) := by decide +kernel
theorem dX6_ratedAs_114 : decode cX6_ratedAs 114 = .ok (.imul, 1) := by decide +kernel
theorem dX6_ratedAs_115 : decode cX6_ratedAs 115 = .ok (.ireturn, 1) := by decide +kernel
