theorem dX7_roadsAt_54 : decode cX7_roadsAt 54 = .ok (.ireturn, 1) := by decide +kernel
theorem dX7_place_0 : decode cX7_place 0 = .ok (.aload_n 0, 1) := by decide +kernel
theorem dX7_place_1 : decode cX7_place 1 = .ok (.iconst 0, 1) := by decide +kernel
theorem dX7_place_2 : decode cX7_place 2 = .ok (.putfield 69, 3) := by decide +kernel
theorem dX7_place_5 : decode cX7_place 5 = .ok (.aload_n 0, 1) := by decide +kernel
theorem dX7_place_6 : decode cX7_place 6 = .ok (.iload_n 1, 1) := by decide +kernel
theorem dX7_place_7 : decode cX7_place 7 = .ok (.invokevirtual 150, 3) := by decide +kernel
theorem dX7_place_10 : decode cX7_place 10 = .ok (.ifCond .eq 15, 3) := by decide +kernel
theorem dX7_place_13 : decode cX7_place 13 = .ok (.aload_n 0, 1) := by decide +kernel
theorem dX7_place_14 : decode cX7_place 14 = .ok (.aload_n 0, 1) := by decide +kernel
theorem dX7_place_15 : decode cX7_place 15 = .ok (.invokevirtual 153, 3) := by decide +kernel
theorem dX7_place_18 : decode cX7_place 18 = .ok (.iload_n 1, 1) := by decide +kernel
theorem dX7_place_19 : decode cX7_place 19 = .ok (.invokevirtual 157, 3) := by decide +kernel
theorem dX7_place_22 : decode cX7_place 22 = .ok (.goto 4, 3) := by decide +kernel
theorem dX7_place_25 : decode cX7_place 25 = .ok (.iconst (-1), 1) := by decide +kernel
theorem dX7_place_26 : decode cX7_place 26 = .ok (.ireturn, 1) := by decide +kernel
theorem dX7_now_0 : decode cX7_now 0 = .ok (.aload_n 0, 1) := by decide +kernel
theorem dX7_now_1 : decode cX7_now 1 = .ok (.iconst 0, 1) := by decide +kernel
theorem dX7_now_2 : decode cX7_now 2 = .ok (.putfield 69, 3) := by decide +kernel
theorem dX7_now_5 : decode cX7_now 5 = .ok (.iload_n 1, 1) := by decide +kernel
theorem dX7_now_6 : decode cX7_now 6 = .ok (.iconst 0, 1) := by decide +kernel
theorem dX7_now_7 : decode cX7_now 7 = .ok (.iconst 5, 1) := by decide +kernel
theorem dX7_now_8 : decode cX7_now 8 = .ok (.invokestatic 73, 3) := by decide +kernel
theorem dX7_now_11 : decode cX7_now 11 = .ok (.ifCond .ne 5, 3) := by decide +kernel
theorem dX7_now_14 : decode cX7_now 14 = .ok (.iconst (-1), 1) := by decide +kernel
theorem dX7_now_15 : decode cX7_now 15 = .ok (.ireturn, 1) := by decide +kernel
theorem dX7_now_16 : decode cX7_now 16 = .ok (.iload_n 1, 1) := by decide +kernel
theorem dX7_now_17 : decode cX7_now 17 = .ok (.iconst 1, 1) := by decide +kernel
theorem dX7_now_18 : decode cX7_now 18 = .ok (.if_icmp .ne 28, 3) := by decide +kernel
theorem dX7_now_21 : decode cX7_now 21 = .ok (.aload_n 0, 1) := by decide +kernel
theorem dX7_now_22 : decode cX7_now 22 = .ok (.getfield 25, 3) := by decide +kernel
theorem dX7_now_25 : decode cX7_now 25 = .ok (.iconst 1, 1) := by decide +kernel
theorem dX7_now_26 : decode cX7_now 26 = .ok (.iaload, 1) := by decide +kernel
theorem dX7_now_27 : decode cX7_now 27 = .ok (.ifCond .ne 8, 3) := by decide +kernel
theorem dX7_now_30 : decode cX7_now 30 = .ok (.bipush (-9), 2) := by decide +kernel
theorem dX7_now_32 : decode cX7_now 32 = .ok (.goto 32, 3) := by decide +kernel
theorem dX7_now_35 : decode cX7_now 35 = .ok (.aload_n 0, 1) := by decide +kernel
theorem dX7_now_36 : decode cX7_now 36 = .ok (.getfield 25, 3) := by decide +kernel
theorem dX7_now_39 : decode cX7_now 39 = .ok (.iconst 1, 1) := by decide +kernel
theorem dX7_now_40 : decode cX7_now 40 = .ok (.iaload, 1) := by decide +kernel
theorem dX7_now_41 : decode cX7_now 41 = .ok (.iconst 1, 1) := by decide +kernel
theorem dX7_now_42 : decode cX7_now 42 = .ok (.isub, 1) := by decide +kernel
theorem dX7_now_43 : decode cX7_now 43 = .ok (.goto 21, 3) := by decide +kernel
theorem dX7_now_46 : decode cX7_now 46 = .ok (.iload_n 1, 1) := by decide +kernel
theorem dX7_now_47 : decode cX7_now 47 = .ok (.iconst 5, 1) := by decide +kernel
theorem dX7_now_48 : decode cX7_now 48 = .ok (.if_icmp .ne 10, 3) := by decide +kernel
theorem dX7_now_51 : decode cX7_now 51 = .ok (.aload_n 0, 1) := by decide +kernel
theorem dX7_now_52 : decode cX7_now 52 = .ok (.getfield 140, 3) := by decide +kernel
theorem dX7_now_55 : decode cX7_now 55 = .ok (.goto 9, 3) := by decide +kernel
theorem dX7_now_58 : decode cX7_now 58 = .ok (.aload_n 0, 1) := by decide +kernel
theorem dX7_now_59 : decode cX7_now 59 = .ok (.getfield 25, 3) := by decide +kernel
theorem dX7_now_62 : decode cX7_now 62 = .ok (.iload_n 1, 1) := by decide +kernel
theorem dX7_now_63 : decode cX7_now 63 = .ok (.iaload, 1) := by decide +kernel
theorem dX7_now_64 : decode cX7_now 64 = .ok (.ireturn, 1) := by decide +kernel
theorem dX7_notes_0 : decode cX7_notes 0 = .ok (.aload_n 0, 1) := by decide +kernel
theorem dX7_notes_1 : decode cX7_notes 1 = .ok (.getfield 140, 3) := by decide +kernel
theorem dX7_notes_4 : decode cX7_notes 4 = .ok (.bipush 10, 2) := by decide +kernel
theorem dX7_notes_6 : decode cX7_notes 6 = .ok (.if_icmp .ne 39, 3) := by decide +kernel
theorem dX7_notes_9 : decode cX7_notes 9 = .ok (.iconst 0, 1) := by decide +kernel
theorem dX7_notes_10 : decode cX7_notes 10 = .ok (.istore_n 1, 1) := by decide +kernel
theorem dX7_notes_11 : decode cX7_notes 11 = .ok (.iload_n 1, 1) := by decide +kernel
theorem dX7_notes_12 : decode cX7_notes 12 = .ok (.sipush 153, 3) := by decide +kernel
theorem dX7_notes_15 : decode cX7_notes 15 = .ok (.if_icmp .ge 24, 3) := by decide +kernel
theorem dX7_notes_18 : decode cX7_notes 18 = .ok (.aload_n 0, 1) := by decide +kernel
theorem dX7_notes_19 : decode cX7_notes 19 = .ok (.getfield 35, 3) := by decide +kernel
theorem dX7_notes_22 : decode cX7_notes 22 = .ok (.iload_n 1, 1) := by decide +kernel
theorem dX7_notes_23 : decode cX7_notes 23 = .ok (.aload_n 0, 1) := by decide +kernel
theorem dX7_notes_24 : decode cX7_notes 24 = .ok (.getfield 35, 3) := by decide +kernel
theorem dX7_notes_27 : decode cX7_notes 27 = .ok (.iload_n 1, 1) := by decide +kernel
theorem dX7_notes_28 : decode cX7_notes 28 = .ok (.bipush 17, 2) := by decide +kernel
theorem dX7_notes_30 : decode cX7_notes 30 = .ok (.iadd, 1) := by decide +kernel
theorem dX7_notes_31 : decode cX7_notes 31 = .ok (.iaload, 1) := by decide +kernel
theorem dX7_notes_32 : decode cX7_notes 32 = .ok (.iastore, 1) := by decide +kernel
theorem dX7_notes_33 : decode cX7_notes 33 = .ok (.iinc 1 1, 3) := by decide +kernel
theorem dX7_notes_36 : decode cX7_notes 36 = .ok (.goto (-25), 3) := by decide +kernel
theorem dX7_notes_39 : decode cX7_notes 39 = .ok (.aload_n 0, 1) := by decide +kernel
theorem dX7_notes_40 : decode cX7_notes 40 = .ok (.bipush 9, 2) := by decide +kernel
theorem dX7_notes_42 : decode cX7_notes 42 = .ok (.putfield 140, 3) := by decide +kernel
theorem dX7_notes_45 : decode cX7_notes 45 = .ok (.iconst 0, 1) := by decide +kernel
theorem dX7_notes_46 : decode cX7_notes 46 = .ok (.istore_n 1, 1) := by decide +kernel
theorem dX7_notes_47 : decode cX7_notes 47 = .ok (.iload_n 1, 1) := by decide +kernel
theorem dX7_notes_48 : decode cX7_notes 48 = .ok (.bipush 17, 2) := by decide +kernel
theorem dX7_notes_50 : decode cX7_notes 50 = .ok (.if_icmp .ge 29, 3) := by decide +kernel
theorem dX7_notes_53 : decode cX7_notes 53 = .ok (.aload_n 0, 1) := by decide +kernel
theorem dX7_notes_54 : decode cX7_notes 54 = .ok (.getfield 35, 3) := by decide +kernel
theorem dX7_notes_57 : decode cX7_notes 57 = .ok (.bipush 17, 2) := by decide +kernel
theorem dX7_notes_59 : decode cX7_notes 59 = .ok (.aload_n 0, 1) := by decide +kernel
theorem dX7_notes_60 : decode cX7_notes 60 = .ok (.getfield 140, 3) := by decide +kernel
theorem dX7_notes_63 : decode cX7_notes 63 = .ok (.imul, 1) := by decide +kernel
theorem dX7_notes_64 : decode cX7_notes 64 = .ok (.iload_n 1, 1) := by decide +kernel
theorem dX7_notes_65 : decode cX7_notes 65 = .ok (.iadd, 1) := by decide +kernel
theorem dX7_notes_66 : decode cX7_notes 66 = .ok (.aload_n 0, 1) := by decide +kernel
theorem dX7_notes_67 : decode cX7_notes 67 = .ok (.getfield 25, 3) := by decide +kernel
theorem dX7_notes_70 : decode cX7_notes 70 = .ok (.iload_n 1, 1) := by decide +kernel
theorem dX7_notes_71 : decode cX7_notes 71 = .ok (.iaload, 1) := by decide +kernel
theorem dX7_notes_72 : decode cX7_notes 72 = .ok (.iastore, 1) := by decide +kernel
theorem dX7_notes_73 : decode cX7_notes 73 = .ok (.iinc 1 1, 3) := by decide +kernel
theorem dX7_notes_76 : decode cX7_notes 76 = .ok (.goto (-29), 3) := by decide +kernel
theorem dX7_notes_79 : decode cX7_notes 79 = .ok (.aload_n 0, 1) := by decide +kernel
theorem dX7_notes_80 : decode cX7_notes 80 = .ok (.dup, 1) := by decide +kernel
theorem dX7_notes_81 : decode cX7_notes 81 = .ok (.getfield 140, 3) := by decide +kernel
theorem dX7_notes_84 : decode cX7_notes 84 = .ok (.iconst 1, 1) := by decide +kernel
theorem dX7_notes_85 : decode cX7_notes 85 = .ok (.iadd, 1) := by decide +kernel
theorem dX7_notes_86 : decode cX7_notes 86 = .ok (.putfield 140, 3) := by decide +kernel
theorem dX7_notes_89 : decode cX7_notes 89 = .ok (.return_, 1) := by decide +kernel
theorem dX7_isTurn_0 : decode cX7_isTurn 0 = .ok (.iload_n 1, 1) := by decide +kernel
theorem dX7_isTurn_1 : decode cX7_isTurn 1 = .ok (.ifCond .le 22, 3) := by decide +kernel
theorem dX7_isTurn_4 : decode cX7_isTurn 4 = .ok (.aload_n 0, 1) := by decide +kernel
theorem dX7_isTurn_5 : decode cX7_isTurn 5 = .ok (.getfield 22, 3) := by decide +kernel
theorem dX7_isTurn_8 : decode cX7_isTurn 8 = .ok (.iload_n 1, 1) := by decide +kernel
theorem dX7_isTurn_9 : decode cX7_isTurn 9 = .ok (.iconst 1, 1) := by decide +kernel
theorem dX7_isTurn_10 : decode cX7_isTurn 10 = .ok (.isub, 1) := by decide +kernel
theorem dX7_isTurn_11 : decode cX7_isTurn 11 = .ok (.iaload, 1) := by decide +kernel
theorem dX7_isTurn_12 : decode cX7_isTurn 12 = .ok (.iload_n 2, 1) := by decide +kernel
theorem dX7_isTurn_13 : decode cX7_isTurn 13 = .ok (.ishr, 1) := by decide +kernel
theorem dX7_isTurn_14 : decode cX7_isTurn 14 = .ok (.iconst 1, 1) := by decide +kernel
theorem dX7_isTurn_15 : decode cX7_isTurn 15 = .ok (.iand, 1) := by decide +kernel
theorem dX7_isTurn_16 : decode cX7_isTurn 16 = .ok (.ifCond .ne 7, 3) := by decide +kernel
theorem dX7_isTurn_19 : decode cX7_isTurn 19 = .ok (.iconst 1, 1) := by decide +kernel
theorem dX7_isTurn_20 : decode cX7_isTurn 20 = .ok (.goto 4, 3) := by decide +kernel
theorem dX7_isTurn_23 : decode cX7_isTurn 23 = .ok (.iconst 0, 1) := by decide +kernel
theorem dX7_isTurn_24 : decode cX7_isTurn 24 = .ok (.ireturn, 1) := by decide +kernel
theorem dX7_cost_0 : decode cX7_cost 0 = .ok (.aload_n 0, 1) := by decide +kernel
theorem dX7_cost_1 : decode cX7_cost 1 = .ok (.getfield 47, 3) := by decide +kernel
theorem dX7_cost_4 : decode cX7_cost 4 = .ok (.iload_n 2, 1) := by decide +kernel
theorem dX7_cost_5 : decode cX7_cost 5 = .ok (.iaload, 1) := by decide +kernel
theorem dX7_cost_6 : decode cX7_cost 6 = .ok (.aload_n 0, 1) := by decide +kernel
theorem dX7_cost_7 : decode cX7_cost 7 = .ok (.iload_n 1, 1) := by decide +kernel
theorem dX7_cost_8 : decode cX7_cost 8 = .ok (.iload_n 2, 1) := by decide +kernel
theorem dX7_cost_9 : decode cX7_cost 9 = .ok (.invokevirtual 160, 3) := by decide +kernel
theorem dX7_cost_12 : decode cX7_cost 12 = .ok (.ifCond .eq 12, 3) := by decide +kernel
theorem dX7_cost_15 : decode cX7_cost 15 = .ok (.aload_n 0, 1) := by decide +kernel
theorem dX7_cost_16 : decode cX7_cost 16 = .ok (.getfield 13, 3) := by decide +kernel
theorem dX7_cost_19 : decode cX7_cost 19 = .ok (.iconst 4, 1) := by decide +kernel
theorem dX7_cost_20 : decode cX7_cost 20 = .ok (.iaload, 1) := by decide +kernel
theorem dX7_cost_21 : decode cX7_cost 21 = .ok (.goto 4, 3) := by decide +kernel
theorem dX7_cost_24 : decode cX7_cost 24 = .ok (.iconst 0, 1) := by decide +kernel
theorem dX7_cost_25 : decode cX7_cost 25 = .ok (.iadd, 1) := by decide +kernel
theorem dX7_cost_26 : decode cX7_cost 26 = .ok (.ireturn, 1) := by decide +kernel
theorem dX7_asNow_0 : decode cX7_asNow 0 = .ok (.iconst 0, 1) := by decide +kernel
theorem dX7_asNow_1 : decode cX7_asNow 1 = .ok (.istore_n 1, 1) := by decide +kernel
theorem dX7_asNow_2 : decode cX7_asNow 2 = .ok (.iload_n 1, 1) := by decide +kernel
theorem dX7_asNow_3 : decode cX7_asNow 3 = .ok (.aload_n 0, 1) := by decide +kernel
theorem dX7_asNow_4 : decode cX7_asNow 4 = .ok (.getfield 13, 3) := by decide +kernel
theorem dX7_asNow_7 : decode cX7_asNow 7 = .ok (.iconst 1, 1) := by decide +kernel
theorem dX7_asNow_8 : decode cX7_asNow 8 = .ok (.iaload, 1) := by decide +kernel
theorem dX7_asNow_9 : decode cX7_asNow 9 = .ok (.if_icmp .ge 30, 3) := by decide +kernel
theorem dX7_asNow_12 : decode cX7_asNow 12 = .ok (.aload_n 0, 1) := by decide +kernel
theorem dX7_asNow_13 : decode cX7_asNow 13 = .ok (.getfield 47, 3) := by decide +kernel
theorem dX7_asNow_16 : decode cX7_asNow 16 = .ok (.iload_n 1, 1) := by decide +kernel
theorem dX7_asNow_17 : decode cX7_asNow 17 = .ok (.aload_n 0, 1) := by decide +kernel
theorem dX7_asNow_18 : decode cX7_asNow 18 = .ok (.getfield 19, 3) := by decide +kernel
theorem dX7_asNow_21 : decode cX7_asNow 21 = .ok (.iload_n 1, 1) := by decide +kernel
theorem dX7_asNow_22 : decode cX7_asNow 22 = .ok (.iaload, 1) := by decide +kernel
theorem dX7_asNow_23 : decode cX7_asNow 23 = .ok (.aload_n 0, 1) := by decide +kernel
theorem dX7_asNow_24 : decode cX7_asNow 24 = .ok (.getfield 25, 3) := by decide +kernel
theorem dX7_asNow_27 : decode cX7_asNow 27 = .ok (.iconst 5, 1) := by decide +kernel
theorem dX7_asNow_28 : decode cX7_asNow 28 = .ok (.iload_n 1, 1) := by decide +kernel
theorem dX7_asNow_29 : decode cX7_asNow 29 = .ok (.iadd, 1) := by decide +kernel
theorem dX7_asNow_30 : decode cX7_asNow 30 = .ok (.iaload, 1) := by decide +kernel
theorem dX7_asNow_31 : decode cX7_asNow 31 = .ok (.iadd, 1) := by decide +kernel
theorem dX7_asNow_32 : decode cX7_asNow 32 = .ok (.iastore, 1) := by decide +kernel
theorem dX7_asNow_33 : decode cX7_asNow 33 = .ok (.iinc 1 1, 3) := by decide +kernel
theorem dX7_asNow_36 : decode cX7_asNow 36 = .ok (.goto (-34), 3) := by decide +kernel
theorem dX7_asNow_39 : decode cX7_asNow 39 = .ok (.aload_n 0, 1) := by decide +kernel
theorem dX7_asNow_40 : decode cX7_asNow 40 = .ok (.aload_n 0, 1) := by decide +kernel
theorem dX7_asNow_41 : decode cX7_asNow 41 = .ok (.invokevirtual 153, 3) := by decide +kernel
theorem dX7_asNow_44 : decode cX7_asNow 44 = .ok (.putfield 163, 3) := by decide +kernel
theorem dX7_asNow_47 : decode cX7_asNow 47 = .ok (.return_, 1) := by decide +kernel
theorem dX7_takes_0 : decode cX7_takes 0 = .ok (.aload_n 0, 1) := by decide +kernel
theorem dX7_takes_1 : decode cX7_takes 1 = .ok (.iconst 0, 1) := by decide +kernel
theorem dX7_takes_2 : decode cX7_takes 2 = .ok (.putfield 69, 3) := by decide +kernel
theorem dX7_takes_5 : decode cX7_takes 5 = .ok (.aload_n 0, 1) := by decide +kernel
theorem dX7_takes_6 : decode cX7_takes 6 = .ok (.iload_n 1, 1) := by decide +kernel
theorem dX7_takes_7 : decode cX7_takes 7 = .ok (.invokevirtual 143, 3) := by decide +kernel
theorem dX7_takes_10 : decode cX7_takes 10 = .ok (.ifCond .ne 5, 3) := by decide +kernel
theorem dX7_takes_13 : decode cX7_takes 13 = .ok (.iconst (-1), 1) := by decide +kernel
theorem dX7_takes_14 : decode cX7_takes 14 = .ok (.ireturn, 1) := by decide +kernel
theorem dX7_takes_15 : decode cX7_takes 15 = .ok (.aload_n 0, 1) := by decide +kernel
theorem dX7_takes_16 : decode cX7_takes 16 = .ok (.invokevirtual 166, 3) := by decide +kernel
theorem dX7_takes_19 : decode cX7_takes 19 = .ok (.aload_n 0, 1) := by decide +kernel
theorem dX7_takes_20 : decode cX7_takes 20 = .ok (.aload_n 0, 1) := by decide +kernel
theorem dX7_takes_21 : decode cX7_takes 21 = .ok (.getfield 25, 3) := by decide +kernel
theorem dX7_takes_24 : decode cX7_takes 24 = .ok (.iconst 1, 1) := by decide +kernel
theorem dX7_takes_25 : decode cX7_takes 25 = .ok (.iaload, 1) := by decide +kernel
theorem dX7_takes_26 : decode cX7_takes 26 = .ok (.iload_n 1, 1) := by decide +kernel
theorem dX7_takes_27 : decode cX7_takes 27 = .ok (.invokevirtual 169, 3) := by decide +kernel
theorem dX7_takes_30 : decode cX7_takes 30 = .ok (.istore_n 2, 1) := by decide +kernel
theorem dX7_takes_31 : decode cX7_takes 31 = .ok (.aload_n 0, 1) := by decide +kernel
theorem dX7_takes_32 : decode cX7_takes 32 = .ok (.getfield 163, 3) := by decide +kernel
theorem dX7_takes_35 : decode cX7_takes 35 = .ok (.iload_n 1, 1) := by decide +kernel
theorem dX7_takes_36 : decode cX7_takes 36 = .ok (.ishr, 1) := by decide +kernel
theorem dX7_takes_37 : decode cX7_takes 37 = .ok (.iconst 1, 1) := by decide +kernel
theorem dX7_takes_38 : decode cX7_takes 38 = .ok (.iand, 1) := by decide +kernel
theorem dX7_takes_39 : decode cX7_takes 39 = .ok (.ifCond .eq 31, 3) := by decide +kernel
theorem dX7_takes_42 : decode cX7_takes 42 = .ok (.aload_n 0, 1) := by decide +kernel
theorem dX7_takes_43 : decode cX7_takes 43 = .ok (.iload_n 1, 1) := by decide +kernel
theorem dX7_takes_44 : decode cX7_takes 44 = .ok (.aload_n 0, 1) := by decide +kernel
theorem dX7_takes_45 : decode cX7_takes 45 = .ok (.getfield 25, 3) := by decide +kernel
theorem dX7_takes_48 : decode cX7_takes 48 = .ok (.iconst 0, 1) := by decide +kernel
theorem dX7_takes_49 : decode cX7_takes 49 = .ok (.iaload, 1) := by decide +kernel
theorem dX7_takes_50 : decode cX7_takes 50 = .ok (.invokevirtual 146, 3) := by decide +kernel
theorem dX7_takes_53 : decode cX7_takes 53 = .ok (.ifCond .eq 17, 3) := by decide +kernel
theorem dX7_takes_56 : decode cX7_takes 56 = .ok (.aload_n 0, 1) := by decide +kernel
theorem dX7_takes_57 : decode cX7_takes 57 = .ok (.getfield 25, 3) := by decide +kernel
theorem dX7_takes_60 : decode cX7_takes 60 = .ok (.iconst 2, 1) := by decide +kernel
theorem dX7_takes_61 : decode cX7_takes 61 = .ok (.iaload, 1) := by decide +kernel
theorem dX7_takes_62 : decode cX7_takes 62 = .ok (.iload_n 2, 1) := by decide +kernel
theorem dX7_takes_63 : decode cX7_takes 63 = .ok (.iadd, 1) := by decide +kernel
theorem dX7_takes_64 : decode cX7_takes 64 = .ok (.sipush 9999, 3) := by decide +kernel
theorem dX7_takes_67 : decode cX7_takes 67 = .ok (.if_icmp .le 6, 3) := by decide +kernel
theorem dX7_takes_70 : decode cX7_takes 70 = .ok (.bipush (-2), 2) := by decide +kernel
theorem dX7_takes_72 : decode cX7_takes 72 = .ok (.ireturn, 1) := by decide +kernel
theorem dX7_takes_73 : decode cX7_takes 73 = .ok (.aload_n 0, 1) := by decide +kernel
theorem dX7_takes_74 : decode cX7_takes 74 = .ok (.invokevirtual 172, 3) := by decide +kernel
theorem dX7_takes_77 : decode cX7_takes 77 = .ok (.aload_n 0, 1) := by decide +kernel
theorem dX7_takes_78 : decode cX7_takes 78 = .ok (.getfield 25, 3) := by decide +kernel
theorem dX7_takes_81 : decode cX7_takes 81 = .ok (.iconst 2, 1) := by decide +kernel
theorem dX7_takes_82 : decode cX7_takes 82 = .ok (.dup2, 1) := by decide +kernel
theorem dX7_takes_83 : decode cX7_takes 83 = .ok (.iaload, 1) := by decide +kernel
theorem dX7_takes_84 : decode cX7_takes 84 = .ok (.iload_n 2, 1) := by decide +kernel
theorem dX7_takes_85 : decode cX7_takes 85 = .ok (.iadd, 1) := by decide +kernel
theorem dX7_takes_86 : decode cX7_takes 86 = .ok (.iastore, 1) := by decide +kernel
theorem dX7_takes_87 : decode cX7_takes 87 = .ok (.aload_n 0, 1) := by decide +kernel
theorem dX7_takes_88 : decode cX7_takes 88 = .ok (.getfield 25, 3) := by decide +kernel
theorem dX7_takes_91 : decode cX7_takes 91 = .ok (.iconst 3, 1) := by decide +kernel
theorem dX7_takes_92 : decode cX7_takes 92 = .ok (.dup2, 1) := by decide +kernel
theorem dX7_takes_93 : decode cX7_takes 93 = .ok (.iaload, 1) := by decide +kernel
theorem dX7_takes_94 : decode cX7_takes 94 = .ok (.aload_n 0, 1) := by decide +kernel
theorem dX7_takes_95 : decode cX7_takes 95 = .ok (.aload_n 0, 1) := by decide +kernel
theorem dX7_takes_96 : decode cX7_takes 96 = .ok (.getfield 25, 3) := by decide +kernel
theorem dX7_takes_99 : decode cX7_takes 99 = .ok (.iconst 1, 1) := by decide +kernel
theorem dX7_takes_100 : decode cX7_takes 100 = .ok (.iaload, 1) := by decide +kernel
theorem dX7_takes_101 : decode cX7_takes 101 = .ok (.iload_n 1, 1) := by decide +kernel
theorem dX7_takes_102 : decode cX7_takes 102 = .ok (.invokevirtual 160, 3) := by decide +kernel
theorem dX7_takes_105 : decode cX7_takes 105 = .ok (.ifCond .eq 7, 3) := by decide +kernel
theorem dX7_takes_108 : decode cX7_takes 108 = .ok (.iconst 1, 1) := by decide +kernel
theorem dX7_takes_109 : decode cX7_takes 109 = .ok (.goto 4, 3) := by decide +kernel
theorem dX7_takes_112 : decode cX7_takes 112 = .ok (.iconst 0, 1) := by decide +kernel
theorem dX7_takes_113 : decode cX7_takes 113 = .ok (.iadd, 1) := by decide +kernel
theorem dX7_takes_114 : decode cX7_takes 114 = .ok (.iastore, 1) := by decide +kernel
theorem dX7_takes_115 : decode cX7_takes 115 = .ok (.aload_n 0, 1) := by decide +kernel
theorem dX7_takes_116 : decode cX7_takes 116 = .ok (.getfield 25, 3) := by decide +kernel
theorem dX7_takes_119 : decode cX7_takes 119 = .ok (.iconst 0, 1) := by decide +kernel
theorem dX7_takes_120 : decode cX7_takes 120 = .ok (.aload_n 0, 1) := by decide +kernel
theorem dX7_takes_121 : decode cX7_takes 121 = .ok (.iload_n 1, 1) := by decide +kernel
theorem dX7_takes_122 : decode cX7_takes 122 = .ok (.aload_n 0, 1) := by decide +kernel
theorem dX7_takes_123 : decode cX7_takes 123 = .ok (.getfield 25, 3) := by decide +kernel
theorem dX7_takes_126 : decode cX7_takes 126 = .ok (.iconst 0, 1) := by decide +kernel
theorem dX7_takes_127 : decode cX7_takes 127 = .ok (.iaload, 1) := by decide +kernel
theorem dX7_takes_128 : decode cX7_takes 128 = .ok (.invokevirtual 175, 3) := by decide +kernel
theorem dX7_takes_131 : decode cX7_takes 131 = .ok (.iastore, 1) := by decide +kernel
theorem dX7_takes_132 : decode cX7_takes 132 = .ok (.aload_n 0, 1) := by decide +kernel
theorem dX7_takes_133 : decode cX7_takes 133 = .ok (.getfield 25, 3) := by decide +kernel
theorem dX7_takes_136 : decode cX7_takes 136 = .ok (.iconst 1, 1) := by decide +kernel
theorem dX7_takes_137 : decode cX7_takes 137 = .ok (.iload_n 1, 1) := by decide +kernel
theorem dX7_takes_138 : decode cX7_takes 138 = .ok (.iconst 1, 1) := by decide +kernel
theorem dX7_takes_139 : decode cX7_takes 139 = .ok (.iadd, 1) := by decide +kernel
theorem dX7_takes_140 : decode cX7_takes 140 = .ok (.iastore, 1) := by decide +kernel
theorem dX7_takes_141 : decode cX7_takes 141 = .ok (.iload_n 2, 1) := by decide +kernel
theorem dX7_takes_142 : decode cX7_takes 142 = .ok (.ireturn, 1) := by decide +kernel
theorem dX7_jams_0 : decode cX7_jams 0 = .ok (.aload_n 0, 1) := by decide +kernel
theorem dX7_jams_1 : decode cX7_jams 1 = .ok (.iconst 0, 1) := by decide +kernel
theorem dX7_jams_2 : decode cX7_jams 2 = .ok (.putfield 69, 3) := by decide +kernel
theorem dX7_jams_5 : decode cX7_jams 5 = .ok (.aload_n 0, 1) := by decide +kernel
theorem dX7_jams_6 : decode cX7_jams 6 = .ok (.iload_n 1, 1) := by decide +kernel
theorem dX7_jams_7 : decode cX7_jams 7 = .ok (.invokevirtual 143, 3) := by decide +kernel
theorem dX7_jams_10 : decode cX7_jams 10 = .ok (.ifCond .eq 13, 3) := by decide +kernel
theorem dX7_jams_13 : decode cX7_jams 13 = .ok (.iload_n 2, 1) := by decide +kernel
theorem dX7_jams_14 : decode cX7_jams 14 = .ok (.iconst 0, 1) := by decide +kernel
theorem dX7_jams_15 : decode cX7_jams 15 = .ok (.bipush 60, 2) := by decide +kernel
theorem dX7_jams_17 : decode cX7_jams 17 = .ok (.invokestatic 73, 3) := by decide +kernel
theorem dX7_jams_20 : decode cX7_jams 20 = .ok (.ifCond .ne 5, 3) := by decide +kernel
theorem dX7_jams_23 : decode cX7_jams 23 = .ok (.iconst (-1), 1) := by decide +kernel
theorem dX7_jams_24 : decode cX7_jams 24 = .ok (.ireturn, 1) := by decide +kernel
theorem dX7_jams_25 : decode cX7_jams 25 = .ok (.aload_n 0, 1) := by decide +kernel
theorem dX7_jams_26 : decode cX7_jams 26 = .ok (.invokevirtual 172, 3) := by decide +kernel
theorem dX7_jams_29 : decode cX7_jams 29 = .ok (.aload_n 0, 1) := by decide +kernel
theorem dX7_jams_30 : decode cX7_jams 30 = .ok (.getfield 25, 3) := by decide +kernel
theorem dX7_jams_33 : decode cX7_jams 33 = .ok (.iconst 5, 1) := by decide +kernel
theorem dX7_jams_34 : decode cX7_jams 34 = .ok (.iload_n 1, 1) := by decide +kernel
theorem dX7_jams_35 : decode cX7_jams 35 = .ok (.iadd, 1) := by decide +kernel
theorem dX7_jams_36 : decode cX7_jams 36 = .ok (.iaload, 1) := by decide +kernel
theorem dX7_jams_37 : decode cX7_jams 37 = .ok (.istore_n 3, 1) := by decide +kernel
theorem dX7_jams_38 : decode cX7_jams 38 = .ok (.aload_n 0, 1) := by decide +kernel
theorem dX7_jams_39 : decode cX7_jams 39 = .ok (.getfield 25, 3) := by decide +kernel
theorem dX7_jams_42 : decode cX7_jams 42 = .ok (.iconst 5, 1) := by decide +kernel
theorem dX7_jams_43 : decode cX7_jams 43 = .ok (.iload_n 1, 1) := by decide +kernel
theorem dX7_jams_44 : decode cX7_jams 44 = .ok (.iadd, 1) := by decide +kernel
theorem dX7_jams_45 : decode cX7_jams 45 = .ok (.iload_n 2, 1) := by decide +kernel
theorem dX7_jams_46 : decode cX7_jams 46 = .ok (.iastore, 1) := by decide +kernel
theorem dX7_jams_47 : decode cX7_jams 47 = .ok (.iload_n 3, 1) := by decide +kernel
theorem dX7_jams_48 : decode cX7_jams 48 = .ok (.ireturn, 1) := by decide +kernel
theorem dX7_shuts_0 : decode cX7_shuts 0 = .ok (.aload_n 0, 1) := by decide +kernel
theorem dX7_shuts_1 : decode cX7_shuts 1 = .ok (.iconst 0, 1) := by decide +kernel
theorem dX7_shuts_2 : decode cX7_shuts 2 = .ok (.putfield 69, 3) := by decide +kernel
theorem dX7_shuts_5 : decode cX7_shuts 5 = .ok (.aload_n 0, 1) := by decide +kernel
theorem dX7_shuts_6 : decode cX7_shuts 6 = .ok (.iload_n 1, 1) := by decide +kernel
theorem dX7_shuts_7 : decode cX7_shuts 7 = .ok (.invokevirtual 143, 3) := by decide +kernel
theorem dX7_shuts_10 : decode cX7_shuts 10 = .ok (.ifCond .eq 12, 3) := by decide +kernel
theorem dX7_shuts_13 : decode cX7_shuts 13 = .ok (.iload_n 2, 1) := by decide +kernel
theorem dX7_shuts_14 : decode cX7_shuts 14 = .ok (.iconst 0, 1) := by decide +kernel
theorem dX7_shuts_15 : decode cX7_shuts 15 = .ok (.iconst 1, 1) := by decide +kernel
theorem dX7_shuts_16 : decode cX7_shuts 16 = .ok (.invokestatic 73, 3) := by decide +kernel
theorem dX7_shuts_19 : decode cX7_shuts 19 = .ok (.ifCond .ne 5, 3) := by decide +kernel
theorem dX7_shuts_22 : decode cX7_shuts 22 = .ok (.iconst (-1), 1) := by decide +kernel
theorem dX7_shuts_23 : decode cX7_shuts 23 = .ok (.ireturn, 1) := by decide +kernel
theorem dX7_shuts_24 : decode cX7_shuts 24 = .ok (.aload_n 0, 1) := by decide +kernel
theorem dX7_shuts_25 : decode cX7_shuts 25 = .ok (.getfield 25, 3) := by decide +kernel
theorem dX7_shuts_28 : decode cX7_shuts 28 = .ok (.iconst 4, 1) := by decide +kernel
theorem dX7_shuts_29 : decode cX7_shuts 29 = .ok (.iaload, 1) := by decide +kernel
theorem dX7_shuts_30 : decode cX7_shuts 30 = .ok (.iload_n 1, 1) := by decide +kernel
theorem dX7_shuts_31 : decode cX7_shuts 31 = .ok (.ishr, 1) := by decide +kernel
theorem dX7_shuts_32 : decode cX7_shuts 32 = .ok (.iconst 1, 1) := by decide +kernel
theorem dX7_shuts_33 : decode cX7_shuts 33 = .ok (.iand, 1) := by decide +kernel
theorem dX7_shuts_34 : decode cX7_shuts 34 = .ok (.iload_n 2, 1) := by decide +kernel
theorem dX7_shuts_35 : decode cX7_shuts 35 = .ok (.if_icmp .ne 6, 3) := by decide +kernel
theorem dX7_shuts_38 : decode cX7_shuts 38 = .ok (.bipush (-2), 2) := by decide +kernel
theorem dX7_shuts_40 : decode cX7_shuts 40 = .ok (.ireturn, 1) := by decide +kernel
theorem dX7_shuts_41 : decode cX7_shuts 41 = .ok (.aload_n 0, 1) := by decide +kernel
theorem dX7_shuts_42 : decode cX7_shuts 42 = .ok (.invokevirtual 172, 3) := by decide +kernel
theorem dX7_shuts_45 : decode cX7_shuts 45 = .ok (.aload_n 0, 1) := by decide +kernel
theorem dX7_shuts_46 : decode cX7_shuts 46 = .ok (.getfield 25, 3) := by decide +kernel
theorem dX7_shuts_49 : decode cX7_shuts 49 = .ok (.iconst 4, 1) := by decide +kernel
theorem dX7_shuts_50 : decode cX7_shuts 50 = .ok (.aload_n 0, 1) := by decide +kernel
theorem dX7_shuts_51 : decode cX7_shuts 51 = .ok (.getfield 25, 3) := by decide +kernel
theorem dX7_shuts_54 : decode cX7_shuts 54 = .ok (.iconst 4, 1) := by decide +kernel
theorem dX7_shuts_55 : decode cX7_shuts 55 = .ok (.iaload, 1) := by decide +kernel
theorem dX7_shuts_56 : decode cX7_shuts 56 = .ok (.iconst 1, 1) := by decide +kernel
theorem dX7_shuts_57 : decode cX7_shuts 57 = .ok (.iload_n 1, 1) := by decide +kernel
theorem dX7_shuts_58 : decode cX7_shuts 58 = .ok (.ishl, 1) := by decide +kernel
theorem dX7_shuts_59 : decode cX7_shuts 59 = .ok (.iconst (-1), 1) := by decide +kernel
theorem dX7_shuts_60 : decode cX7_shuts 60 = .ok (.ixor, 1) := by decide +kernel
theorem dX7_shuts_61 : decode cX7_shuts 61 = .ok (.iand, 1) := by decide +kernel
theorem dX7_shuts_62 : decode cX7_shuts 62 = .ok (.iload_n 2, 1) := by decide +kernel
theorem dX7_shuts_63 : decode cX7_shuts 63 = .ok (.iload_n 1, 1) := by decide +kernel
theorem dX7_shuts_64 : decode cX7_shuts 64 = .ok (.ishl, 1) := by decide +kernel
theorem dX7_shuts_65 : decode cX7_shuts 65 = .ok (.ior, 1) := by decide +kernel
theorem dX7_shuts_66 : decode cX7_shuts 66 = .ok (.iastore, 1) := by decide +kernel
theorem dX7_shuts_67 : decode cX7_shuts 67 = .ok (.aload_n 0, 1) := by decide +kernel
theorem dX7_shuts_68 : decode cX7_shuts 68 = .ok (.getfield 25, 3) := by decide +kernel
theorem dX7_shuts_71 : decode cX7_shuts 71 = .ok (.iconst 4, 1) := by decide +kernel
theorem dX7_shuts_72 : decode cX7_shuts 72 = .ok (.iaload, 1) := by decide +kernel
theorem dX7_shuts_73 : decode cX7_shuts 73 = .ok (.invokestatic 178, 3) := by decide +kernel
theorem dX7_shuts_76 : decode cX7_shuts 76 = .ok (.ireturn, 1) := by decide +kernel
theorem dX7_undo_0 : decode cX7_undo 0 = .ok (.aload_n 0, 1) := by decide +kernel
theorem dX7_undo_1 : decode cX7_undo 1 = .ok (.iconst 0, 1) := by decide +kernel
theorem dX7_undo_2 : decode cX7_undo 2 = .ok (.putfield 69, 3) := by decide +kernel
theorem dX7_undo_5 : decode cX7_undo 5 = .ok (.aload_n 0, 1) := by decide +kernel
theorem dX7_undo_6 : decode cX7_undo 6 = .ok (.getfield 140, 3) := by decide +kernel
theorem dX7_undo_9 : decode cX7_undo 9 = .ok (.ifCond .ne 6, 3) := by decide +kernel
theorem dX7_undo_12 : decode cX7_undo 12 = .ok (.bipush (-2), 2) := by decide +kernel
theorem dX7_undo_14 : decode cX7_undo 14 = .ok (.ireturn, 1) := by decide +kernel
theorem dX7_undo_15 : decode cX7_undo 15 = .ok (.aload_n 0, 1) := by decide +kernel
theorem dX7_undo_16 : decode cX7_undo 16 = .ok (.dup, 1) := by decide +kernel
theorem dX7_undo_17 : decode cX7_undo 17 = .ok (.getfield 140, 3) := by decide +kernel
theorem dX7_undo_20 : decode cX7_undo 20 = .ok (.iconst 1, 1) := by decide +kernel
theorem dX7_undo_21 : decode cX7_undo 21 = .ok (.isub, 1) := by decide +kernel
theorem dX7_undo_22 : decode cX7_undo 22 = .ok (.putfield 140, 3) := by decide +kernel
theorem dX7_undo_25 : decode cX7_undo 25 = .ok (.iconst 0, 1) := by decide +kernel
theorem dX7_undo_26 : decode cX7_undo 26 = .ok (.istore_n 1, 1) := by decide +kernel
theorem dX7_undo_27 : decode cX7_undo 27 = .ok (.iload_n 1, 1) := by decide +kernel
theorem dX7_undo_28 : decode cX7_undo 28 = .ok (.bipush 17, 2) := by decide +kernel
theorem dX7_undo_30 : decode cX7_undo 30 = .ok (.if_icmp .ge 29, 3) := by decide +kernel
theorem dX7_undo_33 : decode cX7_undo 33 = .ok (.aload_n 0, 1) := by decide +kernel
theorem dX7_undo_34 : decode cX7_undo 34 = .ok (.getfield 25, 3) := by decide +kernel
theorem dX7_undo_37 : decode cX7_undo 37 = .ok (.iload_n 1, 1) := by decide +kernel
theorem dX7_undo_38 : decode cX7_undo 38 = .ok (.aload_n 0, 1) := by decide +kernel
theorem dX7_undo_39 : decode cX7_undo 39 = .ok (.getfield 35, 3) := by decide +kernel
theorem dX7_undo_42 : decode cX7_undo 42 = .ok (.bipush 17, 2) := by decide +kernel
theorem dX7_undo_44 : decode cX7_undo 44 = .ok (.aload_n 0, 1) := by decide +kernel
theorem dX7_undo_45 : decode cX7_undo 45 = .ok (.getfield 140, 3) := by decide +kernel
theorem dX7_undo_48 : decode cX7_undo 48 = .ok (.imul, 1) := by decide +kernel
theorem dX7_undo_49 : decode cX7_undo 49 = .ok (.iload_n 1, 1) := by decide +kernel
theorem dX7_undo_50 : decode cX7_undo 50 = .ok (.iadd, 1) := by decide +kernel
theorem dX7_undo_51 : decode cX7_undo 51 = .ok (.iaload, 1) := by decide +kernel
theorem dX7_undo_52 : decode cX7_undo 52 = .ok (.iastore, 1) := by decide +kernel
theorem dX7_undo_53 : decode cX7_undo 53 = .ok (.iinc 1 1, 3) := by decide +kernel
theorem dX7_undo_56 : decode cX7_undo 56 = .ok (.goto (-29), 3) := by decide +kernel
theorem dX7_undo_59 : decode cX7_undo 59 = .ok (.aload_n 0, 1) := by decide +kernel
theorem dX7_undo_60 : decode cX7_undo 60 = .ok (.getfield 140, 3) := by decide +kernel
theorem dX7_undo_63 : decode cX7_undo 63 = .ok (.ireturn, 1) := by decide +kernel
theorem dX7_farFrom_0 : decode cX7_farFrom 0 = .ok (.iload_n 1, 1) := by decide +kernel
theorem dX7_farFrom_1 : decode cX7_farFrom 1 = .ok (.aload_n 0, 1) := by decide +kernel
theorem dX7_farFrom_2 : decode cX7_farFrom 2 = .ok (.getfield 13, 3) := by decide +kernel
theorem dX7_farFrom_5 : decode cX7_farFrom 5 = .ok (.iconst 3, 1) := by decide +kernel
theorem dX7_farFrom_6 : decode cX7_farFrom 6 = .ok (.iaload, 1) := by decide +kernel
theorem dX7_farFrom_7 : decode cX7_farFrom 7 = .ok (.if_icmp .ne 5, 3) := by decide +kernel
theorem dX7_farFrom_10 : decode cX7_farFrom 10 = .ok (.iconst 0, 1) := by decide +kernel
theorem dX7_farFrom_11 : decode cX7_farFrom 11 = .ok (.ireturn, 1) := by decide +kernel
theorem dX7_farFrom_12 : decode cX7_farFrom 12 = .ok (.ldc 181, 2) := by decide +kernel
theorem dX7_farFrom_14 : decode cX7_farFrom 14 = .ok (.istore_n 3, 1) := by decide +kernel
theorem dX7_farFrom_15 : decode cX7_farFrom 15 = .ok (.iconst 0, 1) := by decide +kernel
theorem dX7_farFrom_16 : decode cX7_farFrom 16 = .ok (.istore 4, 2) := by decide +kernel
theorem dX7_farFrom_18 : decode cX7_farFrom 18 = .ok (.iload 4, 2) := by decide +kernel
theorem dX7_farFrom_20 : decode cX7_farFrom 20 = .ok (.aload_n 0, 1) := by decide +kernel
theorem dX7_farFrom_21 : decode cX7_farFrom 21 = .ok (.getfield 13, 3) := by decide +kernel
theorem dX7_farFrom_24 : decode cX7_farFrom 24 = .ok (.iconst 1, 1) := by decide +kernel
theorem dX7_farFrom_25 : decode cX7_farFrom 25 = .ok (.iaload, 1) := by decide +kernel
theorem dX7_farFrom_26 : decode cX7_farFrom 26 = .ok (.if_icmp .ge 55, 3) := by decide +kernel
theorem dX7_farFrom_29 : decode cX7_farFrom 29 = .ok (.aload_n 0, 1) := by decide +kernel
theorem dX7_farFrom_30 : decode cX7_farFrom 30 = .ok (.getfield 163, 3) := by decide +kernel
theorem dX7_farFrom_33 : decode cX7_farFrom 33 = .ok (.iload 4, 2) := by decide +kernel
theorem dX7_farFrom_35 : decode cX7_farFrom 35 = .ok (.ishr, 1) := by decide +kernel
theorem dX7_farFrom_36 : decode cX7_farFrom 36 = .ok (.iconst 1, 1) := by decide +kernel
theorem dX7_farFrom_37 : decode cX7_farFrom 37 = .ok (.iand, 1) := by decide +kernel
theorem dX7_farFrom_38 : decode cX7_farFrom 38 = .ok (.iconst 1, 1) := by decide +kernel
theorem dX7_farFrom_39 : decode cX7_farFrom 39 = .ok (.if_icmp .ne 36, 3) := by decide +kernel
theorem dX7_farFrom_42 : decode cX7_farFrom 42 = .ok (.aload_n 0, 1) := by decide +kernel
theorem dX7_farFrom_43 : decode cX7_farFrom 43 = .ok (.iload 4, 2) := by decide +kernel
theorem dX7_farFrom_45 : decode cX7_farFrom 45 = .ok (.iload_n 1, 1) := by decide +kernel
theorem dX7_farFrom_46 : decode cX7_farFrom 46 = .ok (.invokevirtual 146, 3) := by decide +kernel
theorem dX7_farFrom_49 : decode cX7_farFrom 49 = .ok (.ifCond .eq 26, 3) := by decide +kernel
theorem dX7_farFrom_52 : decode cX7_farFrom 52 = .ok (.aload_n 0, 1) := by decide +kernel
theorem dX7_farFrom_53 : decode cX7_farFrom 53 = .ok (.iload_n 1, 1) := by decide +kernel
theorem dX7_farFrom_54 : decode cX7_farFrom 54 = .ok (.iload_n 2, 1) := by decide +kernel
theorem dX7_farFrom_55 : decode cX7_farFrom 55 = .ok (.iload 4, 2) := by decide +kernel
theorem dX7_farFrom_57 : decode cX7_farFrom 57 = .ok (.invokevirtual 182, 3) := by decide +kernel
theorem dX7_farFrom_60 : decode cX7_farFrom 60 = .ok (.istore 5, 2) := by decide +kernel
theorem dX7_farFrom_62 : decode cX7_farFrom 62 = .ok (.iload 5, 2) := by decide +kernel
theorem dX7_farFrom_64 : decode cX7_farFrom 64 = .ok (.iload_n 3, 1) := by decide +kernel
theorem dX7_farFrom_65 : decode cX7_farFrom 65 = .ok (.if_icmp .ge 8, 3) := by decide +kernel
theorem dX7_farFrom_68 : decode cX7_farFrom 68 = .ok (.iload 5, 2) := by decide +kernel
theorem dX7_farFrom_70 : decode cX7_farFrom 70 = .ok (.goto 4, 3) := by decide +kernel
theorem dX7_farFrom_73 : decode cX7_farFrom 73 = .ok (.iload_n 3, 1) := by decide +kernel
theorem dX7_farFrom_74 : decode cX7_farFrom 74 = .ok (.istore_n 3, 1) := by decide +kernel
theorem dX7_farFrom_75 : decode cX7_farFrom 75 = .ok (.iinc 4 1, 3) := by decide +kernel
theorem dX7_farFrom_78 : decode cX7_farFrom 78 = .ok (.goto (-60), 3) := by decide +kernel
theorem dX7_farFrom_81 : decode cX7_farFrom 81 = .ok (.iload_n 3, 1) := by decide +kernel
theorem dX7_farFrom_82 : decode cX7_farFrom 82 = .ok (.ireturn, 1) := by decide +kernel
theorem dX7_onBy_0 : decode cX7_onBy 0 = .ok (.aload_n 0, 1) := by decide +kernel
theorem dX7_onBy_1 : decode cX7_onBy 1 = .ok (.iload_n 3, 1) := by decide +kernel
theorem dX7_onBy_2 : decode cX7_onBy 2 = .ok (.iload_n 1, 1) := by decide +kernel
theorem dX7_onBy_3 : decode cX7_onBy 3 = .ok (.invokevirtual 175, 3) := by decide +kernel
theorem dX7_onBy_6 : decode cX7_onBy 6 = .ok (.istore 4, 2) := by decide +kernel
theorem dX7_onBy_8 : decode cX7_onBy 8 = .ok (.aload_n 0, 1) := by decide +kernel
theorem dX7_onBy_9 : decode cX7_onBy 9 = .ok (.iload_n 2, 1) := by decide +kernel
theorem dX7_onBy_10 : decode cX7_onBy 10 = .ok (.iload_n 3, 1) := by decide +kernel
theorem dX7_onBy_11 : decode cX7_onBy 11 = .ok (.invokevirtual 169, 3) := by decide +kernel
theorem dX7_onBy_14 : decode cX7_onBy 14 = .ok (.aload_n 0, 1) := by decide +kernel
theorem dX7_onBy_15 : decode cX7_onBy 15 = .ok (.getfield 50, 3) := by decide +kernel
theorem dX7_onBy_18 : decode cX7_onBy 18 = .ok (.iconst 2, 1) := by decide +kernel
theorem dX7_onBy_19 : decode cX7_onBy 19 = .ok (.iload_n 3, 1) := by decide +kernel
theorem dX7_onBy_20 : decode cX7_onBy 20 = .ok (.imul, 1) := by decide +kernel
theorem dX7_onBy_21 : decode cX7_onBy 21 = .ok (.aload_n 0, 1) := by decide +kernel
theorem dX7_onBy_22 : decode cX7_onBy 22 = .ok (.getfield 16, 3) := by decide +kernel
theorem dX7_onBy_25 : decode cX7_onBy 25 = .ok (.iconst 2, 1) := by decide +kernel
theorem dX7_onBy_26 : decode cX7_onBy 26 = .ok (.iload_n 3, 1) := by decide +kernel
theorem dX7_onBy_27 : decode cX7_onBy 27 = .ok (.imul, 1) := by decide +kernel
theorem dX7_onBy_28 : decode cX7_onBy 28 = .ok (.iconst 1, 1) := by decide +kernel
theorem dX7_onBy_29 : decode cX7_onBy 29 = .ok (.iadd, 1) := by decide +kernel
theorem dX7_onBy_30 : decode cX7_onBy 30 = .ok (.iaload, 1) := by decide +kernel
theorem dX7_onBy_31 : decode cX7_onBy 31 = .ok (.iload 4, 2) := by decide +kernel
theorem dX7_onBy_33 : decode cX7_onBy 33 = .ok (.if_icmp .ne 7, 3) := by decide +kernel
theorem dX7_onBy_36 : decode cX7_onBy 36 = .ok (.iconst 1, 1) := by decide +kernel
theorem dX7_onBy_37 : decode cX7_onBy 37 = .ok (.goto 4, 3) := by decide +kernel
theorem dX7_onBy_40 : decode cX7_onBy 40 = .ok (.iconst 0, 1) := by decide +kernel
theorem dX7_onBy_41 : decode cX7_onBy 41 = .ok (.iadd, 1) := by decide +kernel
theorem dX7_onBy_42 : decode cX7_onBy 42 = .ok (.iaload, 1) := by decide +kernel
theorem dX7_onBy_43 : decode cX7_onBy 43 = .ok (.iadd, 1) := by decide +kernel
theorem dX7_onBy_44 : decode cX7_onBy 44 = .ok (.istore 5, 2) := by decide +kernel
theorem dX7_onBy_46 : decode cX7_onBy 46 = .ok (.iload 5, 2) := by decide +kernel
theorem dX7_onBy_48 : decode cX7_onBy 48 = .ok (.ldc 181, 2) := by decide +kernel
theorem dX7_onBy_50 : decode cX7_onBy 50 = .ok (.if_icmp .le 8, 3) := by decide +kernel
theorem dX7_onBy_53 : decode cX7_onBy 53 = .ok (.ldc 181, 2) := by decide +kernel
theorem dX7_onBy_55 : decode cX7_onBy 55 = .ok (.goto 5, 3) := by decide +kernel
theorem dX7_onBy_58 : decode cX7_onBy 58 = .ok (.iload 5, 2) := by decide +kernel
theorem dX7_onBy_60 : decode cX7_onBy 60 = .ok (.ireturn, 1) := by decide +kernel
theorem dX7_measures_0 : decode cX7_measures 0 = .ok (.iconst 0, 1) := by decide +kernel
theorem dX7_measures_1 : decode cX7_measures 1 = .ok (.istore_n 1, 1) := by decide +kernel
theorem dX7_measures_2 : decode cX7_measures 2 = .ok (.iload_n 1, 1) := by decide +kernel
theorem dX7_measures_3 : decode cX7_measures 3 = .ok (.bipush 24, 2) := by decide +kernel
theorem dX7_measures_5 : decode cX7_measures 5 = .ok (.if_icmp .ge 17, 3) := by decide +kernel
theorem dX7_measures_8 : decode cX7_measures 8 = .ok (.aload_n 0, 1) := by decide +kernel
theorem dX7_measures_9 : decode cX7_measures 9 = .ok (.getfield 50, 3) := by decide +kernel
theorem dX7_measures_12 : decode cX7_measures 12 = .ok (.iload_n 1, 1) := by decide +kernel
theorem dX7_measures_13 : decode cX7_measures 13 = .ok (.ldc 181, 2) := by decide +kernel
theorem dX7_measures_15 : decode cX7_measures 15 = .ok (.iastore, 1) := by decide +kernel
theorem dX7_measures_16 : decode cX7_measures 16 = .ok (.iinc 1 1, 3) := by decide +kernel
theorem dX7_measures_19 : decode cX7_measures 19 = .ok (.goto (-17), 3) := by decide +kernel
theorem dX7_measures_22 : decode cX7_measures 22 = .ok (.iconst 1, 1) := by decide +kernel
theorem dX7_measures_23 : decode cX7_measures 23 = .ok (.istore_n 1, 1) := by decide +kernel
theorem dX7_measures_24 : decode cX7_measures 24 = .ok (.iload_n 1, 1) := by decide +kernel
theorem dX7_measures_25 : decode cX7_measures 25 = .ok (.ifCond .eq 90, 3) := by decide +kernel
theorem dX7_measures_28 : decode cX7_measures 28 = .ok (.iconst 0, 1) := by decide +kernel
theorem dX7_measures_29 : decode cX7_measures 29 = .ok (.istore_n 1, 1) := by decide +kernel
theorem dX7_measures_30 : decode cX7_measures 30 = .ok (.iconst 0, 1) := by decide +kernel
theorem dX7_measures_31 : decode cX7_measures 31 = .ok (.istore_n 2, 1) := by decide +kernel
theorem dX7_measures_32 : decode cX7_measures 32 = .ok (.iload_n 2, 1) := by decide +kernel
theorem dX7_measures_33 : decode cX7_measures 33 = .ok (.iconst 2, 1) := by decide +kernel
theorem dX7_measures_34 : decode cX7_measures 34 = .ok (.aload_n 0, 1) := by decide +kernel
theorem dX7_measures_35 : decode cX7_measures 35 = .ok (.getfield 13, 3) := by decide +kernel
theorem dX7_measures_38 : decode cX7_measures 38 = .ok (.iconst 1, 1) := by decide +kernel
theorem dX7_measures_39 : decode cX7_measures 39 = .ok (.iaload, 1) := by decide +kernel
theorem dX7_measures_40 : decode cX7_measures 40 = .ok (.imul, 1) := by decide +kernel
theorem dX7_measures_41 : decode cX7_measures 41 = .ok (.if_icmp .ge 71, 3) := by decide +kernel
theorem dX7_measures_44 : decode cX7_measures 44 = .ok (.aload_n 0, 1) := by decide +kernel
theorem dX7_measures_45 : decode cX7_measures 45 = .ok (.aload_n 0, 1) := by decide +kernel
theorem dX7_measures_46 : decode cX7_measures 46 = .ok (.getfield 16, 3) := by decide +kernel
theorem dX7_measures_49 : decode cX7_measures 49 = .ok (.iload_n 2, 1) := by decide +kernel
theorem dX7_measures_50 : decode cX7_measures 50 = .ok (.iaload, 1) := by decide +kernel
theorem dX7_measures_51 : decode cX7_measures 51 = .ok (.iload_n 2, 1) := by decide +kernel
theorem dX7_measures_52 : decode cX7_measures 52 = .ok (.iconst 2, 1) := by decide +kernel
theorem dX7_measures_53 : decode cX7_measures 53 = .ok (.idiv, 1) := by decide +kernel
theorem dX7_measures_54 : decode cX7_measures 54 = .ok (.iconst 1, 1) := by decide +kernel
theorem dX7_measures_55 : decode cX7_measures 55 = .ok (.iadd, 1) := by decide +kernel
theorem dX7_measures_56 : decode cX7_measures 56 = .ok (.invokevirtual 186, 3) := by decide +kernel
theorem dX7_measures_59 : decode cX7_measures 59 = .ok (.istore_n 3, 1) := by decide +kernel
theorem dX7_measures_60 : decode cX7_measures 60 = .ok (.iload_n 1, 1) := by decide +kernel
theorem dX7_measures_61 : decode cX7_measures 61 = .ok (.ifCond .ne 13, 3) := by decide +kernel
theorem dX7_measures_64 : decode cX7_measures 64 = .ok (.iload_n 3, 1) := by decide +kernel
theorem dX7_measures_65 : decode cX7_measures 65 = .ok (.aload_n 0, 1) := by decide +kernel
theorem dX7_measures_66 : decode cX7_measures 66 = .ok (.getfield 50, 3) := by decide +kernel
theorem dX7_measures_69 : decode cX7_measures 69 = .ok (.iload_n 2, 1) := by decide +kernel
theorem dX7_measures_70 : decode cX7_measures 70 = .ok (.iaload, 1) := by decide +kernel
theorem dX7_measures_71 : decode cX7_measures 71 = .ok (.if_icmp .ge 7, 3) := by decide +kernel
theorem dX7_measures_74 : decode cX7_measures 74 = .ok (.iconst 1, 1) := by decide +kernel
theorem dX7_measures_75 : decode cX7_measures 75 = .ok (.goto 4, 3) := by decide +kernel
theorem dX7_measures_78 : decode cX7_measures 78 = .ok (.iconst 0, 1) := by decide +kernel
theorem dX7_measures_79 : decode cX7_measures 79 = .ok (.istore_n 1, 1) := by decide +kernel
theorem dX7_measures_80 : decode cX7_measures 80 = .ok (.aload_n 0, 1) := by decide +kernel
theorem dX7_measures_81 : decode cX7_measures 81 = .ok (.getfield 50, 3) := by decide +kernel
theorem dX7_measures_84 : decode cX7_measures 84 = .ok (.iload_n 2, 1) := by decide +kernel
theorem dX7_measures_85 : decode cX7_measures 85 = .ok (.iload_n 3, 1) := by decide +kernel
theorem dX7_measures_86 : decode cX7_measures 86 = .ok (.aload_n 0, 1) := by decide +kernel
theorem dX7_measures_87 : decode cX7_measures 87 = .ok (.getfield 50, 3) := by decide +kernel
theorem dX7_measures_90 : decode cX7_measures 90 = .ok (.iload_n 2, 1) := by decide +kernel
theorem dX7_measures_91 : decode cX7_measures 91 = .ok (.iaload, 1) := by decide +kernel
theorem dX7_measures_92 : decode cX7_measures 92 = .ok (.if_icmp .ge 7, 3) := by decide +kernel
theorem dX7_measures_95 : decode cX7_measures 95 = .ok (.iload_n 3, 1) := by decide +kernel
theorem dX7_measures_96 : decode cX7_measures 96 = .ok (.goto 9, 3) := by decide +kernel
theorem dX7_measures_99 : decode cX7_measures 99 = .ok (.aload_n 0, 1) := by decide +kernel
theorem dX7_measures_100 : decode cX7_measures 100 = .ok (.getfield 50, 3) := by decide +kernel
theorem dX7_measures_103 : decode cX7_measures 103 = .ok (.iload_n 2, 1) := by decide +kernel
theorem dX7_measures_104 : decode cX7_measures 104 = .ok (.iaload, 1) := by decide +kernel
theorem dX7_measures_105 : decode cX7_measures 105 = .ok (.iastore, 1) := by decide +kernel
theorem dX7_measures_106 : decode cX7_measures 106 = .ok (.iinc 2 1, 3) := by decide +kernel
theorem dX7_measures_109 : decode cX7_measures 109 = .ok (.goto (-77), 3) := by decide +kernel
theorem dX7_measures_112 : decode cX7_measures 112 = .ok (.goto (-88), 3) := by decide +kernel
theorem dX7_measures_115 : decode cX7_measures 115 = .ok (.return_, 1) := by decide +kernel
theorem dX7_firstFrom_0 : decode cX7_firstFrom 0 = .ok (.bipush (-9), 2) := by decide +kernel
theorem dX7_firstFrom_2 : decode cX7_firstFrom 2 = .ok (.istore_n 3, 1) := by decide +kernel
theorem dX7_firstFrom_3 : decode cX7_firstFrom 3 = .ok (.aload_n 0, 1) := by decide +kernel
theorem dX7_firstFrom_4 : decode cX7_firstFrom 4 = .ok (.iload_n 1, 1) := by decide +kernel
theorem dX7_firstFrom_5 : decode cX7_firstFrom 5 = .ok (.iload_n 2, 1) := by decide +kernel
theorem dX7_firstFrom_6 : decode cX7_firstFrom 6 = .ok (.invokevirtual 186, 3) := by decide +kernel
theorem dX7_firstFrom_9 : decode cX7_firstFrom 9 = .ok (.istore 4, 2) := by decide +kernel
theorem dX7_firstFrom_11 : decode cX7_firstFrom 11 = .ok (.aload_n 0, 1) := by decide +kernel
theorem dX7_firstFrom_12 : decode cX7_firstFrom 12 = .ok (.getfield 13, 3) := by decide +kernel
theorem dX7_firstFrom_15 : decode cX7_firstFrom 15 = .ok (.iconst 1, 1) := by decide +kernel
theorem dX7_firstFrom_16 : decode cX7_firstFrom 16 = .ok (.iaload, 1) := by decide +kernel
theorem dX7_firstFrom_17 : decode cX7_firstFrom 17 = .ok (.iconst 1, 1) := by decide +kernel
theorem dX7_firstFrom_18 : decode cX7_firstFrom 18 = .ok (.isub, 1) := by decide +kernel
theorem dX7_firstFrom_19 : decode cX7_firstFrom 19 = .ok (.istore 5, 2) := by decide +kernel
theorem dX7_firstFrom_21 : decode cX7_firstFrom 21 = .ok (.iload 5, 2) := by decide +kernel
theorem dX7_firstFrom_23 : decode cX7_firstFrom 23 = .ok (.ifCond .lt 81, 3) := by decide +kernel
theorem dX7_firstFrom_26 : decode cX7_firstFrom 26 = .ok (.iload_n 1, 1) := by decide +kernel
theorem dX7_firstFrom_27 : decode cX7_firstFrom 27 = .ok (.aload_n 0, 1) := by decide +kernel
theorem dX7_firstFrom_28 : decode cX7_firstFrom 28 = .ok (.getfield 13, 3) := by decide +kernel
theorem dX7_firstFrom_31 : decode cX7_firstFrom 31 = .ok (.iconst 3, 1) := by decide +kernel
theorem dX7_firstFrom_32 : decode cX7_firstFrom 32 = .ok (.iaload, 1) := by decide +kernel
theorem dX7_firstFrom_33 : decode cX7_firstFrom 33 = .ok (.if_icmp .eq 50, 3) := by decide +kernel
theorem dX7_firstFrom_36 : decode cX7_firstFrom 36 = .ok (.iload 4, 2) := by decide +kernel
theorem dX7_firstFrom_38 : decode cX7_firstFrom 38 = .ok (.ldc 181, 2) := by decide +kernel
theorem dX7_firstFrom_40 : decode cX7_firstFrom 40 = .ok (.if_icmp .ge 43, 3) := by decide +kernel
theorem dX7_firstFrom_43 : decode cX7_firstFrom 43 = .ok (.aload_n 0, 1) := by decide +kernel
theorem dX7_firstFrom_44 : decode cX7_firstFrom 44 = .ok (.getfield 163, 3) := by decide +kernel
theorem dX7_firstFrom_47 : decode cX7_firstFrom 47 = .ok (.iload 5, 2) := by decide +kernel
theorem dX7_firstFrom_49 : decode cX7_firstFrom 49 = .ok (.ishr, 1) := by decide +kernel
theorem dX7_firstFrom_50 : decode cX7_firstFrom 50 = .ok (.iconst 1, 1) := by decide +kernel
theorem dX7_firstFrom_51 : decode cX7_firstFrom 51 = .ok (.iand, 1) := by decide +kernel
theorem dX7_firstFrom_52 : decode cX7_firstFrom 52 = .ok (.iconst 1, 1) := by decide +kernel
theorem dX7_firstFrom_53 : decode cX7_firstFrom 53 = .ok (.if_icmp .ne 30, 3) := by decide +kernel
theorem dX7_firstFrom_56 : decode cX7_firstFrom 56 = .ok (.aload_n 0, 1) := by decide +kernel
theorem dX7_firstFrom_57 : decode cX7_firstFrom 57 = .ok (.iload 5, 2) := by decide +kernel
theorem dX7_firstFrom_59 : decode cX7_firstFrom 59 = .ok (.iload_n 1, 1) := by decide +kernel
theorem dX7_firstFrom_60 : decode cX7_firstFrom 60 = .ok (.invokevirtual 146, 3) := by decide +kernel
theorem dX7_firstFrom_63 : decode cX7_firstFrom 63 = .ok (.ifCond .eq 20, 3) := by decide +kernel
theorem dX7_firstFrom_66 : decode cX7_firstFrom 66 = .ok (.aload_n 0, 1) := by decide +kernel
theorem dX7_firstFrom_67 : decode cX7_firstFrom 67 = .ok (.iload_n 1, 1) := by decide +kernel
theorem dX7_firstFrom_68 : decode cX7_firstFrom 68 = .ok (.iload_n 2, 1) := by decide +kernel
theorem dX7_firstFrom_69 : decode cX7_firstFrom 69 = .ok (.iload 5, 2) := by decide +kernel
theorem dX7_firstFrom_71 : decode cX7_firstFrom 71 = .ok (.invokevirtual 182, 3) := by decide +kernel
theorem dX7_firstFrom_74 : decode cX7_firstFrom 74 = .ok (.iload 4, 2) := by decide +kernel
theorem dX7_firstFrom_76 : decode cX7_firstFrom 76 = .ok (.if_icmp .ne 7, 3) := by decide +kernel
theorem dX7_firstFrom_79 : decode cX7_firstFrom 79 = .ok (.iconst 1, 1) := by decide +kernel
theorem dX7_firstFrom_80 : decode cX7_firstFrom 80 = .ok (.goto 4, 3) := by decide +kernel
theorem dX7_firstFrom_83 : decode cX7_firstFrom 83 = .ok (.iconst 0, 1) := by decide +kernel
theorem dX7_firstFrom_84 : decode cX7_firstFrom 84 = .ok (.istore 6, 2) := by decide +kernel
theorem dX7_firstFrom_86 : decode cX7_firstFrom 86 = .ok (.iload 6, 2) := by decide +kernel
theorem dX7_firstFrom_88 : decode cX7_firstFrom 88 = .ok (.ifCond .eq 8, 3) := by decide +kernel
theorem dX7_firstFrom_91 : decode cX7_firstFrom 91 = .ok (.iload 5, 2) := by decide +kernel
theorem dX7_firstFrom_93 : decode cX7_firstFrom 93 = .ok (.goto 4, 3) := by decide +kernel
theorem dX7_firstFrom_96 : decode cX7_firstFrom 96 = .ok (.iload_n 3, 1) := by decide +kernel
theorem dX7_firstFrom_97 : decode cX7_firstFrom 97 = .ok (.istore_n 3, 1) := by decide +kernel
theorem dX7_firstFrom_98 : decode cX7_firstFrom 98 = .ok (.iinc 5 (-1), 3) := by decide +kernel
theorem dX7_firstFrom_101 : decode cX7_firstFrom 101 = .ok (.goto (-80), 3) := by decide +kernel
theorem dX7_firstFrom_104 : decode cX7_firstFrom 104 = .ok (.iload_n 3, 1) := by decide +kernel
theorem dX7_firstFrom_105 : decode cX7_firstFrom 105 = .ok (.ireturn, 1) := by decide +kernel
theorem dX7_kthFrom_0 : decode cX7_kthFrom 0 = .ok (.iload_n 1, 1) := by decide +kernel
theorem dX7_kthFrom_1 : decode cX7_kthFrom 1 = .ok (.istore 4, 2) := by decide +kernel
theorem dX7_kthFrom_3 : decode cX7_kthFrom 3 = .ok (.iload_n 2, 1) := by decide +kernel
theorem dX7_kthFrom_4 : decode cX7_kthFrom 4 = .ok (.istore 5, 2) := by decide +kernel
theorem dX7_kthFrom_6 : decode cX7_kthFrom 6 = .ok (.aload_n 0, 1) := by decide +kernel
theorem dX7_kthFrom_7 : decode cX7_kthFrom 7 = .ok (.iconst 0, 1) := by decide +kernel
theorem dX7_kthFrom_8 : decode cX7_kthFrom 8 = .ok (.putfield 189, 3) := by decide +kernel
theorem dX7_kthFrom_11 : decode cX7_kthFrom 11 = .ok (.iconst 0, 1) := by decide +kernel
theorem dX7_kthFrom_12 : decode cX7_kthFrom 12 = .ok (.istore 6, 2) := by decide +kernel
theorem dX7_kthFrom_14 : decode cX7_kthFrom 14 = .ok (.iload 6, 2) := by decide +kernel
theorem dX7_kthFrom_16 : decode cX7_kthFrom 16 = .ok (.bipush 12, 2) := by decide +kernel
theorem dX7_kthFrom_18 : decode cX7_kthFrom 18 = .ok (.if_icmp .ge 17, 3) := by decide +kernel
theorem dX7_kthFrom_21 : decode cX7_kthFrom 21 = .ok (.aload_n 0, 1) := by decide +kernel
theorem dX7_kthFrom_22 : decode cX7_kthFrom 22 = .ok (.getfield 53, 3) := by decide +kernel
theorem dX7_kthFrom_25 : decode cX7_kthFrom 25 = .ok (.iload 6, 2) := by decide +kernel
theorem dX7_kthFrom_27 : decode cX7_kthFrom 27 = .ok (.iconst 0, 1) := by decide +kernel
theorem dX7_kthFrom_28 : decode cX7_kthFrom 28 = .ok (.iastore, 1) := by decide +kernel
theorem dX7_kthFrom_29 : decode cX7_kthFrom 29 = .ok (.iinc 6 1, 3) := by decide +kernel
theorem dX7_kthFrom_32 : decode cX7_kthFrom 32 = .ok (.goto (-18), 3) := by decide +kernel
theorem dX7_kthFrom_35 : decode cX7_kthFrom 35 = .ok (.iconst 0, 1) := by decide +kernel
theorem dX7_kthFrom_36 : decode cX7_kthFrom 36 = .ok (.istore 6, 2) := by decide +kernel
theorem dX7_kthFrom_38 : decode cX7_kthFrom 38 = .ok (.aload_n 0, 1) := by decide +kernel
theorem dX7_kthFrom_39 : decode cX7_kthFrom 39 = .ok (.iload 4, 2) := by decide +kernel
theorem dX7_kthFrom_41 : decode cX7_kthFrom 41 = .ok (.iload 5, 2) := by decide +kernel
theorem dX7_kthFrom_43 : decode cX7_kthFrom 43 = .ok (.invokevirtual 192, 3) := by decide +kernel
theorem dX7_kthFrom_46 : decode cX7_kthFrom 46 = .ok (.istore 7, 2) := by decide +kernel
theorem dX7_kthFrom_48 : decode cX7_kthFrom 48 = .ok (.iload 7, 2) := by decide +kernel
theorem dX7_kthFrom_50 : decode cX7_kthFrom 50 = .ok (.bipush (-9), 2) := by decide +kernel
theorem dX7_kthFrom_52 : decode cX7_kthFrom 52 = .ok (.if_icmp .ne 6, 3) := by decide +kernel
theorem dX7_kthFrom_55 : decode cX7_kthFrom 55 = .ok (.bipush (-5), 2) := by decide +kernel
theorem dX7_kthFrom_57 : decode cX7_kthFrom 57 = .ok (.ireturn, 1) := by decide +kernel
theorem dX7_kthFrom_58 : decode cX7_kthFrom 58 = .ok (.iload 6, 2) := by decide +kernel
theorem dX7_kthFrom_60 : decode cX7_kthFrom 60 = .ok (.iload_n 3, 1) := by decide +kernel
theorem dX7_kthFrom_61 : decode cX7_kthFrom 61 = .ok (.if_icmp .ne 6, 3) := by decide +kernel
theorem dX7_kthFrom_64 : decode cX7_kthFrom 64 = .ok (.iload 7, 2) := by decide +kernel
theorem dX7_kthFrom_66 : decode cX7_kthFrom 66 = .ok (.ireturn, 1) := by decide +kernel
theorem dX7_kthFrom_67 : decode cX7_kthFrom 67 = .ok (.aload_n 0, 1) := by decide +kernel
theorem dX7_kthFrom_68 : decode cX7_kthFrom 68 = .ok (.dup, 1) := by decide +kernel
theorem dX7_kthFrom_69 : decode cX7_kthFrom 69 = .ok (.getfield 189, 3) := by decide +kernel
theorem dX7_kthFrom_72 : decode cX7_kthFrom 72 = .ok (.aload_n 0, 1) := by decide +kernel
theorem dX7_kthFrom_73 : decode cX7_kthFrom 73 = .ok (.iload 5, 2) := by decide +kernel
theorem dX7_kthFrom_75 : decode cX7_kthFrom 75 = .ok (.iload 7, 2) := by decide +kernel
theorem dX7_kthFrom_77 : decode cX7_kthFrom 77 = .ok (.invokevirtual 160, 3) := by decide +kernel
theorem dX7_kthFrom_80 : decode cX7_kthFrom 80 = .ok (.ifCond .eq 7, 3) := by decide +kernel
theorem dX7_kthFrom_83 : decode cX7_kthFrom 83 = .ok (.iconst 1, 1) := by decide +kernel
theorem dX7_kthFrom_84 : decode cX7_kthFrom 84 = .ok (.goto 4, 3) := by decide +kernel
theorem dX7_kthFrom_87 : decode cX7_kthFrom 87 = .ok (.iconst 0, 1) := by decide +kernel
theorem dX7_kthFrom_88 : decode cX7_kthFrom 88 = .ok (.iadd, 1) := by decide +kernel
theorem dX7_kthFrom_89 : decode cX7_kthFrom 89 = .ok (.putfield 189, 3) := by decide +kernel
theorem dX7_kthFrom_92 : decode cX7_kthFrom 92 = .ok (.aload_n 0, 1) := by decide +kernel
theorem dX7_kthFrom_93 : decode cX7_kthFrom 93 = .ok (.getfield 53, 3) := by decide +kernel
theorem dX7_kthFrom_96 : decode cX7_kthFrom 96 = .ok (.iload 7, 2) := by decide +kernel
theorem dX7_kthFrom_98 : decode cX7_kthFrom 98 = .ok (.dup2, 1) := by decide +kernel
theorem dX7_kthFrom_99 : decode cX7_kthFrom 99 = .ok (.iaload, 1) := by decide +kernel
theorem dX7_kthFrom_100 : decode cX7_kthFrom 100 = .ok (.iconst 1, 1) := by decide +kernel
theorem dX7_kthFrom_101 : decode cX7_kthFrom 101 = .ok (.iadd, 1) := by decide +kernel
theorem dX7_kthFrom_102 : decode cX7_kthFrom 102 = .ok (.iastore, 1) := by decide +kernel
theorem dX7_kthFrom_103 : decode cX7_kthFrom 103 = .ok (.aload_n 0, 1) := by decide +kernel
theorem dX7_kthFrom_104 : decode cX7_kthFrom 104 = .ok (.iload 7, 2) := by decide +kernel
theorem dX7_kthFrom_106 : decode cX7_kthFrom 106 = .ok (.iload 4, 2) := by decide +kernel
theorem dX7_kthFrom_108 : decode cX7_kthFrom 108 = .ok (.invokevirtual 175, 3) := by decide +kernel
theorem dX7_kthFrom_111 : decode cX7_kthFrom 111 = .ok (.istore 4, 2) := by decide +kernel
theorem dX7_kthFrom_113 : decode cX7_kthFrom 113 = .ok (.iload 7, 2) := by decide +kernel
theorem dX7_kthFrom_115 : decode cX7_kthFrom 115 = .ok (.iconst 1, 1) := by decide +kernel
theorem dX7_kthFrom_116 : decode cX7_kthFrom 116 = .ok (.iadd, 1) := by decide +kernel
theorem dX7_kthFrom_117 : decode cX7_kthFrom 117 = .ok (.istore 5, 2) := by decide +kernel
theorem dX7_kthFrom_119 : decode cX7_kthFrom 119 = .ok (.iinc 6 1, 3) := by decide +kernel
theorem dX7_kthFrom_122 : decode cX7_kthFrom 122 = .ok (.goto (-84), 3) := by decide +kernel
theorem dX7_way_0 : decode cX7_way 0 = .ok (.aload_n 0, 1) := by decide +kernel
theorem dX7_way_1 : decode cX7_way 1 = .ok (.iconst 0, 1) := by decide +kernel
theorem dX7_way_2 : decode cX7_way 2 = .ok (.putfield 69, 3) := by decide +kernel
theorem dX7_way_5 : decode cX7_way 5 = .ok (.iload_n 1, 1) := by decide +kernel
theorem dX7_way_6 : decode cX7_way 6 = .ok (.bipush (-2), 2) := by decide +kernel
theorem dX7_way_8 : decode cX7_way 8 = .ok (.if_icmp .ge 5, 3) := by decide +kernel
theorem dX7_way_11 : decode cX7_way 11 = .ok (.iconst (-1), 1) := by decide +kernel
theorem dX7_way_12 : decode cX7_way 12 = .ok (.ireturn, 1) := by decide +kernel
theorem dX7_way_13 : decode cX7_way 13 = .ok (.aload_n 0, 1) := by decide +kernel
theorem dX7_way_14 : decode cX7_way 14 = .ok (.invokevirtual 166, 3) := by decide +kernel
theorem dX7_way_17 : decode cX7_way 17 = .ok (.aload_n 0, 1) := by decide +kernel
theorem dX7_way_18 : decode cX7_way 18 = .ok (.invokevirtual 195, 3) := by decide +kernel
theorem dX7_way_21 : decode cX7_way 21 = .ok (.aload_n 0, 1) := by decide +kernel
theorem dX7_way_22 : decode cX7_way 22 = .ok (.aload_n 0, 1) := by decide +kernel
theorem dX7_way_23 : decode cX7_way 23 = .ok (.getfield 25, 3) := by decide +kernel
theorem dX7_way_26 : decode cX7_way 26 = .ok (.iconst 0, 1) := by decide +kernel
theorem dX7_way_27 : decode cX7_way 27 = .ok (.iaload, 1) := by decide +kernel
theorem dX7_way_28 : decode cX7_way 28 = .ok (.aload_n 0, 1) := by decide +kernel
theorem dX7_way_29 : decode cX7_way 29 = .ok (.getfield 25, 3) := by decide +kernel
theorem dX7_way_32 : decode cX7_way 32 = .ok (.iconst 1, 1) := by decide +kernel
theorem dX7_way_33 : decode cX7_way 33 = .ok (.iaload, 1) := by decide +kernel
theorem dX7_way_34 : decode cX7_way 34 = .ok (.invokevirtual 186, 3) := by decide +kernel
theorem dX7_way_37 : decode cX7_way 37 = .ok (.istore_n 2, 1) := by decide +kernel
theorem dX7_way_38 : decode cX7_way 38 = .ok (.iload_n 2, 1) := by decide +kernel
theorem dX7_way_39 : decode cX7_way 39 = .ok (.ldc 181, 2) := by decide +kernel
theorem dX7_way_41 : decode cX7_way 41 = .ok (.if_icmp .eq 8, 3) := by decide +kernel
theorem dX7_way_44 : decode cX7_way 44 = .ok (.iload_n 1, 1) := by decide +kernel
theorem dX7_way_45 : decode cX7_way 45 = .ok (.iconst (-1), 1) := by decide +kernel
theorem dX7_way_46 : decode cX7_way 46 = .ok (.if_icmp .ne 16, 3) := by decide +kernel
theorem dX7_way_49 : decode cX7_way 49 = .ok (.iload_n 2, 1) := by decide +kernel
theorem dX7_way_50 : decode cX7_way 50 = .ok (.ldc 181, 2) := by decide +kernel
theorem dX7_way_52 : decode cX7_way 52 = .ok (.if_icmp .ne 8, 3) := by decide +kernel
theorem dX7_way_55 : decode cX7_way 55 = .ok (.bipush (-9), 2) := by decide +kernel
theorem dX7_way_57 : decode cX7_way 57 = .ok (.goto 4, 3) := by decide +kernel
theorem dX7_way_60 : decode cX7_way 60 = .ok (.iload_n 2, 1) := by decide +kernel
theorem dX7_way_61 : decode cX7_way 61 = .ok (.ireturn, 1) := by decide +kernel
theorem dX7_way_62 : decode cX7_way 62 = .ok (.aload_n 0, 1) := by decide +kernel
theorem dX7_way_63 : decode cX7_way 63 = .ok (.aload_n 0, 1) := by decide +kernel
theorem dX7_way_64 : decode cX7_way 64 = .ok (.getfield 25, 3) := by decide +kernel
theorem dX7_way_67 : decode cX7_way 67 = .ok (.iconst 0, 1) := by decide +kernel
theorem dX7_way_68 : decode cX7_way 68 = .ok (.iaload, 1) := by decide +kernel
theorem dX7_way_69 : decode cX7_way 69 = .ok (.aload_n 0, 1) := by decide +kernel
theorem dX7_way_70 : decode cX7_way 70 = .ok (.getfield 25, 3) := by decide +kernel
theorem dX7_way_73 : decode cX7_way 73 = .ok (.iconst 1, 1) := by decide +kernel
theorem dX7_way_74 : decode cX7_way 74 = .ok (.iaload, 1) := by decide +kernel
theorem dX7_way_75 : decode cX7_way 75 = .ok (.iload_n 1, 1) := by decide +kernel
theorem dX7_way_76 : decode cX7_way 76 = .ok (.bipush (-2), 2) := by decide +kernel
theorem dX7_way_78 : decode cX7_way 78 = .ok (.if_icmp .ne 8, 3) := by decide +kernel
theorem dX7_way_81 : decode cX7_way 81 = .ok (.ldc 181, 2) := by decide +kernel
theorem dX7_way_83 : decode cX7_way 83 = .ok (.goto 4, 3) := by decide +kernel
theorem dX7_way_86 : decode cX7_way 86 = .ok (.iload_n 1, 1) := by decide +kernel
theorem dX7_way_87 : decode cX7_way 87 = .ok (.invokevirtual 198, 3) := by decide +kernel
theorem dX7_way_90 : decode cX7_way 90 = .ok (.istore_n 3, 1) := by decide +kernel
theorem dX7_way_91 : decode cX7_way 91 = .ok (.iload_n 1, 1) := by decide +kernel
theorem dX7_way_92 : decode cX7_way 92 = .ok (.bipush (-2), 2) := by decide +kernel
theorem dX7_way_94 : decode cX7_way 94 = .ok (.if_icmp .ne 10, 3) := by decide +kernel
theorem dX7_way_97 : decode cX7_way 97 = .ok (.aload_n 0, 1) := by decide +kernel
theorem dX7_way_98 : decode cX7_way 98 = .ok (.getfield 189, 3) := by decide +kernel
theorem dX7_way_101 : decode cX7_way 101 = .ok (.goto 4, 3) := by decide +kernel
theorem dX7_way_104 : decode cX7_way 104 = .ok (.iload_n 3, 1) := by decide +kernel
theorem dX7_way_105 : decode cX7_way 105 = .ok (.ireturn, 1) := by decide +kernel
theorem dX7_round_0 : decode cX7_round 0 = .ok (.aload_n 0, 1) := by decide +kernel
theorem dX7_round_1 : decode cX7_round 1 = .ok (.iconst 0, 1) := by decide +kernel
theorem dX7_round_2 : decode cX7_round 2 = .ok (.putfield 69, 3) := by decide +kernel
theorem dX7_round_5 : decode cX7_round 5 = .ok (.aload_n 0, 1) := by decide +kernel
theorem dX7_round_6 : decode cX7_round 6 = .ok (.invokevirtual 166, 3) := by decide +kernel
theorem dX7_round_9 : decode cX7_round 9 = .ok (.aload_n 0, 1) := by decide +kernel
theorem dX7_round_10 : decode cX7_round 10 = .ok (.invokevirtual 195, 3) := by decide +kernel
theorem dX7_round_13 : decode cX7_round 13 = .ok (.aload_n 0, 1) := by decide +kernel
theorem dX7_round_14 : decode cX7_round 14 = .ok (.aload_n 0, 1) := by decide +kernel
theorem dX7_round_15 : decode cX7_round 15 = .ok (.getfield 25, 3) := by decide +kernel
theorem dX7_round_18 : decode cX7_round 18 = .ok (.iconst 0, 1) := by decide +kernel
theorem dX7_round_19 : decode cX7_round 19 = .ok (.iaload, 1) := by decide +kernel
theorem dX7_round_20 : decode cX7_round 20 = .ok (.aload_n 0, 1) := by decide +kernel
theorem dX7_round_21 : decode cX7_round 21 = .ok (.getfield 25, 3) := by decide +kernel
theorem dX7_round_24 : decode cX7_round 24 = .ok (.iconst 1, 1) := by decide +kernel
theorem dX7_round_25 : decode cX7_round 25 = .ok (.iaload, 1) := by decide +kernel
theorem dX7_round_26 : decode cX7_round 26 = .ok (.invokevirtual 192, 3) := by decide +kernel
theorem dX7_round_29 : decode cX7_round 29 = .ok (.istore_n 1, 1) := by decide +kernel
theorem dX7_round_30 : decode cX7_round 30 = .ok (.iload_n 1, 1) := by decide +kernel
theorem dX7_round_31 : decode cX7_round 31 = .ok (.bipush (-9), 2) := by decide +kernel
theorem dX7_round_33 : decode cX7_round 33 = .ok (.if_icmp .ne 8, 3) := by decide +kernel
theorem dX7_round_36 : decode cX7_round 36 = .ok (.bipush (-9), 2) := by decide +kernel
theorem dX7_round_38 : decode cX7_round 38 = .ok (.goto 20, 3) := by decide +kernel
theorem dX7_round_41 : decode cX7_round 41 = .ok (.iload_n 1, 1) := by decide +kernel
theorem dX7_round_42 : decode cX7_round 42 = .ok (.aload_n 0, 1) := by decide +kernel
theorem dX7_round_43 : decode cX7_round 43 = .ok (.getfield 25, 3) := by decide +kernel
theorem dX7_round_46 : decode cX7_round 46 = .ok (.iconst 1, 1) := by decide +kernel
theorem dX7_round_47 : decode cX7_round 47 = .ok (.iaload, 1) := by decide +kernel
theorem dX7_round_48 : decode cX7_round 48 = .ok (.iconst 1, 1) := by decide +kernel
theorem dX7_round_49 : decode cX7_round 49 = .ok (.isub, 1) := by decide +kernel
theorem dX7_round_50 : decode cX7_round 50 = .ok (.if_icmp .ne 7, 3) := by decide +kernel
theorem dX7_round_53 : decode cX7_round 53 = .ok (.iconst 1, 1) := by decide +kernel
theorem dX7_round_54 : decode cX7_round 54 = .ok (.goto 4, 3) := by decide +kernel
theorem dX7_round_57 : decode cX7_round 57 = .ok (.iconst 0, 1) := by decide +kernel
theorem dX7_round_58 : decode cX7_round 58 = .ok (.ireturn, 1) := by decide +kernel
theorem dX7_on_0 : decode cX7_on 0 = .ok (.aload_n 0, 1) := by decide +kernel
theorem dX7_on_1 : decode cX7_on 1 = .ok (.iconst 0, 1) := by decide +kernel
theorem dX7_on_2 : decode cX7_on 2 = .ok (.putfield 69, 3) := by decide +kernel
theorem dX7_on_5 : decode cX7_on 5 = .ok (.aload_n 0, 1) := by decide +kernel
theorem dX7_on_6 : decode cX7_on 6 = .ok (.iload_n 1, 1) := by decide +kernel
theorem dX7_on_7 : decode cX7_on 7 = .ok (.invokevirtual 143, 3) := by decide +kernel
theorem dX7_on_10 : decode cX7_on 10 = .ok (.ifCond .ne 5, 3) := by decide +kernel
theorem dX7_on_13 : decode cX7_on 13 = .ok (.iconst (-1), 1) := by decide +kernel
theorem dX7_on_14 : decode cX7_on 14 = .ok (.ireturn, 1) := by decide +kernel
theorem dX7_on_15 : decode cX7_on 15 = .ok (.aload_n 0, 1) := by decide +kernel
theorem dX7_on_16 : decode cX7_on 16 = .ok (.invokevirtual 166, 3) := by decide +kernel
theorem dX7_on_19 : decode cX7_on 19 = .ok (.aload_n 0, 1) := by decide +kernel
theorem dX7_on_20 : decode cX7_on 20 = .ok (.getfield 163, 3) := by decide +kernel
theorem dX7_on_23 : decode cX7_on 23 = .ok (.iload_n 1, 1) := by decide +kernel
theorem dX7_on_24 : decode cX7_on 24 = .ok (.ishr, 1) := by decide +kernel
theorem dX7_on_25 : decode cX7_on 25 = .ok (.iconst 1, 1) := by decide +kernel
theorem dX7_on_26 : decode cX7_on 26 = .ok (.iand, 1) := by decide +kernel
theorem dX7_on_27 : decode cX7_on 27 = .ok (.ifCond .eq 17, 3) := by decide +kernel
theorem dX7_on_30 : decode cX7_on 30 = .ok (.aload_n 0, 1) := by decide +kernel
theorem dX7_on_31 : decode cX7_on 31 = .ok (.iload_n 1, 1) := by decide +kernel
theorem dX7_on_32 : decode cX7_on 32 = .ok (.aload_n 0, 1) := by decide +kernel
theorem dX7_on_33 : decode cX7_on 33 = .ok (.getfield 25, 3) := by decide +kernel
theorem dX7_on_36 : decode cX7_on 36 = .ok (.iconst 0, 1) := by decide +kernel
theorem dX7_on_37 : decode cX7_on 37 = .ok (.iaload, 1) := by decide +kernel
theorem dX7_on_38 : decode cX7_on 38 = .ok (.invokevirtual 146, 3) := by decide +kernel
theorem dX7_on_41 : decode cX7_on 41 = .ok (.ifCond .ne 5, 3) := by decide +kernel
theorem dX7_on_44 : decode cX7_on 44 = .ok (.iconst (-1), 1) := by decide +kernel
theorem dX7_on_45 : decode cX7_on 45 = .ok (.ireturn, 1) := by decide +kernel
theorem dX7_on_46 : decode cX7_on 46 = .ok (.aload_n 0, 1) := by decide +kernel
theorem dX7_on_47 : decode cX7_on 47 = .ok (.invokevirtual 195, 3) := by decide +kernel
theorem dX7_on_50 : decode cX7_on 50 = .ok (.aload_n 0, 1) := by decide +kernel
theorem dX7_on_51 : decode cX7_on 51 = .ok (.aload_n 0, 1) := by decide +kernel
theorem dX7_on_52 : decode cX7_on 52 = .ok (.getfield 25, 3) := by decide +kernel
theorem dX7_on_55 : decode cX7_on 55 = .ok (.iconst 0, 1) := by decide +kernel
theorem dX7_on_56 : decode cX7_on 56 = .ok (.iaload, 1) := by decide +kernel
theorem dX7_on_57 : decode cX7_on 57 = .ok (.aload_n 0, 1) := by decide +kernel
theorem dX7_on_58 : decode cX7_on 58 = .ok (.getfield 25, 3) := by decide +kernel
theorem dX7_on_61 : decode cX7_on 61 = .ok (.iconst 1, 1) := by decide +kernel
theorem dX7_on_62 : decode cX7_on 62 = .ok (.iaload, 1) := by decide +kernel
theorem dX7_on_63 : decode cX7_on 63 = .ok (.iload_n 1, 1) := by decide +kernel
theorem dX7_on_64 : decode cX7_on 64 = .ok (.invokevirtual 182, 3) := by decide +kernel
theorem dX7_on_67 : decode cX7_on 67 = .ok (.istore_n 2, 1) := by decide +kernel
theorem dX7_on_68 : decode cX7_on 68 = .ok (.iload_n 2, 1) := by decide +kernel
theorem dX7_on_69 : decode cX7_on 69 = .ok (.ldc 181, 2) := by decide +kernel
theorem dX7_on_71 : decode cX7_on 71 = .ok (.if_icmp .ne 8, 3) := by decide +kernel
theorem dX7_on_74 : decode cX7_on 74 = .ok (.bipush (-9), 2) := by decide +kernel
theorem dX7_on_76 : decode cX7_on 76 = .ok (.goto 4, 3) := by decide +kernel
theorem dX7_on_79 : decode cX7_on 79 = .ok (.iload_n 2, 1) := by decide +kernel
theorem dX7_on_80 : decode cX7_on 80 = .ok (.ireturn, 1) := by decide +kernel
theorem dX7_worst_0 : decode cX7_worst 0 = .ok (.aload_n 0, 1) := by decide +kernel
theorem dX7_worst_1 : decode cX7_worst 1 = .ok (.iconst 0, 1) := by decide +kernel
theorem dX7_worst_2 : decode cX7_worst 2 = .ok (.putfield 69, 3) := by decide +kernel
theorem dX7_worst_5 : decode cX7_worst 5 = .ok (.iload_n 1, 1) := by decide +kernel
theorem dX7_worst_6 : decode cX7_worst 6 = .ok (.iconst 0, 1) := by decide +kernel
theorem dX7_worst_7 : decode cX7_worst 7 = .ok (.iconst 1, 1) := by decide +kernel
theorem dX7_worst_8 : decode cX7_worst 8 = .ok (.invokestatic 73, 3) := by decide +kernel
theorem dX7_worst_11 : decode cX7_worst 11 = .ok (.ifCond .ne 5, 3) := by decide +kernel
theorem dX7_worst_14 : decode cX7_worst 14 = .ok (.iconst (-1), 1) := by decide +kernel
theorem dX7_worst_15 : decode cX7_worst 15 = .ok (.ireturn, 1) := by decide +kernel
theorem dX7_worst_16 : decode cX7_worst 16 = .ok (.aload_n 0, 1) := by decide +kernel
theorem dX7_worst_17 : decode cX7_worst 17 = .ok (.invokevirtual 166, 3) := by decide +kernel
theorem dX7_worst_20 : decode cX7_worst 20 = .ok (.aload_n 0, 1) := by decide +kernel
theorem dX7_worst_21 : decode cX7_worst 21 = .ok (.invokevirtual 195, 3) := by decide +kernel
theorem dX7_worst_24 : decode cX7_worst 24 = .ok (.bipush (-9), 2) := by decide +kernel
theorem dX7_worst_26 : decode cX7_worst 26 = .ok (.istore_n 2, 1) := by decide +kernel
theorem dX7_worst_27 : decode cX7_worst 27 = .ok (.iconst (-1), 1) := by decide +kernel
theorem dX7_worst_28 : decode cX7_worst 28 = .ok (.istore_n 3, 1) := by decide +kernel
theorem dX7_worst_29 : decode cX7_worst 29 = .ok (.aload_n 0, 1) := by decide +kernel
theorem dX7_worst_30 : decode cX7_worst 30 = .ok (.getfield 163, 3) := by decide +kernel
theorem dX7_worst_33 : decode cX7_worst 33 = .ok (.istore 4, 2) := by decide +kernel
theorem dX7_worst_35 : decode cX7_worst 35 = .ok (.aload_n 0, 1) := by decide +kernel
theorem dX7_worst_36 : decode cX7_worst 36 = .ok (.aload_n 0, 1) := by decide +kernel
theorem dX7_worst_37 : decode cX7_worst 37 = .ok (.getfield 25, 3) := by decide +kernel
theorem dX7_worst_40 : decode cX7_worst 40 = .ok (.iconst 0, 1) := by decide +kernel
theorem dX7_worst_41 : decode cX7_worst 41 = .ok (.iaload, 1) := by decide +kernel
theorem dX7_worst_42 : decode cX7_worst 42 = .ok (.aload_n 0, 1) := by decide +kernel
theorem dX7_worst_43 : decode cX7_worst 43 = .ok (.getfield 25, 3) := by decide +kernel
theorem dX7_worst_46 : decode cX7_worst 46 = .ok (.iconst 1, 1) := by decide +kernel
theorem dX7_worst_47 : decode cX7_worst 47 = .ok (.iaload, 1) := by decide +kernel
theorem dX7_worst_48 : decode cX7_worst 48 = .ok (.invokevirtual 186, 3) := by decide +kernel
theorem dX7_worst_51 : decode cX7_worst 51 = .ok (.ldc 181, 2) := by decide +kernel
theorem dX7_worst_53 : decode cX7_worst 53 = .ok (.if_icmp .ne 6, 3) := by decide +kernel
theorem dX7_worst_56 : decode cX7_worst 56 = .ok (.bipush (-9), 2) := by decide +kernel
theorem dX7_worst_58 : decode cX7_worst 58 = .ok (.ireturn, 1) := by decide +kernel
theorem dX7_worst_59 : decode cX7_worst 59 = .ok (.iconst 0, 1) := by decide +kernel
theorem dX7_worst_60 : decode cX7_worst 60 = .ok (.istore 5, 2) := by decide +kernel
theorem dX7_worst_62 : decode cX7_worst 62 = .ok (.iload 5, 2) := by decide +kernel
theorem dX7_worst_64 : decode cX7_worst 64 = .ok (.aload_n 0, 1) := by decide +kernel
theorem dX7_worst_65 : decode cX7_worst 65 = .ok (.getfield 13, 3) := by decide +kernel
theorem dX7_worst_68 : decode cX7_worst 68 = .ok (.iconst 1, 1) := by decide +kernel
theorem dX7_worst_69 : decode cX7_worst 69 = .ok (.iaload, 1) := by decide +kernel
theorem dX7_worst_70 : decode cX7_worst 70 = .ok (.if_icmp .ge 81, 3) := by decide +kernel
theorem dX7_worst_73 : decode cX7_worst 73 = .ok (.iload 4, 2) := by decide +kernel
theorem dX7_worst_75 : decode cX7_worst 75 = .ok (.iload 5, 2) := by decide +kernel
theorem dX7_worst_77 : decode cX7_worst 77 = .ok (.ishr, 1) := by decide +kernel
theorem dX7_worst_78 : decode cX7_worst 78 = .ok (.iconst 1, 1) := by decide +kernel
theorem dX7_worst_79 : decode cX7_worst 79 = .ok (.iand, 1) := by decide +kernel
theorem dX7_worst_80 : decode cX7_worst 80 = .ok (.iconst 1, 1) := by decide +kernel
theorem dX7_worst_81 : decode cX7_worst 81 = .ok (.if_icmp .ne 64, 3) := by decide +kernel
theorem dX7_worst_84 : decode cX7_worst 84 = .ok (.aload_n 0, 1) := by decide +kernel
theorem dX7_worst_85 : decode cX7_worst 85 = .ok (.iload 4, 2) := by decide +kernel
theorem dX7_worst_87 : decode cX7_worst 87 = .ok (.iconst 1, 1) := by decide +kernel
theorem dX7_worst_88 : decode cX7_worst 88 = .ok (.iload 5, 2) := by decide +kernel
theorem dX7_worst_90 : decode cX7_worst 90 = .ok (.ishl, 1) := by decide +kernel
theorem dX7_worst_91 : decode cX7_worst 91 = .ok (.iconst (-1), 1) := by decide +kernel
theorem dX7_worst_92 : decode cX7_worst 92 = .ok (.ixor, 1) := by decide +kernel
theorem dX7_worst_93 : decode cX7_worst 93 = .ok (.iand, 1) := by decide +kernel
theorem dX7_worst_94 : decode cX7_worst 94 = .ok (.putfield 163, 3) := by decide +kernel
theorem dX7_worst_97 : decode cX7_worst 97 = .ok (.aload_n 0, 1) := by decide +kernel
theorem dX7_worst_98 : decode cX7_worst 98 = .ok (.invokevirtual 195, 3) := by decide +kernel
theorem dX7_worst_101 : decode cX7_worst 101 = .ok (.aload_n 0, 1) := by decide +kernel
theorem dX7_worst_102 : decode cX7_worst 102 = .ok (.aload_n 0, 1) := by decide +kernel
theorem dX7_worst_103 : decode cX7_worst 103 = .ok (.getfield 25, 3) := by decide +kernel
theorem dX7_worst_106 : decode cX7_worst 106 = .ok (.iconst 0, 1) := by decide +kernel
theorem dX7_worst_107 : decode cX7_worst 107 = .ok (.iaload, 1) := by decide +kernel
theorem dX7_worst_108 : decode cX7_worst 108 = .ok (.aload_n 0, 1) := by decide +kernel
theorem dX7_worst_109 : decode cX7_worst 109 = .ok (.getfield 25, 3) := by decide +kernel
theorem dX7_worst_112 : decode cX7_worst 112 = .ok (.iconst 1, 1) := by decide +kernel
theorem dX7_worst_113 : decode cX7_worst 113 = .ok (.iaload, 1) := by decide +kernel
theorem dX7_worst_114 : decode cX7_worst 114 = .ok (.invokevirtual 186, 3) := by decide +kernel
theorem dX7_worst_117 : decode cX7_worst 117 = .ok (.istore 6, 2) := by decide +kernel
theorem dX7_worst_119 : decode cX7_worst 119 = .ok (.iload 6, 2) := by decide +kernel
theorem dX7_worst_121 : decode cX7_worst 121 = .ok (.iload_n 3, 1) := by decide +kernel
theorem dX7_worst_122 : decode cX7_worst 122 = .ok (.if_icmp .le 8, 3) := by decide +kernel
theorem dX7_worst_125 : decode cX7_worst 125 = .ok (.iload 5, 2) := by decide +kernel
theorem dX7_worst_127 : decode cX7_worst 127 = .ok (.goto 4, 3) := by decide +kernel
theorem dX7_worst_130 : decode cX7_worst 130 = .ok (.iload_n 2, 1) := by decide +kernel
theorem dX7_worst_131 : decode cX7_worst 131 = .ok (.istore_n 2, 1) := by decide +kernel
theorem dX7_worst_132 : decode cX7_worst 132 = .ok (.iload 6, 2) := by decide +kernel
theorem dX7_worst_134 : decode cX7_worst 134 = .ok (.iload_n 3, 1) := by decide +kernel
theorem dX7_worst_135 : decode cX7_worst 135 = .ok (.if_icmp .le 8, 3) := by decide +kernel
theorem dX7_worst_138 : decode cX7_worst 138 = .ok (.iload 6, 2) := by decide +kernel
theorem dX7_worst_140 : decode cX7_worst 140 = .ok (.goto 4, 3) := by decide +kernel
theorem dX7_worst_143 : decode cX7_worst 143 = .ok (.iload_n 3, 1) := by decide +kernel
theorem dX7_worst_144 : decode cX7_worst 144 = .ok (.istore_n 3, 1) := by decide +kernel
theorem dX7_worst_145 : decode cX7_worst 145 = .ok (.iinc 5 1, 3) := by decide +kernel
theorem dX7_worst_148 : decode cX7_worst 148 = .ok (.goto (-86), 3) := by decide +kernel
theorem dX7_worst_151 : decode cX7_worst 151 = .ok (.iload_n 2, 1) := by decide +kernel
theorem dX7_worst_152 : decode cX7_worst 152 = .ok (.bipush (-9), 2) := by decide +kernel
theorem dX7_worst_154 : decode cX7_worst 154 = .ok (.if_icmp .eq 7, 3) := by decide +kernel
theorem dX7_worst_157 : decode cX7_worst 157 = .ok (.iload_n 1, 1) := by decide +kernel
theorem dX7_worst_158 : decode cX7_worst 158 = .ok (.ifCond .ne 7, 3) := by decide +kernel
theorem dX7_worst_161 : decode cX7_worst 161 = .ok (.iload_n 2, 1) := by decide +kernel
theorem dX7_worst_162 : decode cX7_worst 162 = .ok (.goto 15, 3) := by decide +kernel
theorem dX7_worst_165 : decode cX7_worst 165 = .ok (.iload_n 3, 1) := by decide +kernel
theorem dX7_worst_166 : decode cX7_worst 166 = .ok (.ldc 181, 2) := by decide +kernel
theorem dX7_worst_168 : decode cX7_worst 168 = .ok (.if_icmp .ne 8, 3) := by decide +kernel
theorem dX7_worst_171 : decode cX7_worst 171 = .ok (.bipush (-5), 2) := by decide +kernel
theorem dX7_worst_173 : decode cX7_worst 173 = .ok (.goto 4, 3) := by decide +kernel
theorem dX7_worst_176 : decode cX7_worst 176 = .ok (.iload_n 3, 1) := by decide +kernel
theorem dX7_worst_177 : decode cX7_worst 177 = .ok (.ireturn, 1) := by decide +kernel
theorem dX7_plans_0 : decode cX7_plans 0 = .ok (.aload_n 0, 1) := by decide +kernel
theorem dX7_plans_1 : decode cX7_plans 1 = .ok (.iconst 0, 1) := by decide +kernel
theorem dX7_plans_2 : decode cX7_plans 2 = .ok (.putfield 69, 3) := by decide +kernel
theorem dX7_plans_5 : decode cX7_plans 5 = .ok (.aload_n 0, 1) := by decide +kernel
theorem dX7_plans_6 : decode cX7_plans 6 = .ok (.iload_n 1, 1) := by decide +kernel
theorem dX7_plans_7 : decode cX7_plans 7 = .ok (.invokevirtual 143, 3) := by decide +kernel
theorem dX7_plans_10 : decode cX7_plans 10 = .ok (.ifCond .ne 5, 3) := by decide +kernel
theorem dX7_plans_13 : decode cX7_plans 13 = .ok (.iconst (-1), 1) := by decide +kernel
theorem dX7_plans_14 : decode cX7_plans 14 = .ok (.ireturn, 1) := by decide +kernel
theorem dX7_plans_15 : decode cX7_plans 15 = .ok (.aload_n 0, 1) := by decide +kernel
theorem dX7_plans_16 : decode cX7_plans 16 = .ok (.getfield 134, 3) := by decide +kernel
theorem dX7_plans_19 : decode cX7_plans 19 = .ok (.bipush 8, 2) := by decide +kernel
theorem dX7_plans_21 : decode cX7_plans 21 = .ok (.if_icmp .ne 6, 3) := by decide +kernel
theorem dX7_plans_24 : decode cX7_plans 24 = .ok (.bipush (-3), 2) := by decide +kernel
theorem dX7_plans_26 : decode cX7_plans 26 = .ok (.ireturn, 1) := by decide +kernel
theorem dX7_plans_27 : decode cX7_plans 27 = .ok (.aload_n 0, 1) := by decide +kernel
theorem dX7_plans_28 : decode cX7_plans 28 = .ok (.getfield 38, 3) := by decide +kernel
theorem dX7_plans_31 : decode cX7_plans 31 = .ok (.aload_n 0, 1) := by decide +kernel
theorem dX7_plans_32 : decode cX7_plans 32 = .ok (.getfield 134, 3) := by decide +kernel
theorem dX7_plans_35 : decode cX7_plans 35 = .ok (.iload_n 1, 1) := by decide +kernel
theorem dX7_plans_36 : decode cX7_plans 36 = .ok (.iastore, 1) := by decide +kernel
theorem dX7_plans_37 : decode cX7_plans 37 = .ok (.aload_n 0, 1) := by decide +kernel
theorem dX7_plans_38 : decode cX7_plans 38 = .ok (.dup, 1) := by decide +kernel
theorem dX7_plans_39 : decode cX7_plans 39 = .ok (.getfield 134, 3) := by decide +kernel
theorem dX7_plans_42 : decode cX7_plans 42 = .ok (.iconst 1, 1) := by decide +kernel
theorem dX7_plans_43 : decode cX7_plans 43 = .ok (.iadd, 1) := by decide +kernel
theorem dX7_plans_44 : decode cX7_plans 44 = .ok (.putfield 134, 3) := by decide +kernel
theorem dX7_plans_47 : decode cX7_plans 47 = .ok (.aload_n 0, 1) := by decide +kernel
theorem dX7_plans_48 : decode cX7_plans 48 = .ok (.getfield 134, 3) := by decide +kernel
theorem dX7_plans_51 : decode cX7_plans 51 = .ok (.ireturn, 1) := by decide +kernel
theorem dX7_drops_0 : decode cX7_drops 0 = .ok (.aload_n 0, 1) := by decide +kernel
theorem dX7_drops_1 : decode cX7_drops 1 = .ok (.iconst 0, 1) := by decide +kernel
theorem dX7_drops_2 : decode cX7_drops 2 = .ok (.putfield 69, 3) := by decide +kernel
theorem dX7_drops_5 : decode cX7_drops 5 = .ok (.aload_n 0, 1) := by decide +kernel
theorem dX7_drops_6 : decode cX7_drops 6 = .ok (.getfield 134, 3) := by decide +kernel
theorem dX7_drops_9 : decode cX7_drops 9 = .ok (.istore_n 1, 1) := by decide +kernel
theorem dX7_drops_10 : decode cX7_drops 10 = .ok (.aload_n 0, 1) := by decide +kernel
theorem dX7_drops_11 : decode cX7_drops 11 = .ok (.iconst 0, 1) := by decide +kernel
theorem dX7_drops_12 : decode cX7_drops 12 = .ok (.putfield 134, 3) := by decide +kernel
theorem dX7_drops_15 : decode cX7_drops 15 = .ok (.iload_n 1, 1) := by decide +kernel
theorem dX7_drops_16 : decode cX7_drops 16 = .ok (.ireturn, 1) := by decide +kernel
theorem dX7_his_0 : decode cX7_his 0 = .ok (.aload_n 0, 1) := by decide +kernel
theorem dX7_his_1 : decode cX7_his 1 = .ok (.iconst 0, 1) := by decide +kernel
theorem dX7_his_2 : decode cX7_his 2 = .ok (.putfield 69, 3) := by decide +kernel
theorem dX7_his_5 : decode cX7_his 5 = .ok (.iload_n 1, 1) := by decide +kernel
theorem dX7_his_6 : decode cX7_his 6 = .ok (.iconst 0, 1) := by decide +kernel
theorem dX7_his_7 : decode cX7_his 7 = .ok (.iconst 1, 1) := by decide +kernel
theorem dX7_his_8 : decode cX7_his 8 = .ok (.invokestatic 73, 3) := by decide +kernel
theorem dX7_his_11 : decode cX7_his 11 = .ok (.ifCond .ne 5, 3) := by decide +kernel
theorem dX7_his_14 : decode cX7_his 14 = .ok (.iconst (-1), 1) := by decide +kernel
theorem dX7_his_15 : decode cX7_his 15 = .ok (.ireturn, 1) := by decide +kernel
theorem dX7_his_16 : decode cX7_his 16 = .ok (.aload_n 0, 1) := by decide +kernel
theorem dX7_his_17 : decode cX7_his 17 = .ok (.invokevirtual 166, 3) := by decide +kernel
theorem dX7_his_20 : decode cX7_his 20 = .ok (.aload_n 0, 1) := by decide +kernel
theorem dX7_his_21 : decode cX7_his 21 = .ok (.invokevirtual 195, 3) := by decide +kernel
theorem dX7_his_24 : decode cX7_his 24 = .ok (.aload_n 0, 1) := by decide +kernel
theorem dX7_his_25 : decode cX7_his 25 = .ok (.getfield 25, 3) := by decide +kernel
theorem dX7_his_28 : decode cX7_his 28 = .ok (.iconst 0, 1) := by decide +kernel
theorem dX7_his_29 : decode cX7_his 29 = .ok (.iaload, 1) := by decide +kernel
theorem dX7_his_30 : decode cX7_his 30 = .ok (.istore_n 2, 1) := by decide +kernel
theorem dX7_his_31 : decode cX7_his 31 = .ok (.aload_n 0, 1) := by decide +kernel
theorem dX7_his_32 : decode cX7_his 32 = .ok (.getfield 25, 3) := by decide +kernel
theorem dX7_his_35 : decode cX7_his 35 = .ok (.iconst 1, 1) := by decide +kernel
theorem dX7_his_36 : decode cX7_his 36 = .ok (.iaload, 1) := by decide +kernel
theorem dX7_his_37 : decode cX7_his 37 = .ok (.istore_n 3, 1) := by decide +kernel
theorem dX7_his_38 : decode cX7_his 38 = .ok (.iconst 0, 1) := by decide +kernel
theorem dX7_his_39 : decode cX7_his 39 = .ok (.istore 4, 2) := by decide +kernel
theorem dX7_his_41 : decode cX7_his 41 = .ok (.iconst 0, 1) := by decide +kernel
theorem dX7_his_42 : decode cX7_his 42 = .ok (.istore 5, 2) := by decide +kernel
theorem dX7_his_44 : decode cX7_his 44 = .ok (.iload 5, 2) := by decide +kernel
theorem dX7_his_46 : decode cX7_his 46 = .ok (.aload_n 0, 1) := by decide +kernel
theorem dX7_his_47 : decode cX7_his 47 = .ok (.getfield 134, 3) := by decide +kernel
theorem dX7_his_50 : decode cX7_his 50 = .ok (.if_icmp .ge 82, 3) := by decide +kernel
theorem dX7_his_53 : decode cX7_his 53 = .ok (.aload_n 0, 1) := by decide +kernel
theorem dX7_his_54 : decode cX7_his 54 = .ok (.getfield 163, 3) := by decide +kernel
theorem dX7_his_57 : decode cX7_his 57 = .ok (.aload_n 0, 1) := by decide +kernel
theorem dX7_his_58 : decode cX7_his 58 = .ok (.getfield 38, 3) := by decide +kernel
theorem dX7_his_61 : decode cX7_his 61 = .ok (.iload 5, 2) := by decide +kernel
theorem dX7_his_63 : decode cX7_his 63 = .ok (.iaload, 1) := by decide +kernel
theorem dX7_his_64 : decode cX7_his 64 = .ok (.ishr, 1) := by decide +kernel
theorem dX7_his_65 : decode cX7_his 65 = .ok (.iconst 1, 1) := by decide +kernel
theorem dX7_his_66 : decode cX7_his 66 = .ok (.iand, 1) := by decide +kernel
theorem dX7_his_67 : decode cX7_his 67 = .ok (.iconst 1, 1) := by decide +kernel
theorem dX7_his_68 : decode cX7_his 68 = .ok (.if_icmp .ne 64, 3) := by decide +kernel
theorem dX7_his_71 : decode cX7_his 71 = .ok (.aload_n 0, 1) := by decide +kernel
theorem dX7_his_72 : decode cX7_his 72 = .ok (.aload_n 0, 1) := by decide +kernel
