theorem dX4_addRoad_46 : decode cX4_addRoad 46 = .ok (.iadd, 1) := by decide +kernel
theorem dX4_addRoad_47 : decode cX4_addRoad 47 = .ok (.putfield 31, 3) := by decide +kernel
theorem dX4_addRoad_50 : decode cX4_addRoad 50 = .ok (.return_, 1) := by decide +kernel
theorem dX4_makeStraight_0 : decode cX4_makeStraight 0 = .ok (.aload_n 0, 1) := by decide +kernel
theorem dX4_makeStraight_1 : decode cX4_makeStraight 1 = .ok (.getfield 21, 3) := by decide +kernel
theorem dX4_makeStraight_4 : decode cX4_makeStraight 4 = .ok (.iload_n 1, 1) := by decide +kernel
theorem dX4_makeStraight_5 : decode cX4_makeStraight 5 = .ok (.dup2, 1) := by decide +kernel
theorem dX4_makeStraight_6 : decode cX4_makeStraight 6 = .ok (.iaload, 1) := by decide +kernel
theorem dX4_makeStraight_7 : decode cX4_makeStraight 7 = .ok (.iconst 1, 1) := by decide +kernel
theorem dX4_makeStraight_8 : decode cX4_makeStraight 8 = .ok (.iload_n 2, 1) := by decide +kernel
theorem dX4_makeStraight_9 : decode cX4_makeStraight 9 = .ok (.ishl, 1) := by decide +kernel
theorem dX4_makeStraight_10 : decode cX4_makeStraight 10 = .ok (.ior, 1) := by decide +kernel
theorem dX4_makeStraight_11 : decode cX4_makeStraight 11 = .ok (.iastore, 1) := by decide +kernel
theorem dX4_makeStraight_12 : decode cX4_makeStraight 12 = .ok (.aload_n 0, 1) := by decide +kernel
theorem dX4_makeStraight_13 : decode cX4_makeStraight 13 = .ok (.getfield 21, 3) := by decide +kernel
theorem dX4_makeStraight_16 : decode cX4_makeStraight 16 = .ok (.iload_n 2, 1) := by decide +kernel
theorem dX4_makeStraight_17 : decode cX4_makeStraight 17 = .ok (.dup2, 1) := by decide +kernel
theorem dX4_makeStraight_18 : decode cX4_makeStraight 18 = .ok (.iaload, 1) := by decide +kernel
theorem dX4_makeStraight_19 : decode cX4_makeStraight 19 = .ok (.iconst 1, 1) := by decide +kernel
theorem dX4_makeStraight_20 : decode cX4_makeStraight 20 = .ok (.iload_n 1, 1) := by decide +kernel
theorem dX4_makeStraight_21 : decode cX4_makeStraight 21 = .ok (.ishl, 1) := by decide +kernel
theorem dX4_makeStraight_22 : decode cX4_makeStraight 22 = .ok (.ior, 1) := by decide +kernel
theorem dX4_makeStraight_23 : decode cX4_makeStraight 23 = .ok (.iastore, 1) := by decide +kernel
theorem dX4_makeStraight_24 : decode cX4_makeStraight 24 = .ok (.return_, 1) := by decide +kernel
theorem dX4_hasRoad_0 : decode cX4_hasRoad 0 = .ok (.iload_n 1, 1) := by decide +kernel
theorem dX4_hasRoad_1 : decode cX4_hasRoad 1 = .ok (.ifCond .lt 15, 3) := by decide +kernel
theorem dX4_hasRoad_4 : decode cX4_hasRoad 4 = .ok (.iload_n 1, 1) := by decide +kernel
theorem dX4_hasRoad_5 : decode cX4_hasRoad 5 = .ok (.aload_n 0, 1) := by decide +kernel
theorem dX4_hasRoad_6 : decode cX4_hasRoad 6 = .ok (.getfield 31, 3) := by decide +kernel
theorem dX4_hasRoad_9 : decode cX4_hasRoad 9 = .ok (.if_icmp .ge 7, 3) := by decide +kernel
theorem dX4_hasRoad_12 : decode cX4_hasRoad 12 = .ok (.iconst 1, 1) := by decide +kernel
theorem dX4_hasRoad_13 : decode cX4_hasRoad 13 = .ok (.goto 4, 3) := by decide +kernel
theorem dX4_hasRoad_16 : decode cX4_hasRoad 16 = .ok (.iconst 0, 1) := by decide +kernel
theorem dX4_hasRoad_17 : decode cX4_hasRoad 17 = .ok (.ireturn, 1) := by decide +kernel
theorem dX4_hasPlace_0 : decode cX4_hasPlace 0 = .ok (.iload_n 1, 1) := by decide +kernel
theorem dX4_hasPlace_1 : decode cX4_hasPlace 1 = .ok (.ifCond .lt 15, 3) := by decide +kernel
theorem dX4_hasPlace_4 : decode cX4_hasPlace 4 = .ok (.iload_n 1, 1) := by decide +kernel
theorem dX4_hasPlace_5 : decode cX4_hasPlace 5 = .ok (.aload_n 0, 1) := by decide +kernel
theorem dX4_hasPlace_6 : decode cX4_hasPlace 6 = .ok (.getfield 27, 3) := by decide +kernel
theorem dX4_hasPlace_9 : decode cX4_hasPlace 9 = .ok (.if_icmp .ge 7, 3) := by decide +kernel
theorem dX4_hasPlace_12 : decode cX4_hasPlace 12 = .ok (.iconst 1, 1) := by decide +kernel
theorem dX4_hasPlace_13 : decode cX4_hasPlace 13 = .ok (.goto 4, 3) := by decide +kernel
theorem dX4_hasPlace_16 : decode cX4_hasPlace 16 = .ok (.iconst 0, 1) := by decide +kernel
theorem dX4_hasPlace_17 : decode cX4_hasPlace 17 = .ok (.ireturn, 1) := by decide +kernel
theorem dX4_allRoads_0 : decode cX4_allRoads 0 = .ok (.iconst 1, 1) := by decide +kernel
theorem dX4_allRoads_1 : decode cX4_allRoads 1 = .ok (.aload_n 0, 1) := by decide +kernel
theorem dX4_allRoads_2 : decode cX4_allRoads 2 = .ok (.getfield 31, 3) := by decide +kernel
theorem dX4_allRoads_5 : decode cX4_allRoads 5 = .ok (.ishl, 1) := by decide +kernel
theorem dX4_allRoads_6 : decode cX4_allRoads 6 = .ok (.iconst 1, 1) := by decide +kernel
theorem dX4_allRoads_7 : decode cX4_allRoads 7 = .ok (.isub, 1) := by decide +kernel
theorem dX4_allRoads_8 : decode cX4_allRoads 8 = .ok (.ireturn, 1) := by decide +kernel
theorem dX4_meets_0 : decode cX4_meets 0 = .ok (.aload_n 0, 1) := by decide +kernel
theorem dX4_meets_1 : decode cX4_meets 1 = .ok (.getfield 9, 3) := by decide +kernel
theorem dX4_meets_4 : decode cX4_meets 4 = .ok (.iload_n 1, 1) := by decide +kernel
theorem dX4_meets_5 : decode cX4_meets 5 = .ok (.iaload, 1) := by decide +kernel
theorem dX4_meets_6 : decode cX4_meets 6 = .ok (.iload_n 2, 1) := by decide +kernel
theorem dX4_meets_7 : decode cX4_meets 7 = .ok (.if_icmp .eq 13, 3) := by decide +kernel
theorem dX4_meets_10 : decode cX4_meets 10 = .ok (.aload_n 0, 1) := by decide +kernel
theorem dX4_meets_11 : decode cX4_meets 11 = .ok (.getfield 15, 3) := by decide +kernel
theorem dX4_meets_14 : decode cX4_meets 14 = .ok (.iload_n 1, 1) := by decide +kernel
theorem dX4_meets_15 : decode cX4_meets 15 = .ok (.iaload, 1) := by decide +kernel
theorem dX4_meets_16 : decode cX4_meets 16 = .ok (.iload_n 2, 1) := by decide +kernel
theorem dX4_meets_17 : decode cX4_meets 17 = .ok (.if_icmp .ne 7, 3) := by decide +kernel
theorem dX4_meets_20 : decode cX4_meets 20 = .ok (.iconst 1, 1) := by decide +kernel
theorem dX4_meets_21 : decode cX4_meets 21 = .ok (.goto 4, 3) := by decide +kernel
theorem dX4_meets_24 : decode cX4_meets 24 = .ok (.iconst 0, 1) := by decide +kernel
theorem dX4_meets_25 : decode cX4_meets 25 = .ok (.ireturn, 1) := by decide +kernel
theorem dX4_otherEnd_0 : decode cX4_otherEnd 0 = .ok (.aload_n 0, 1) := by decide +kernel
theorem dX4_otherEnd_1 : decode cX4_otherEnd 1 = .ok (.getfield 9, 3) := by decide +kernel
theorem dX4_otherEnd_4 : decode cX4_otherEnd 4 = .ok (.iload_n 1, 1) := by decide +kernel
theorem dX4_otherEnd_5 : decode cX4_otherEnd 5 = .ok (.iaload, 1) := by decide +kernel
theorem dX4_otherEnd_6 : decode cX4_otherEnd 6 = .ok (.iload_n 2, 1) := by decide +kernel
theorem dX4_otherEnd_7 : decode cX4_otherEnd 7 = .ok (.if_icmp .ne 12, 3) := by decide +kernel
theorem dX4_otherEnd_10 : decode cX4_otherEnd 10 = .ok (.aload_n 0, 1) := by decide +kernel
theorem dX4_otherEnd_11 : decode cX4_otherEnd 11 = .ok (.getfield 15, 3) := by decide +kernel
theorem dX4_otherEnd_14 : decode cX4_otherEnd 14 = .ok (.iload_n 1, 1) := by decide +kernel
theorem dX4_otherEnd_15 : decode cX4_otherEnd 15 = .ok (.iaload, 1) := by decide +kernel
theorem dX4_otherEnd_16 : decode cX4_otherEnd 16 = .ok (.goto 9, 3) := by decide +kernel
theorem dX4_otherEnd_19 : decode cX4_otherEnd 19 = .ok (.aload_n 0, 1) := by decide +kernel
theorem dX4_otherEnd_20 : decode cX4_otherEnd 20 = .ok (.getfield 9, 3) := by decide +kernel
theorem dX4_otherEnd_23 : decode cX4_otherEnd 23 = .ok (.iload_n 1, 1) := by decide +kernel
theorem dX4_otherEnd_24 : decode cX4_otherEnd 24 = .ok (.iaload, 1) := by decide +kernel
theorem dX4_otherEnd_25 : decode cX4_otherEnd 25 = .ok (.ireturn, 1) := by decide +kernel
theorem dX4_roadsAt_0 : decode cX4_roadsAt 0 = .ok (.iconst 0, 1) := by decide +kernel
theorem dX4_roadsAt_1 : decode cX4_roadsAt 1 = .ok (.istore_n 2, 1) := by decide +kernel
theorem dX4_roadsAt_2 : decode cX4_roadsAt 2 = .ok (.iconst 0, 1) := by decide +kernel
theorem dX4_roadsAt_3 : decode cX4_roadsAt 3 = .ok (.istore_n 3, 1) := by decide +kernel
theorem dX4_roadsAt_4 : decode cX4_roadsAt 4 = .ok (.iload_n 3, 1) := by decide +kernel
theorem dX4_roadsAt_5 : decode cX4_roadsAt 5 = .ok (.aload_n 0, 1) := by decide +kernel
theorem dX4_roadsAt_6 : decode cX4_roadsAt 6 = .ok (.getfield 31, 3) := by decide +kernel
theorem dX4_roadsAt_9 : decode cX4_roadsAt 9 = .ok (.if_icmp .ge 24, 3) := by decide +kernel
theorem dX4_roadsAt_12 : decode cX4_roadsAt 12 = .ok (.aload_n 0, 1) := by decide +kernel
theorem dX4_roadsAt_13 : decode cX4_roadsAt 13 = .ok (.iload_n 3, 1) := by decide +kernel
theorem dX4_roadsAt_14 : decode cX4_roadsAt 14 = .ok (.iload_n 1, 1) := by decide +kernel
theorem dX4_roadsAt_15 : decode cX4_roadsAt 15 = .ok (.invokevirtual 46, 3) := by decide +kernel
theorem dX4_roadsAt_18 : decode cX4_roadsAt 18 = .ok (.ifCond .eq 9, 3) := by decide +kernel
theorem dX4_roadsAt_21 : decode cX4_roadsAt 21 = .ok (.iload_n 2, 1) := by decide +kernel
theorem dX4_roadsAt_22 : decode cX4_roadsAt 22 = .ok (.iconst 1, 1) := by decide +kernel
theorem dX4_roadsAt_23 : decode cX4_roadsAt 23 = .ok (.iload_n 3, 1) := by decide +kernel
theorem dX4_roadsAt_24 : decode cX4_roadsAt 24 = .ok (.ishl, 1) := by decide +kernel
theorem dX4_roadsAt_25 : decode cX4_roadsAt 25 = .ok (.ior, 1) := by decide +kernel
theorem dX4_roadsAt_26 : decode cX4_roadsAt 26 = .ok (.istore_n 2, 1) := by decide +kernel
theorem dX4_roadsAt_27 : decode cX4_roadsAt 27 = .ok (.iinc 3 1, 3) := by decide +kernel
theorem dX4_roadsAt_30 : decode cX4_roadsAt 30 = .ok (.goto (-26), 3) := by decide +kernel
theorem dX4_roadsAt_33 : decode cX4_roadsAt 33 = .ok (.iload_n 2, 1) := by decide +kernel
theorem dX4_roadsAt_34 : decode cX4_roadsAt 34 = .ok (.ireturn, 1) := by decide +kernel
theorem dX4_isTurn_0 : decode cX4_isTurn 0 = .ok (.iload_n 1, 1) := by decide +kernel
theorem dX4_isTurn_1 : decode cX4_isTurn 1 = .ok (.ifCond .lt 28, 3) := by decide +kernel
theorem dX4_isTurn_4 : decode cX4_isTurn 4 = .ok (.iload_n 1, 1) := by decide +kernel
theorem dX4_isTurn_5 : decode cX4_isTurn 5 = .ok (.aload_n 0, 1) := by decide +kernel
theorem dX4_isTurn_6 : decode cX4_isTurn 6 = .ok (.getfield 31, 3) := by decide +kernel
theorem dX4_isTurn_9 : decode cX4_isTurn 9 = .ok (.if_icmp .ge 20, 3) := by decide +kernel
theorem dX4_isTurn_12 : decode cX4_isTurn 12 = .ok (.aload_n 0, 1) := by decide +kernel
theorem dX4_isTurn_13 : decode cX4_isTurn 13 = .ok (.getfield 21, 3) := by decide +kernel
theorem dX4_isTurn_16 : decode cX4_isTurn 16 = .ok (.iload_n 1, 1) := by decide +kernel
theorem dX4_isTurn_17 : decode cX4_isTurn 17 = .ok (.iaload, 1) := by decide +kernel
theorem dX4_isTurn_18 : decode cX4_isTurn 18 = .ok (.iload_n 2, 1) := by decide +kernel
theorem dX4_isTurn_19 : decode cX4_isTurn 19 = .ok (.ishr, 1) := by decide +kernel
theorem dX4_isTurn_20 : decode cX4_isTurn 20 = .ok (.iconst 1, 1) := by decide +kernel
theorem dX4_isTurn_21 : decode cX4_isTurn 21 = .ok (.iand, 1) := by decide +kernel
theorem dX4_isTurn_22 : decode cX4_isTurn 22 = .ok (.ifCond .ne 7, 3) := by decide +kernel
theorem dX4_isTurn_25 : decode cX4_isTurn 25 = .ok (.iconst 1, 1) := by decide +kernel
theorem dX4_isTurn_26 : decode cX4_isTurn 26 = .ok (.goto 4, 3) := by decide +kernel
theorem dX4_isTurn_29 : decode cX4_isTurn 29 = .ok (.iconst 0, 1) := by decide +kernel
theorem dX4_isTurn_30 : decode cX4_isTurn 30 = .ok (.ireturn, 1) := by decide +kernel
theorem dX4_nervesFor_0 : decode cX4_nervesFor 0 = .ok (.aload_n 0, 1) := by decide +kernel
theorem dX4_nervesFor_1 : decode cX4_nervesFor 1 = .ok (.iload_n 1, 1) := by decide +kernel
theorem dX4_nervesFor_2 : decode cX4_nervesFor 2 = .ok (.iload_n 2, 1) := by decide +kernel
theorem dX4_nervesFor_3 : decode cX4_nervesFor 3 = .ok (.invokevirtual 50, 3) := by decide +kernel
theorem dX4_nervesFor_6 : decode cX4_nervesFor 6 = .ok (.ifCond .eq 10, 3) := by decide +kernel
theorem dX4_nervesFor_9 : decode cX4_nervesFor 9 = .ok (.aload_n 0, 1) := by decide +kernel
theorem dX4_nervesFor_10 : decode cX4_nervesFor 10 = .ok (.getfield 40, 3) := by decide +kernel
theorem dX4_nervesFor_13 : decode cX4_nervesFor 13 = .ok (.goto 4, 3) := by decide +kernel
theorem dX4_nervesFor_16 : decode cX4_nervesFor 16 = .ok (.iconst 0, 1) := by decide +kernel
theorem dX4_nervesFor_17 : decode cX4_nervesFor 17 = .ok (.ireturn, 1) := by decide +kernel
theorem dX5_init_0 : decode cX5_init 0 = .ok (.aload_n 0, 1) := by decide +kernel
theorem dX5_init_1 : decode cX5_init 1 = .ok (.invokespecial 3, 3) := by decide +kernel
theorem dX5_init_4 : decode cX5_init 4 = .ok (.aload_n 0, 1) := by decide +kernel
theorem dX5_init_5 : decode cX5_init 5 = .ok (.new 9, 3) := by decide +kernel
theorem dX5_init_8 : decode cX5_init 8 = .ok (.dup, 1) := by decide +kernel
theorem dX5_init_9 : decode cX5_init 9 = .ok (.invokespecial 11, 3) := by decide +kernel
theorem dX5_init_12 : decode cX5_init 12 = .ok (.putfield 12, 3) := by decide +kernel
theorem dX5_init_15 : decode cX5_init 15 = .ok (.aload_n 0, 1) := by decide +kernel
theorem dX5_init_16 : decode cX5_init 16 = .ok (.bipush 12, 2) := by decide +kernel
theorem dX5_init_18 : decode cX5_init 18 = .ok (.newarray .int, 2) := by decide +kernel
theorem dX5_init_20 : decode cX5_init 20 = .ok (.putfield 18, 3) := by decide +kernel
theorem dX5_init_23 : decode cX5_init 23 = .ok (.aload_n 0, 1) := by decide +kernel
theorem dX5_init_24 : decode cX5_init 24 = .ok (.bipush 24, 2) := by decide +kernel
theorem dX5_init_26 : decode cX5_init 26 = .ok (.newarray .int, 2) := by decide +kernel
theorem dX5_init_28 : decode cX5_init 28 = .ok (.putfield 22, 3) := by decide +kernel
theorem dX5_init_31 : decode cX5_init 31 = .ok (.aload_n 0, 1) := by decide +kernel
theorem dX5_init_32 : decode cX5_init 32 = .ok (.bipush 24, 2) := by decide +kernel
theorem dX5_init_34 : decode cX5_init 34 = .ok (.newarray .boolean, 2) := by decide +kernel
theorem dX5_init_36 : decode cX5_init 36 = .ok (.putfield 25, 3) := by decide +kernel
theorem dX5_init_39 : decode cX5_init 39 = .ok (.aload_n 0, 1) := by decide +kernel
theorem dX5_init_40 : decode cX5_init 40 = .ok (.bipush 12, 2) := by decide +kernel
theorem dX5_init_42 : decode cX5_init 42 = .ok (.newarray .int, 2) := by decide +kernel
theorem dX5_init_44 : decode cX5_init 44 = .ok (.putfield 29, 3) := by decide +kernel
theorem dX5_init_47 : decode cX5_init 47 = .ok (.aload_n 0, 1) := by decide +kernel
theorem dX5_init_48 : decode cX5_init 48 = .ok (.bipush 24, 2) := by decide +kernel
theorem dX5_init_50 : decode cX5_init 50 = .ok (.newarray .int, 2) := by decide +kernel
theorem dX5_init_52 : decode cX5_init 52 = .ok (.putfield 32, 3) := by decide +kernel
theorem dX5_init_55 : decode cX5_init 55 = .ok (.return_, 1) := by decide +kernel
theorem dX5_look_0 : decode cX5_look 0 = .ok (.aload_n 0, 1) := by decide +kernel
theorem dX5_look_1 : decode cX5_look 1 = .ok (.aload_n 1, 1) := by decide +kernel
theorem dX5_look_2 : decode cX5_look 2 = .ok (.putfield 12, 3) := by decide +kernel
theorem dX5_look_5 : decode cX5_look 5 = .ok (.aload_n 0, 1) := by decide +kernel
theorem dX5_look_6 : decode cX5_look 6 = .ok (.aload_n 1, 1) := by decide +kernel
theorem dX5_look_7 : decode cX5_look 7 = .ok (.invokevirtual 35, 3) := by decide +kernel
theorem dX5_look_10 : decode cX5_look 10 = .ok (.aload_n 2, 1) := by decide +kernel
theorem dX5_look_11 : decode cX5_look 11 = .ok (.getfield 39, 3) := by decide +kernel
theorem dX5_look_14 : decode cX5_look 14 = .ok (.iconst (-1), 1) := by decide +kernel
theorem dX5_look_15 : decode cX5_look 15 = .ok (.ixor, 1) := by decide +kernel
theorem dX5_look_16 : decode cX5_look 16 = .ok (.iand, 1) := by decide +kernel
theorem dX5_look_17 : decode cX5_look 17 = .ok (.putfield 45, 3) := by decide +kernel
theorem dX5_look_20 : decode cX5_look 20 = .ok (.iconst 0, 1) := by decide +kernel
theorem dX5_look_21 : decode cX5_look 21 = .ok (.istore_n 3, 1) := by decide +kernel
theorem dX5_look_22 : decode cX5_look 22 = .ok (.iload_n 3, 1) := by decide +kernel
theorem dX5_look_23 : decode cX5_look 23 = .ok (.aload_n 1, 1) := by decide +kernel
theorem dX5_look_24 : decode cX5_look 24 = .ok (.getfield 48, 3) := by decide +kernel
theorem dX5_look_27 : decode cX5_look 27 = .ok (.if_icmp .ge 28, 3) := by decide +kernel
theorem dX5_look_30 : decode cX5_look 30 = .ok (.aload_n 0, 1) := by decide +kernel
theorem dX5_look_31 : decode cX5_look 31 = .ok (.getfield 18, 3) := by decide +kernel
theorem dX5_look_34 : decode cX5_look 34 = .ok (.iload_n 3, 1) := by decide +kernel
theorem dX5_look_35 : decode cX5_look 35 = .ok (.aload_n 1, 1) := by decide +kernel
theorem dX5_look_36 : decode cX5_look 36 = .ok (.getfield 51, 3) := by decide +kernel
theorem dX5_look_39 : decode cX5_look 39 = .ok (.iload_n 3, 1) := by decide +kernel
theorem dX5_look_40 : decode cX5_look 40 = .ok (.iaload, 1) := by decide +kernel
theorem dX5_look_41 : decode cX5_look 41 = .ok (.aload_n 2, 1) := by decide +kernel
theorem dX5_look_42 : decode cX5_look 42 = .ok (.getfield 54, 3) := by decide +kernel
theorem dX5_look_45 : decode cX5_look 45 = .ok (.iload_n 3, 1) := by decide +kernel
theorem dX5_look_46 : decode cX5_look 46 = .ok (.iaload, 1) := by decide +kernel
theorem dX5_look_47 : decode cX5_look 47 = .ok (.iadd, 1) := by decide +kernel
theorem dX5_look_48 : decode cX5_look 48 = .ok (.iastore, 1) := by decide +kernel
theorem dX5_look_49 : decode cX5_look 49 = .ok (.iinc 3 1, 3) := by decide +kernel
theorem dX5_look_52 : decode cX5_look 52 = .ok (.goto (-30), 3) := by decide +kernel
theorem dX5_look_55 : decode cX5_look 55 = .ok (.aload_n 0, 1) := by decide +kernel
theorem dX5_look_56 : decode cX5_look 56 = .ok (.invokevirtual 57, 3) := by decide +kernel
theorem dX5_look_59 : decode cX5_look 59 = .ok (.return_, 1) := by decide +kernel
theorem dX5_lookAtOpen_0 : decode cX5_lookAtOpen 0 = .ok (.aload_n 0, 1) := by decide +kernel
theorem dX5_lookAtOpen_1 : decode cX5_lookAtOpen 1 = .ok (.iload_n 1, 1) := by decide +kernel
theorem dX5_lookAtOpen_2 : decode cX5_lookAtOpen 2 = .ok (.putfield 45, 3) := by decide +kernel
theorem dX5_lookAtOpen_5 : decode cX5_lookAtOpen 5 = .ok (.aload_n 0, 1) := by decide +kernel
theorem dX5_lookAtOpen_6 : decode cX5_lookAtOpen 6 = .ok (.invokevirtual 57, 3) := by decide +kernel
theorem dX5_lookAtOpen_9 : decode cX5_lookAtOpen 9 = .ok (.return_, 1) := by decide +kernel
theorem dX5_lookBehindRow_0 : decode cX5_lookBehindRow 0 = .ok (.iconst 0, 1) := by decide +kernel
theorem dX5_lookBehindRow_1 : decode cX5_lookBehindRow 1 = .ok (.istore_n 2, 1) := by decide +kernel
theorem dX5_lookBehindRow_2 : decode cX5_lookBehindRow 2 = .ok (.iload_n 2, 1) := by decide +kernel
theorem dX5_lookBehindRow_3 : decode cX5_lookBehindRow 3 = .ok (.aload_n 0, 1) := by decide +kernel
theorem dX5_lookBehindRow_4 : decode cX5_lookBehindRow 4 = .ok (.getfield 60, 3) := by decide +kernel
theorem dX5_lookBehindRow_7 : decode cX5_lookBehindRow 7 = .ok (.if_icmp .ge 24, 3) := by decide +kernel
theorem dX5_lookBehindRow_10 : decode cX5_lookBehindRow 10 = .ok (.aload_n 0, 1) := by decide +kernel
theorem dX5_lookBehindRow_11 : decode cX5_lookBehindRow 11 = .ok (.getfield 18, 3) := by decide +kernel
theorem dX5_lookBehindRow_14 : decode cX5_lookBehindRow 14 = .ok (.aload_n 0, 1) := by decide +kernel
theorem dX5_lookBehindRow_15 : decode cX5_lookBehindRow 15 = .ok (.getfield 32, 3) := by decide +kernel
theorem dX5_lookBehindRow_18 : decode cX5_lookBehindRow 18 = .ok (.iload_n 2, 1) := by decide +kernel
theorem dX5_lookBehindRow_19 : decode cX5_lookBehindRow 19 = .ok (.iaload, 1) := by decide +kernel
theorem dX5_lookBehindRow_20 : decode cX5_lookBehindRow 20 = .ok (.dup2, 1) := by decide +kernel
theorem dX5_lookBehindRow_21 : decode cX5_lookBehindRow 21 = .ok (.iaload, 1) := by decide +kernel
theorem dX5_lookBehindRow_22 : decode cX5_lookBehindRow 22 = .ok (.iload_n 1, 1) := by decide +kernel
theorem dX5_lookBehindRow_23 : decode cX5_lookBehindRow 23 = .ok (.iadd, 1) := by decide +kernel
theorem dX5_lookBehindRow_24 : decode cX5_lookBehindRow 24 = .ok (.iastore, 1) := by decide +kernel
theorem dX5_lookBehindRow_25 : decode cX5_lookBehindRow 25 = .ok (.iinc 2 1, 3) := by decide +kernel
theorem dX5_lookBehindRow_28 : decode cX5_lookBehindRow 28 = .ok (.goto (-26), 3) := by decide +kernel
theorem dX5_lookBehindRow_31 : decode cX5_lookBehindRow 31 = .ok (.aload_n 0, 1) := by decide +kernel
theorem dX5_lookBehindRow_32 : decode cX5_lookBehindRow 32 = .ok (.invokevirtual 57, 3) := by decide +kernel
theorem dX5_lookBehindRow_35 : decode cX5_lookBehindRow 35 = .ok (.return_, 1) := by decide +kernel
theorem dX5_measure_0 : decode cX5_measure 0 = .ok (.iconst 2, 1) := by decide +kernel
theorem dX5_measure_1 : decode cX5_measure 1 = .ok (.aload_n 0, 1) := by decide +kernel
theorem dX5_measure_2 : decode cX5_measure 2 = .ok (.getfield 12, 3) := by decide +kernel
theorem dX5_measure_5 : decode cX5_measure 5 = .ok (.getfield 48, 3) := by decide +kernel
theorem dX5_measure_8 : decode cX5_measure 8 = .ok (.imul, 1) := by decide +kernel
theorem dX5_measure_9 : decode cX5_measure 9 = .ok (.istore_n 1, 1) := by decide +kernel
theorem dX5_measure_10 : decode cX5_measure 10 = .ok (.iconst 0, 1) := by decide +kernel
theorem dX5_measure_11 : decode cX5_measure 11 = .ok (.istore_n 2, 1) := by decide +kernel
theorem dX5_measure_12 : decode cX5_measure 12 = .ok (.iload_n 2, 1) := by decide +kernel
theorem dX5_measure_13 : decode cX5_measure 13 = .ok (.iload_n 1, 1) := by decide +kernel
theorem dX5_measure_14 : decode cX5_measure 14 = .ok (.if_icmp .ge 43, 3) := by decide +kernel
theorem dX5_measure_17 : decode cX5_measure 17 = .ok (.aload_n 0, 1) := by decide +kernel
theorem dX5_measure_18 : decode cX5_measure 18 = .ok (.getfield 22, 3) := by decide +kernel
theorem dX5_measure_21 : decode cX5_measure 21 = .ok (.iload_n 2, 1) := by decide +kernel
theorem dX5_measure_22 : decode cX5_measure 22 = .ok (.aload_n 0, 1) := by decide +kernel
theorem dX5_measure_23 : decode cX5_measure 23 = .ok (.iload_n 2, 1) := by decide +kernel
theorem dX5_measure_24 : decode cX5_measure 24 = .ok (.invokevirtual 63, 3) := by decide +kernel
theorem dX5_measure_27 : decode cX5_measure 27 = .ok (.aload_n 0, 1) := by decide +kernel
theorem dX5_measure_28 : decode cX5_measure 28 = .ok (.getfield 12, 3) := by decide +kernel
theorem dX5_measure_31 : decode cX5_measure 31 = .ok (.getfield 67, 3) := by decide +kernel
theorem dX5_measure_34 : decode cX5_measure 34 = .ok (.if_icmp .ne 7, 3) := by decide +kernel
theorem dX5_measure_37 : decode cX5_measure 37 = .ok (.iconst 0, 1) := by decide +kernel
theorem dX5_measure_38 : decode cX5_measure 38 = .ok (.goto 5, 3) := by decide +kernel
theorem dX5_measure_41 : decode cX5_measure 41 = .ok (.ldc 70, 2) := by decide +kernel
theorem dX5_measure_43 : decode cX5_measure 43 = .ok (.iastore, 1) := by decide +kernel
theorem dX5_measure_44 : decode cX5_measure 44 = .ok (.aload_n 0, 1) := by decide +kernel
theorem dX5_measure_45 : decode cX5_measure 45 = .ok (.getfield 25, 3) := by decide +kernel
theorem dX5_measure_48 : decode cX5_measure 48 = .ok (.iload_n 2, 1) := by decide +kernel
theorem dX5_measure_49 : decode cX5_measure 49 = .ok (.iconst 0, 1) := by decide +kernel
theorem dX5_measure_50 : decode cX5_measure 50 = .ok (.bastore, 1) := by decide +kernel
theorem dX5_measure_51 : decode cX5_measure 51 = .ok (.iinc 2 1, 3) := by decide +kernel
theorem dX5_measure_54 : decode cX5_measure 54 = .ok (.goto (-42), 3) := by decide +kernel
theorem dX5_measure_57 : decode cX5_measure 57 = .ok (.iconst 0, 1) := by decide +kernel
theorem dX5_measure_58 : decode cX5_measure 58 = .ok (.istore_n 2, 1) := by decide +kernel
theorem dX5_measure_59 : decode cX5_measure 59 = .ok (.iload_n 2, 1) := by decide +kernel
theorem dX5_measure_60 : decode cX5_measure 60 = .ok (.iload_n 1, 1) := by decide +kernel
theorem dX5_measure_61 : decode cX5_measure 61 = .ok (.if_icmp .ge 35, 3) := by decide +kernel
theorem dX5_measure_64 : decode cX5_measure 64 = .ok (.aload_n 0, 1) := by decide +kernel
theorem dX5_measure_65 : decode cX5_measure 65 = .ok (.iload_n 1, 1) := by decide +kernel
theorem dX5_measure_66 : decode cX5_measure 66 = .ok (.invokevirtual 71, 3) := by decide +kernel
theorem dX5_measure_69 : decode cX5_measure 69 = .ok (.istore_n 3, 1) := by decide +kernel
theorem dX5_measure_70 : decode cX5_measure 70 = .ok (.iload_n 3, 1) := by decide +kernel
theorem dX5_measure_71 : decode cX5_measure 71 = .ok (.bipush (-9), 2) := by decide +kernel
theorem dX5_measure_73 : decode cX5_measure 73 = .ok (.if_icmp .ne 4, 3) := by decide +kernel
theorem dX5_measure_76 : decode cX5_measure 76 = .ok (.return_, 1) := by decide +kernel
theorem dX5_measure_77 : decode cX5_measure 77 = .ok (.aload_n 0, 1) := by decide +kernel
theorem dX5_measure_78 : decode cX5_measure 78 = .ok (.getfield 25, 3) := by decide +kernel
theorem dX5_measure_81 : decode cX5_measure 81 = .ok (.iload_n 3, 1) := by decide +kernel
theorem dX5_measure_82 : decode cX5_measure 82 = .ok (.iconst 1, 1) := by decide +kernel
theorem dX5_measure_83 : decode cX5_measure 83 = .ok (.bastore, 1) := by decide +kernel
theorem dX5_measure_84 : decode cX5_measure 84 = .ok (.aload_n 0, 1) := by decide +kernel
theorem dX5_measure_85 : decode cX5_measure 85 = .ok (.iload_n 3, 1) := by decide +kernel
theorem dX5_measure_86 : decode cX5_measure 86 = .ok (.iload_n 1, 1) := by decide +kernel
theorem dX5_measure_87 : decode cX5_measure 87 = .ok (.invokevirtual 74, 3) := by decide +kernel
theorem dX5_measure_90 : decode cX5_measure 90 = .ok (.iinc 2 1, 3) := by decide +kernel
theorem dX5_measure_93 : decode cX5_measure 93 = .ok (.goto (-34), 3) := by decide +kernel
theorem dX5_measure_96 : decode cX5_measure 96 = .ok (.return_, 1) := by decide +kernel
theorem dX5_nearestUnsettled_0 : decode cX5_nearestUnsettled 0 = .ok (.bipush (-9), 2) := by decide +kernel
theorem dX5_nearestUnsettled_2 : decode cX5_nearestUnsettled 2 = .ok (.istore_n 2, 1) := by decide +kernel
theorem dX5_nearestUnsettled_3 : decode cX5_nearestUnsettled 3 = .ok (.ldc 70, 2) := by decide +kernel
theorem dX5_nearestUnsettled_5 : decode cX5_nearestUnsettled 5 = .ok (.istore_n 3, 1) := by decide +kernel
theorem dX5_nearestUnsettled_6 : decode cX5_nearestUnsettled 6 = .ok (.iconst 0, 1) := by decide +kernel
theorem dX5_nearestUnsettled_7 : decode cX5_nearestUnsettled 7 = .ok (.istore 4, 2) := by decide +kernel
theorem dX5_nearestUnsettled_9 : decode cX5_nearestUnsettled 9 = .ok (.iload 4, 2) := by decide +kernel
theorem dX5_nearestUnsettled_11 : decode cX5_nearestUnsettled 11 = .ok (.iload_n 1, 1) := by decide +kernel
theorem dX5_nearestUnsettled_12 : decode cX5_nearestUnsettled 12 = .ok (.if_icmp .ge 41, 3) := by decide +kernel
theorem dX5_nearestUnsettled_15 : decode cX5_nearestUnsettled 15 = .ok (.aload_n 0, 1) := by decide +kernel
theorem dX5_nearestUnsettled_16 : decode cX5_nearestUnsettled 16 = .ok (.getfield 25, 3) := by decide +kernel
theorem dX5_nearestUnsettled_19 : decode cX5_nearestUnsettled 19 = .ok (.iload 4, 2) := by decide +kernel
theorem dX5_nearestUnsettled_21 : decode cX5_nearestUnsettled 21 = .ok (.baload, 1) := by decide +kernel
theorem dX5_nearestUnsettled_22 : decode cX5_nearestUnsettled 22 = .ok (.ifCond .ne 25, 3) := by decide +kernel
theorem dX5_nearestUnsettled_25 : decode cX5_nearestUnsettled 25 = .ok (.aload_n 0, 1) := by decide +kernel
theorem dX5_nearestUnsettled_26 : decode cX5_nearestUnsettled 26 = .ok (.getfield 22, 3) := by decide +kernel
theorem dX5_nearestUnsettled_29 : decode cX5_nearestUnsettled 29 = .ok (.iload 4, 2) := by decide +kernel
theorem dX5_nearestUnsettled_31 : decode cX5_nearestUnsettled 31 = .ok (.iaload, 1) := by decide +kernel
theorem dX5_nearestUnsettled_32 : decode cX5_nearestUnsettled 32 = .ok (.iload_n 3, 1) := by decide +kernel
theorem dX5_nearestUnsettled_33 : decode cX5_nearestUnsettled 33 = .ok (.if_icmp .ge 14, 3) := by decide +kernel
theorem dX5_nearestUnsettled_36 : decode cX5_nearestUnsettled 36 = .ok (.iload 4, 2) := by decide +kernel
theorem dX5_nearestUnsettled_38 : decode cX5_nearestUnsettled 38 = .ok (.istore_n 2, 1) := by decide +kernel
theorem dX5_nearestUnsettled_39 : decode cX5_nearestUnsettled 39 = .ok (.aload_n 0, 1) := by decide +kernel
theorem dX5_nearestUnsettled_40 : decode cX5_nearestUnsettled 40 = .ok (.getfield 22, 3) := by decide +kernel
theorem dX5_nearestUnsettled_43 : decode cX5_nearestUnsettled 43 = .ok (.iload 4, 2) := by decide +kernel
theorem dX5_nearestUnsettled_45 : decode cX5_nearestUnsettled 45 = .ok (.iaload, 1) := by decide +kernel
theorem dX5_nearestUnsettled_46 : decode cX5_nearestUnsettled 46 = .ok (.istore_n 3, 1) := by decide +kernel
theorem dX5_nearestUnsettled_47 : decode cX5_nearestUnsettled 47 = .ok (.iinc 4 1, 3) := by decide +kernel
theorem dX5_nearestUnsettled_50 : decode cX5_nearestUnsettled 50 = .ok (.goto (-41), 3) := by decide +kernel
theorem dX5_nearestUnsettled_53 : decode cX5_nearestUnsettled 53 = .ok (.iload_n 2, 1) := by decide +kernel
theorem dX5_nearestUnsettled_54 : decode cX5_nearestUnsettled 54 = .ok (.ireturn, 1) := by decide +kernel
theorem dX5_measureBefore_0 : decode cX5_measureBefore 0 = .ok (.iload_n 1, 1) := by decide +kernel
theorem dX5_measureBefore_1 : decode cX5_measureBefore 1 = .ok (.iconst 1, 1) := by decide +kernel
theorem dX5_measureBefore_2 : decode cX5_measureBefore 2 = .ok (.ishr, 1) := by decide +kernel
theorem dX5_measureBefore_3 : decode cX5_measureBefore 3 = .ok (.istore_n 3, 1) := by decide +kernel
theorem dX5_measureBefore_4 : decode cX5_measureBefore 4 = .ok (.aload_n 0, 1) := by decide +kernel
theorem dX5_measureBefore_5 : decode cX5_measureBefore 5 = .ok (.iload_n 1, 1) := by decide +kernel
theorem dX5_measureBefore_6 : decode cX5_measureBefore 6 = .ok (.iconst 1, 1) := by decide +kernel
theorem dX5_measureBefore_7 : decode cX5_measureBefore 7 = .ok (.ixor, 1) := by decide +kernel
theorem dX5_measureBefore_8 : decode cX5_measureBefore 8 = .ok (.invokevirtual 63, 3) := by decide +kernel
theorem dX5_measureBefore_11 : decode cX5_measureBefore 11 = .ok (.istore 4, 2) := by decide +kernel
theorem dX5_measureBefore_13 : decode cX5_measureBefore 13 = .ok (.aload_n 0, 1) := by decide +kernel
theorem dX5_measureBefore_14 : decode cX5_measureBefore 14 = .ok (.getfield 45, 3) := by decide +kernel
theorem dX5_measureBefore_17 : decode cX5_measureBefore 17 = .ok (.iload_n 3, 1) := by decide +kernel
theorem dX5_measureBefore_18 : decode cX5_measureBefore 18 = .ok (.invokestatic 78, 3) := by decide +kernel
theorem dX5_measureBefore_21 : decode cX5_measureBefore 21 = .ok (.ifCond .eq 15, 3) := by decide +kernel
theorem dX5_measureBefore_24 : decode cX5_measureBefore 24 = .ok (.iload 4, 2) := by decide +kernel
theorem dX5_measureBefore_26 : decode cX5_measureBefore 26 = .ok (.aload_n 0, 1) := by decide +kernel
theorem dX5_measureBefore_27 : decode cX5_measureBefore 27 = .ok (.getfield 12, 3) := by decide +kernel
theorem dX5_measureBefore_30 : decode cX5_measureBefore 30 = .ok (.getfield 67, 3) := by decide +kernel
theorem dX5_measureBefore_33 : decode cX5_measureBefore 33 = .ok (.if_icmp .ne 4, 3) := by decide +kernel
theorem dX5_measureBefore_36 : decode cX5_measureBefore 36 = .ok (.return_, 1) := by decide +kernel
theorem dX5_measureBefore_37 : decode cX5_measureBefore 37 = .ok (.aload_n 0, 1) := by decide +kernel
theorem dX5_measureBefore_38 : decode cX5_measureBefore 38 = .ok (.getfield 22, 3) := by decide +kernel
theorem dX5_measureBefore_41 : decode cX5_measureBefore 41 = .ok (.iload_n 1, 1) := by decide +kernel
theorem dX5_measureBefore_42 : decode cX5_measureBefore 42 = .ok (.iaload, 1) := by decide +kernel
theorem dX5_measureBefore_43 : decode cX5_measureBefore 43 = .ok (.aload_n 0, 1) := by decide +kernel
theorem dX5_measureBefore_44 : decode cX5_measureBefore 44 = .ok (.getfield 18, 3) := by decide +kernel
theorem dX5_measureBefore_47 : decode cX5_measureBefore 47 = .ok (.iload_n 3, 1) := by decide +kernel
theorem dX5_measureBefore_48 : decode cX5_measureBefore 48 = .ok (.iaload, 1) := by decide +kernel
theorem dX5_measureBefore_49 : decode cX5_measureBefore 49 = .ok (.iadd, 1) := by decide +kernel
theorem dX5_measureBefore_50 : decode cX5_measureBefore 50 = .ok (.istore 5, 2) := by decide +kernel
theorem dX5_measureBefore_52 : decode cX5_measureBefore 52 = .ok (.iconst 0, 1) := by decide +kernel
theorem dX5_measureBefore_53 : decode cX5_measureBefore 53 = .ok (.istore 6, 2) := by decide +kernel
theorem dX5_measureBefore_55 : decode cX5_measureBefore 55 = .ok (.iload 6, 2) := by decide +kernel
theorem dX5_measureBefore_57 : decode cX5_measureBefore 57 = .ok (.iload_n 2, 1) := by decide +kernel
theorem dX5_measureBefore_58 : decode cX5_measureBefore 58 = .ok (.if_icmp .ge 52, 3) := by decide +kernel
theorem dX5_measureBefore_61 : decode cX5_measureBefore 61 = .ok (.aload_n 0, 1) := by decide +kernel
theorem dX5_measureBefore_62 : decode cX5_measureBefore 62 = .ok (.iload 6, 2) := by decide +kernel
theorem dX5_measureBefore_64 : decode cX5_measureBefore 64 = .ok (.invokevirtual 63, 3) := by decide +kernel
theorem dX5_measureBefore_67 : decode cX5_measureBefore 67 = .ok (.iload 4, 2) := by decide +kernel
theorem dX5_measureBefore_69 : decode cX5_measureBefore 69 = .ok (.if_icmp .ne 35, 3) := by decide +kernel
theorem dX5_measureBefore_72 : decode cX5_measureBefore 72 = .ok (.aload_n 0, 1) := by decide +kernel
theorem dX5_measureBefore_73 : decode cX5_measureBefore 73 = .ok (.getfield 22, 3) := by decide +kernel
theorem dX5_measureBefore_76 : decode cX5_measureBefore 76 = .ok (.iload 6, 2) := by decide +kernel
theorem dX5_measureBefore_78 : decode cX5_measureBefore 78 = .ok (.aload_n 0, 1) := by decide +kernel
theorem dX5_measureBefore_79 : decode cX5_measureBefore 79 = .ok (.getfield 22, 3) := by decide +kernel
theorem dX5_measureBefore_82 : decode cX5_measureBefore 82 = .ok (.iload 6, 2) := by decide +kernel
theorem dX5_measureBefore_84 : decode cX5_measureBefore 84 = .ok (.iaload, 1) := by decide +kernel
theorem dX5_measureBefore_85 : decode cX5_measureBefore 85 = .ok (.iload 5, 2) := by decide +kernel
theorem dX5_measureBefore_87 : decode cX5_measureBefore 87 = .ok (.aload_n 0, 1) := by decide +kernel
theorem dX5_measureBefore_88 : decode cX5_measureBefore 88 = .ok (.getfield 12, 3) := by decide +kernel
theorem dX5_measureBefore_91 : decode cX5_measureBefore 91 = .ok (.iload 6, 2) := by decide +kernel
theorem dX5_measureBefore_93 : decode cX5_measureBefore 93 = .ok (.iconst 1, 1) := by decide +kernel
theorem dX5_measureBefore_94 : decode cX5_measureBefore 94 = .ok (.ishr, 1) := by decide +kernel
theorem dX5_measureBefore_95 : decode cX5_measureBefore 95 = .ok (.iload_n 3, 1) := by decide +kernel
theorem dX5_measureBefore_96 : decode cX5_measureBefore 96 = .ok (.invokevirtual 82, 3) := by decide +kernel
theorem dX5_measureBefore_99 : decode cX5_measureBefore 99 = .ok (.iadd, 1) := by decide +kernel
theorem dX5_measureBefore_100 : decode cX5_measureBefore 100 = .ok (.invokestatic 86, 3) := by decide +kernel
theorem dX5_measureBefore_103 : decode cX5_measureBefore 103 = .ok (.iastore, 1) := by decide +kernel
theorem dX5_measureBefore_104 : decode cX5_measureBefore 104 = .ok (.iinc 6 1, 3) := by decide +kernel
theorem dX5_measureBefore_107 : decode cX5_measureBefore 107 = .ok (.goto (-52), 3) := by decide +kernel
theorem dX5_measureBefore_110 : decode cX5_measureBefore 110 = .ok (.return_, 1) := by decide +kernel
theorem dX5_placeOf_0 : decode cX5_placeOf 0 = .ok (.iload_n 1, 1) := by decide +kernel
theorem dX5_placeOf_1 : decode cX5_placeOf 1 = .ok (.iconst 1, 1) := by decide +kernel
theorem dX5_placeOf_2 : decode cX5_placeOf 2 = .ok (.ishr, 1) := by decide +kernel
theorem dX5_placeOf_3 : decode cX5_placeOf 3 = .ok (.istore_n 2, 1) := by decide +kernel
theorem dX5_placeOf_4 : decode cX5_placeOf 4 = .ok (.iload_n 1, 1) := by decide +kernel
theorem dX5_placeOf_5 : decode cX5_placeOf 5 = .ok (.iconst 1, 1) := by decide +kernel
theorem dX5_placeOf_6 : decode cX5_placeOf 6 = .ok (.iand, 1) := by decide +kernel
theorem dX5_placeOf_7 : decode cX5_placeOf 7 = .ok (.ifCond .ne 15, 3) := by decide +kernel
theorem dX5_placeOf_10 : decode cX5_placeOf 10 = .ok (.aload_n 0, 1) := by decide +kernel
theorem dX5_placeOf_11 : decode cX5_placeOf 11 = .ok (.getfield 12, 3) := by decide +kernel
theorem dX5_placeOf_14 : decode cX5_placeOf 14 = .ok (.getfield 91, 3) := by decide +kernel
theorem dX5_placeOf_17 : decode cX5_placeOf 17 = .ok (.iload_n 2, 1) := by decide +kernel
theorem dX5_placeOf_18 : decode cX5_placeOf 18 = .ok (.iaload, 1) := by decide +kernel
theorem dX5_placeOf_19 : decode cX5_placeOf 19 = .ok (.goto 12, 3) := by decide +kernel
theorem dX5_placeOf_22 : decode cX5_placeOf 22 = .ok (.aload_n 0, 1) := by decide +kernel
theorem dX5_placeOf_23 : decode cX5_placeOf 23 = .ok (.getfield 12, 3) := by decide +kernel
theorem dX5_placeOf_26 : decode cX5_placeOf 26 = .ok (.getfield 94, 3) := by decide +kernel
theorem dX5_placeOf_29 : decode cX5_placeOf 29 = .ok (.iload_n 2, 1) := by decide +kernel
theorem dX5_placeOf_30 : decode cX5_placeOf 30 = .ok (.iaload, 1) := by decide +kernel
theorem dX5_placeOf_31 : decode cX5_placeOf 31 = .ok (.ireturn, 1) := by decide +kernel
theorem dX5_minutesBy_0 : decode cX5_minutesBy 0 = .ok (.aload_n 0, 1) := by decide +kernel
theorem dX5_minutesBy_1 : decode cX5_minutesBy 1 = .ok (.getfield 12, 3) := by decide +kernel
theorem dX5_minutesBy_4 : decode cX5_minutesBy 4 = .ok (.getfield 91, 3) := by decide +kernel
theorem dX5_minutesBy_7 : decode cX5_minutesBy 7 = .ok (.iload_n 1, 1) := by decide +kernel
theorem dX5_minutesBy_8 : decode cX5_minutesBy 8 = .ok (.iaload, 1) := by decide +kernel
theorem dX5_minutesBy_9 : decode cX5_minutesBy 9 = .ok (.iload_n 2, 1) := by decide +kernel
theorem dX5_minutesBy_10 : decode cX5_minutesBy 10 = .ok (.if_icmp .ne 11, 3) := by decide +kernel
theorem dX5_minutesBy_13 : decode cX5_minutesBy 13 = .ok (.iconst 2, 1) := by decide +kernel
theorem dX5_minutesBy_14 : decode cX5_minutesBy 14 = .ok (.iload_n 1, 1) := by decide +kernel
theorem dX5_minutesBy_15 : decode cX5_minutesBy 15 = .ok (.imul, 1) := by decide +kernel
theorem dX5_minutesBy_16 : decode cX5_minutesBy 16 = .ok (.iconst 1, 1) := by decide +kernel
theorem dX5_minutesBy_17 : decode cX5_minutesBy 17 = .ok (.iadd, 1) := by decide +kernel
theorem dX5_minutesBy_18 : decode cX5_minutesBy 18 = .ok (.goto 6, 3) := by decide +kernel
theorem dX5_minutesBy_21 : decode cX5_minutesBy 21 = .ok (.iconst 2, 1) := by decide +kernel
theorem dX5_minutesBy_22 : decode cX5_minutesBy 22 = .ok (.iload_n 1, 1) := by decide +kernel
theorem dX5_minutesBy_23 : decode cX5_minutesBy 23 = .ok (.imul, 1) := by decide +kernel
theorem dX5_minutesBy_24 : decode cX5_minutesBy 24 = .ok (.istore 4, 2) := by decide +kernel
theorem dX5_minutesBy_26 : decode cX5_minutesBy 26 = .ok (.aload_n 0, 1) := by decide +kernel
theorem dX5_minutesBy_27 : decode cX5_minutesBy 27 = .ok (.getfield 22, 3) := by decide +kernel
theorem dX5_minutesBy_30 : decode cX5_minutesBy 30 = .ok (.iload 4, 2) := by decide +kernel
theorem dX5_minutesBy_32 : decode cX5_minutesBy 32 = .ok (.iaload, 1) := by decide +kernel
theorem dX5_minutesBy_33 : decode cX5_minutesBy 33 = .ok (.ldc 70, 2) := by decide +kernel
theorem dX5_minutesBy_35 : decode cX5_minutesBy 35 = .ok (.if_icmp .lt 6, 3) := by decide +kernel
theorem dX5_minutesBy_38 : decode cX5_minutesBy 38 = .ok (.bipush (-9), 2) := by decide +kernel
theorem dX5_minutesBy_40 : decode cX5_minutesBy 40 = .ok (.ireturn, 1) := by decide +kernel
theorem dX5_minutesBy_41 : decode cX5_minutesBy 41 = .ok (.aload_n 0, 1) := by decide +kernel
theorem dX5_minutesBy_42 : decode cX5_minutesBy 42 = .ok (.getfield 18, 3) := by decide +kernel
theorem dX5_minutesBy_45 : decode cX5_minutesBy 45 = .ok (.iload_n 1, 1) := by decide +kernel
theorem dX5_minutesBy_46 : decode cX5_minutesBy 46 = .ok (.iaload, 1) := by decide +kernel
theorem dX5_minutesBy_47 : decode cX5_minutesBy 47 = .ok (.aload_n 0, 1) := by decide +kernel
theorem dX5_minutesBy_48 : decode cX5_minutesBy 48 = .ok (.getfield 12, 3) := by decide +kernel
theorem dX5_minutesBy_51 : decode cX5_minutesBy 51 = .ok (.iload_n 3, 1) := by decide +kernel
theorem dX5_minutesBy_52 : decode cX5_minutesBy 52 = .ok (.iload_n 1, 1) := by decide +kernel
theorem dX5_minutesBy_53 : decode cX5_minutesBy 53 = .ok (.invokevirtual 82, 3) := by decide +kernel
theorem dX5_minutesBy_56 : decode cX5_minutesBy 56 = .ok (.iadd, 1) := by decide +kernel
theorem dX5_minutesBy_57 : decode cX5_minutesBy 57 = .ok (.aload_n 0, 1) := by decide +kernel
theorem dX5_minutesBy_58 : decode cX5_minutesBy 58 = .ok (.getfield 22, 3) := by decide +kernel
theorem dX5_minutesBy_61 : decode cX5_minutesBy 61 = .ok (.iload 4, 2) := by decide +kernel
theorem dX5_minutesBy_63 : decode cX5_minutesBy 63 = .ok (.iaload, 1) := by decide +kernel
theorem dX5_minutesBy_64 : decode cX5_minutesBy 64 = .ok (.iadd, 1) := by decide +kernel
theorem dX5_minutesBy_65 : decode cX5_minutesBy 65 = .ok (.ireturn, 1) := by decide +kernel
theorem dX5_firstRoad_0 : decode cX5_firstRoad 0 = .ok (.bipush (-9), 2) := by decide +kernel
theorem dX5_firstRoad_2 : decode cX5_firstRoad 2 = .ok (.istore_n 3, 1) := by decide +kernel
theorem dX5_firstRoad_3 : decode cX5_firstRoad 3 = .ok (.ldc 70, 2) := by decide +kernel
theorem dX5_firstRoad_5 : decode cX5_firstRoad 5 = .ok (.istore 4, 2) := by decide +kernel
theorem dX5_firstRoad_7 : decode cX5_firstRoad 7 = .ok (.iconst 0, 1) := by decide +kernel
theorem dX5_firstRoad_8 : decode cX5_firstRoad 8 = .ok (.istore 5, 2) := by decide +kernel
theorem dX5_firstRoad_10 : decode cX5_firstRoad 10 = .ok (.iload 5, 2) := by decide +kernel
theorem dX5_firstRoad_12 : decode cX5_firstRoad 12 = .ok (.aload_n 0, 1) := by decide +kernel
theorem dX5_firstRoad_13 : decode cX5_firstRoad 13 = .ok (.getfield 12, 3) := by decide +kernel
theorem dX5_firstRoad_16 : decode cX5_firstRoad 16 = .ok (.getfield 48, 3) := by decide +kernel
theorem dX5_firstRoad_19 : decode cX5_firstRoad 19 = .ok (.if_icmp .ge 65, 3) := by decide +kernel
theorem dX5_firstRoad_22 : decode cX5_firstRoad 22 = .ok (.aload_n 0, 1) := by decide +kernel
theorem dX5_firstRoad_23 : decode cX5_firstRoad 23 = .ok (.getfield 45, 3) := by decide +kernel
theorem dX5_firstRoad_26 : decode cX5_firstRoad 26 = .ok (.iload 5, 2) := by decide +kernel
theorem dX5_firstRoad_28 : decode cX5_firstRoad 28 = .ok (.invokestatic 78, 3) := by decide +kernel
theorem dX5_firstRoad_31 : decode cX5_firstRoad 31 = .ok (.ifCond .eq 47, 3) := by decide +kernel
theorem dX5_firstRoad_34 : decode cX5_firstRoad 34 = .ok (.aload_n 0, 1) := by decide +kernel
theorem dX5_firstRoad_35 : decode cX5_firstRoad 35 = .ok (.getfield 12, 3) := by decide +kernel
theorem dX5_firstRoad_38 : decode cX5_firstRoad 38 = .ok (.iload 5, 2) := by decide +kernel
theorem dX5_firstRoad_40 : decode cX5_firstRoad 40 = .ok (.iload_n 1, 1) := by decide +kernel
theorem dX5_firstRoad_41 : decode cX5_firstRoad 41 = .ok (.invokevirtual 97, 3) := by decide +kernel
theorem dX5_firstRoad_44 : decode cX5_firstRoad 44 = .ok (.ifCond .eq 34, 3) := by decide +kernel
theorem dX5_firstRoad_47 : decode cX5_firstRoad 47 = .ok (.aload_n 0, 1) := by decide +kernel
theorem dX5_firstRoad_48 : decode cX5_firstRoad 48 = .ok (.iload 5, 2) := by decide +kernel
theorem dX5_firstRoad_50 : decode cX5_firstRoad 50 = .ok (.iload_n 1, 1) := by decide +kernel
theorem dX5_firstRoad_51 : decode cX5_firstRoad 51 = .ok (.iload_n 2, 1) := by decide +kernel
theorem dX5_firstRoad_52 : decode cX5_firstRoad 52 = .ok (.invokevirtual 100, 3) := by decide +kernel
theorem dX5_firstRoad_55 : decode cX5_firstRoad 55 = .ok (.istore 6, 2) := by decide +kernel
theorem dX5_firstRoad_57 : decode cX5_firstRoad 57 = .ok (.iload 6, 2) := by decide +kernel
theorem dX5_firstRoad_59 : decode cX5_firstRoad 59 = .ok (.bipush (-9), 2) := by decide +kernel
theorem dX5_firstRoad_61 : decode cX5_firstRoad 61 = .ok (.if_icmp .eq 17, 3) := by decide +kernel
theorem dX5_firstRoad_64 : decode cX5_firstRoad 64 = .ok (.iload 6, 2) := by decide +kernel
theorem dX5_firstRoad_66 : decode cX5_firstRoad 66 = .ok (.iload 4, 2) := by decide +kernel
theorem dX5_firstRoad_68 : decode cX5_firstRoad 68 = .ok (.if_icmp .ge 10, 3) := by decide +kernel
theorem dX5_firstRoad_71 : decode cX5_firstRoad 71 = .ok (.iload 5, 2) := by decide +kernel
theorem dX5_firstRoad_73 : decode cX5_firstRoad 73 = .ok (.istore_n 3, 1) := by decide +kernel
theorem dX5_firstRoad_74 : decode cX5_firstRoad 74 = .ok (.iload 6, 2) := by decide +kernel
theorem dX5_firstRoad_76 : decode cX5_firstRoad 76 = .ok (.istore 4, 2) := by decide +kernel
theorem dX5_firstRoad_78 : decode cX5_firstRoad 78 = .ok (.iinc 5 1, 3) := by decide +kernel
theorem dX5_firstRoad_81 : decode cX5_firstRoad 81 = .ok (.goto (-71), 3) := by decide +kernel
theorem dX5_firstRoad_84 : decode cX5_firstRoad 84 = .ok (.iload_n 3, 1) := by decide +kernel
theorem dX5_firstRoad_85 : decode cX5_firstRoad 85 = .ok (.ireturn, 1) := by decide +kernel
theorem dX5_minutesFrom_0 : decode cX5_minutesFrom 0 = .ok (.iload_n 1, 1) := by decide +kernel
theorem dX5_minutesFrom_1 : decode cX5_minutesFrom 1 = .ok (.aload_n 0, 1) := by decide +kernel
theorem dX5_minutesFrom_2 : decode cX5_minutesFrom 2 = .ok (.getfield 12, 3) := by decide +kernel
theorem dX5_minutesFrom_5 : decode cX5_minutesFrom 5 = .ok (.getfield 67, 3) := by decide +kernel
theorem dX5_minutesFrom_8 : decode cX5_minutesFrom 8 = .ok (.if_icmp .ne 5, 3) := by decide +kernel
theorem dX5_minutesFrom_11 : decode cX5_minutesFrom 11 = .ok (.iconst 0, 1) := by decide +kernel
theorem dX5_minutesFrom_12 : decode cX5_minutesFrom 12 = .ok (.ireturn, 1) := by decide +kernel
theorem dX5_minutesFrom_13 : decode cX5_minutesFrom 13 = .ok (.aload_n 0, 1) := by decide +kernel
theorem dX5_minutesFrom_14 : decode cX5_minutesFrom 14 = .ok (.iload_n 1, 1) := by decide +kernel
theorem dX5_minutesFrom_15 : decode cX5_minutesFrom 15 = .ok (.iload_n 2, 1) := by decide +kernel
theorem dX5_minutesFrom_16 : decode cX5_minutesFrom 16 = .ok (.invokevirtual 104, 3) := by decide +kernel
theorem dX5_minutesFrom_19 : decode cX5_minutesFrom 19 = .ok (.istore_n 3, 1) := by decide +kernel
theorem dX5_minutesFrom_20 : decode cX5_minutesFrom 20 = .ok (.iload_n 3, 1) := by decide +kernel
theorem dX5_minutesFrom_21 : decode cX5_minutesFrom 21 = .ok (.bipush (-9), 2) := by decide +kernel
theorem dX5_minutesFrom_23 : decode cX5_minutesFrom 23 = .ok (.if_icmp .ne 8, 3) := by decide +kernel
theorem dX5_minutesFrom_26 : decode cX5_minutesFrom 26 = .ok (.bipush (-9), 2) := by decide +kernel
theorem dX5_minutesFrom_28 : decode cX5_minutesFrom 28 = .ok (.goto 10, 3) := by decide +kernel
theorem dX5_minutesFrom_31 : decode cX5_minutesFrom 31 = .ok (.aload_n 0, 1) := by decide +kernel
theorem dX5_minutesFrom_32 : decode cX5_minutesFrom 32 = .ok (.iload_n 3, 1) := by decide +kernel
theorem dX5_minutesFrom_33 : decode cX5_minutesFrom 33 = .ok (.iload_n 1, 1) := by decide +kernel
theorem dX5_minutesFrom_34 : decode cX5_minutesFrom 34 = .ok (.iload_n 2, 1) := by decide +kernel
theorem dX5_minutesFrom_35 : decode cX5_minutesFrom 35 = .ok (.invokevirtual 100, 3) := by decide +kernel
theorem dX5_minutesFrom_38 : decode cX5_minutesFrom 38 = .ok (.ireturn, 1) := by decide +kernel
theorem dX5_minutesWithLonger_0 : decode cX5_minutesWithLonger 0 = .ok (.aload_n 0, 1) := by decide +kernel
theorem dX5_minutesWithLonger_1 : decode cX5_minutesWithLonger 1 = .ok (.getfield 18, 3) := by decide +kernel
theorem dX5_minutesWithLonger_4 : decode cX5_minutesWithLonger 4 = .ok (.iload_n 1, 1) := by decide +kernel
theorem dX5_minutesWithLonger_5 : decode cX5_minutesWithLonger 5 = .ok (.dup2, 1) := by decide +kernel
theorem dX5_minutesWithLonger_6 : decode cX5_minutesWithLonger 6 = .ok (.iaload, 1) := by decide +kernel
theorem dX5_minutesWithLonger_7 : decode cX5_minutesWithLonger 7 = .ok (.iload_n 2, 1) := by decide +kernel
theorem dX5_minutesWithLonger_8 : decode cX5_minutesWithLonger 8 = .ok (.iadd, 1) := by decide +kernel
theorem dX5_minutesWithLonger_9 : decode cX5_minutesWithLonger 9 = .ok (.iastore, 1) := by decide +kernel
theorem dX5_minutesWithLonger_10 : decode cX5_minutesWithLonger 10 = .ok (.aload_n 0, 1) := by decide +kernel
theorem dX5_minutesWithLonger_11 : decode cX5_minutesWithLonger 11 = .ok (.invokevirtual 57, 3) := by decide +kernel
theorem dX5_minutesWithLonger_14 : decode cX5_minutesWithLonger 14 = .ok (.aload_n 0, 1) := by decide +kernel
theorem dX5_minutesWithLonger_15 : decode cX5_minutesWithLonger 15 = .ok (.iload_n 3, 1) := by decide +kernel
theorem dX5_minutesWithLonger_16 : decode cX5_minutesWithLonger 16 = .ok (.bipush (-9), 2) := by decide +kernel
theorem dX5_minutesWithLonger_18 : decode cX5_minutesWithLonger 18 = .ok (.invokevirtual 107, 3) := by decide +kernel
theorem dX5_minutesWithLonger_21 : decode cX5_minutesWithLonger 21 = .ok (.istore 4, 2) := by decide +kernel
theorem dX5_minutesWithLonger_23 : decode cX5_minutesWithLonger 23 = .ok (.aload_n 0, 1) := by decide +kernel
theorem dX5_minutesWithLonger_24 : decode cX5_minutesWithLonger 24 = .ok (.getfield 18, 3) := by decide +kernel
theorem dX5_minutesWithLonger_27 : decode cX5_minutesWithLonger 27 = .ok (.iload_n 1, 1) := by decide +kernel
theorem dX5_minutesWithLonger_28 : decode cX5_minutesWithLonger 28 = .ok (.dup2, 1) := by decide +kernel
theorem dX5_minutesWithLonger_29 : decode cX5_minutesWithLonger 29 = .ok (.iaload, 1) := by decide +kernel
theorem dX5_minutesWithLonger_30 : decode cX5_minutesWithLonger 30 = .ok (.iload_n 2, 1) := by decide +kernel
theorem dX5_minutesWithLonger_31 : decode cX5_minutesWithLonger 31 = .ok (.isub, 1) := by decide +kernel
theorem dX5_minutesWithLonger_32 : decode cX5_minutesWithLonger 32 = .ok (.iastore, 1) := by decide +kernel
theorem dX5_minutesWithLonger_33 : decode cX5_minutesWithLonger 33 = .ok (.iload 4, 2) := by decide +kernel
theorem dX5_minutesWithLonger_35 : decode cX5_minutesWithLonger 35 = .ok (.ireturn, 1) := by decide +kernel
theorem dX5_follow_0 : decode cX5_follow 0 = .ok (.aload_n 0, 1) := by decide +kernel
theorem dX5_follow_1 : decode cX5_follow 1 = .ok (.iconst 0, 1) := by decide +kernel
theorem dX5_follow_2 : decode cX5_follow 2 = .ok (.putfield 60, 3) := by decide +kernel
theorem dX5_follow_5 : decode cX5_follow 5 = .ok (.aload_n 0, 1) := by decide +kernel
theorem dX5_follow_6 : decode cX5_follow 6 = .ok (.iconst 0, 1) := by decide +kernel
theorem dX5_follow_7 : decode cX5_follow 7 = .ok (.putfield 110, 3) := by decide +kernel
theorem dX5_follow_10 : decode cX5_follow 10 = .ok (.iconst 0, 1) := by decide +kernel
theorem dX5_follow_11 : decode cX5_follow 11 = .ok (.istore_n 3, 1) := by decide +kernel
theorem dX5_follow_12 : decode cX5_follow 12 = .ok (.iload_n 1, 1) := by decide +kernel
theorem dX5_follow_13 : decode cX5_follow 13 = .ok (.istore 4, 2) := by decide +kernel
theorem dX5_follow_15 : decode cX5_follow 15 = .ok (.iload_n 2, 1) := by decide +kernel
theorem dX5_follow_16 : decode cX5_follow 16 = .ok (.istore 5, 2) := by decide +kernel
theorem dX5_follow_18 : decode cX5_follow 18 = .ok (.iload 4, 2) := by decide +kernel
theorem dX5_follow_20 : decode cX5_follow 20 = .ok (.aload_n 0, 1) := by decide +kernel
theorem dX5_follow_21 : decode cX5_follow 21 = .ok (.getfield 12, 3) := by decide +kernel
theorem dX5_follow_24 : decode cX5_follow 24 = .ok (.getfield 67, 3) := by decide +kernel
theorem dX5_follow_27 : decode cX5_follow 27 = .ok (.if_icmp .eq 119, 3) := by decide +kernel
theorem dX5_follow_30 : decode cX5_follow 30 = .ok (.aload_n 0, 1) := by decide +kernel
theorem dX5_follow_31 : decode cX5_follow 31 = .ok (.getfield 60, 3) := by decide +kernel
theorem dX5_follow_34 : decode cX5_follow 34 = .ok (.bipush 24, 2) := by decide +kernel
theorem dX5_follow_36 : decode cX5_follow 36 = .ok (.if_icmp .ge 110, 3) := by decide +kernel
theorem dX5_follow_39 : decode cX5_follow 39 = .ok (.aload_n 0, 1) := by decide +kernel
theorem dX5_follow_40 : decode cX5_follow 40 = .ok (.iload 4, 2) := by decide +kernel
theorem dX5_follow_42 : decode cX5_follow 42 = .ok (.iload 5, 2) := by decide +kernel
theorem dX5_follow_44 : decode cX5_follow 44 = .ok (.invokevirtual 104, 3) := by decide +kernel
theorem dX5_follow_47 : decode cX5_follow 47 = .ok (.istore 6, 2) := by decide +kernel
theorem dX5_follow_49 : decode cX5_follow 49 = .ok (.iload 6, 2) := by decide +kernel
theorem dX5_follow_51 : decode cX5_follow 51 = .ok (.bipush (-9), 2) := by decide +kernel
theorem dX5_follow_53 : decode cX5_follow 53 = .ok (.if_icmp .ne 6, 3) := by decide +kernel
theorem dX5_follow_56 : decode cX5_follow 56 = .ok (.bipush (-9), 2) := by decide +kernel
theorem dX5_follow_58 : decode cX5_follow 58 = .ok (.ireturn, 1) := by decide +kernel
theorem dX5_follow_59 : decode cX5_follow 59 = .ok (.aload_n 0, 1) := by decide +kernel
theorem dX5_follow_60 : decode cX5_follow 60 = .ok (.getfield 12, 3) := by decide +kernel
theorem dX5_follow_63 : decode cX5_follow 63 = .ok (.iload 5, 2) := by decide +kernel
theorem dX5_follow_65 : decode cX5_follow 65 = .ok (.iload 6, 2) := by decide +kernel
theorem dX5_follow_67 : decode cX5_follow 67 = .ok (.invokevirtual 113, 3) := by decide +kernel
theorem dX5_follow_70 : decode cX5_follow 70 = .ok (.ifCond .eq 13, 3) := by decide +kernel
theorem dX5_follow_73 : decode cX5_follow 73 = .ok (.aload_n 0, 1) := by decide +kernel
theorem dX5_follow_74 : decode cX5_follow 74 = .ok (.dup, 1) := by decide +kernel
theorem dX5_follow_75 : decode cX5_follow 75 = .ok (.getfield 110, 3) := by decide +kernel
theorem dX5_follow_78 : decode cX5_follow 78 = .ok (.iconst 1, 1) := by decide +kernel
theorem dX5_follow_79 : decode cX5_follow 79 = .ok (.iadd, 1) := by decide +kernel
theorem dX5_follow_80 : decode cX5_follow 80 = .ok (.putfield 110, 3) := by decide +kernel
theorem dX5_follow_83 : decode cX5_follow 83 = .ok (.iload_n 3, 1) := by decide +kernel
theorem dX5_follow_84 : decode cX5_follow 84 = .ok (.aload_n 0, 1) := by decide +kernel
theorem dX5_follow_85 : decode cX5_follow 85 = .ok (.getfield 18, 3) := by decide +kernel
theorem dX5_follow_88 : decode cX5_follow 88 = .ok (.iload 6, 2) := by decide +kernel
theorem dX5_follow_90 : decode cX5_follow 90 = .ok (.iaload, 1) := by decide +kernel
theorem dX5_follow_91 : decode cX5_follow 91 = .ok (.aload_n 0, 1) := by decide +kernel
theorem dX5_follow_92 : decode cX5_follow 92 = .ok (.getfield 12, 3) := by decide +kernel
theorem dX5_follow_95 : decode cX5_follow 95 = .ok (.iload 5, 2) := by decide +kernel
theorem dX5_follow_97 : decode cX5_follow 97 = .ok (.iload 6, 2) := by decide +kernel
theorem dX5_follow_99 : decode cX5_follow 99 = .ok (.invokevirtual 82, 3) := by decide +kernel
theorem dX5_follow_102 : decode cX5_follow 102 = .ok (.iadd, 1) := by decide +kernel
theorem dX5_follow_103 : decode cX5_follow 103 = .ok (.iadd, 1) := by decide +kernel
theorem dX5_follow_104 : decode cX5_follow 104 = .ok (.istore_n 3, 1) := by decide +kernel
theorem dX5_follow_105 : decode cX5_follow 105 = .ok (.aload_n 0, 1) := by decide +kernel
theorem dX5_follow_106 : decode cX5_follow 106 = .ok (.getfield 32, 3) := by decide +kernel
theorem dX5_follow_109 : decode cX5_follow 109 = .ok (.aload_n 0, 1) := by decide +kernel
theorem dX5_follow_110 : decode cX5_follow 110 = .ok (.getfield 60, 3) := by decide +kernel
theorem dX5_follow_113 : decode cX5_follow 113 = .ok (.iload 6, 2) := by decide +kernel
theorem dX5_follow_115 : decode cX5_follow 115 = .ok (.iastore, 1) := by decide +kernel
theorem dX5_follow_116 : decode cX5_follow 116 = .ok (.aload_n 0, 1) := by decide +kernel
theorem dX5_follow_117 : decode cX5_follow 117 = .ok (.dup, 1) := by decide +kernel
theorem dX5_follow_118 : decode cX5_follow 118 = .ok (.getfield 60, 3) := by decide +kernel
theorem dX5_follow_121 : decode cX5_follow 121 = .ok (.iconst 1, 1) := by decide +kernel
theorem dX5_follow_122 : decode cX5_follow 122 = .ok (.iadd, 1) := by decide +kernel
theorem dX5_follow_123 : decode cX5_follow 123 = .ok (.putfield 60, 3) := by decide +kernel
theorem dX5_follow_126 : decode cX5_follow 126 = .ok (.aload_n 0, 1) := by decide +kernel
theorem dX5_follow_127 : decode cX5_follow 127 = .ok (.getfield 12, 3) := by decide +kernel
theorem dX5_follow_130 : decode cX5_follow 130 = .ok (.iload 6, 2) := by decide +kernel
theorem dX5_follow_132 : decode cX5_follow 132 = .ok (.iload 4, 2) := by decide +kernel
theorem dX5_follow_134 : decode cX5_follow 134 = .ok (.invokevirtual 116, 3) := by decide +kernel
theorem dX5_follow_137 : decode cX5_follow 137 = .ok (.istore 4, 2) := by decide +kernel
theorem dX5_follow_139 : decode cX5_follow 139 = .ok (.iload 6, 2) := by decide +kernel
theorem dX5_follow_141 : decode cX5_follow 141 = .ok (.istore 5, 2) := by decide +kernel
theorem dX5_follow_143 : decode cX5_follow 143 = .ok (.goto (-125), 3) := by decide +kernel
theorem dX5_follow_146 : decode cX5_follow 146 = .ok (.iload_n 3, 1) := by decide +kernel
theorem dX5_follow_147 : decode cX5_follow 147 = .ok (.ireturn, 1) := by decide +kernel
theorem dX5_meetingsInRow_0 : decode cX5_meetingsInRow 0 = .ok (.iconst 0, 1) := by decide +kernel
theorem dX5_meetingsInRow_1 : decode cX5_meetingsInRow 1 = .ok (.istore_n 1, 1) := by decide +kernel
theorem dX5_meetingsInRow_2 : decode cX5_meetingsInRow 2 = .ok (.iload_n 1, 1) := by decide +kernel
theorem dX5_meetingsInRow_3 : decode cX5_meetingsInRow 3 = .ok (.bipush 12, 2) := by decide +kernel
theorem dX5_meetingsInRow_5 : decode cX5_meetingsInRow 5 = .ok (.if_icmp .ge 16, 3) := by decide +kernel
theorem dX5_meetingsInRow_8 : decode cX5_meetingsInRow 8 = .ok (.aload_n 0, 1) := by decide +kernel
theorem dX5_meetingsInRow_9 : decode cX5_meetingsInRow 9 = .ok (.getfield 29, 3) := by decide +kernel
theorem dX5_meetingsInRow_12 : decode cX5_meetingsInRow 12 = .ok (.iload_n 1, 1) := by decide +kernel
theorem dX5_meetingsInRow_13 : decode cX5_meetingsInRow 13 = .ok (.iconst 0, 1) := by decide +kernel
theorem dX5_meetingsInRow_14 : decode cX5_meetingsInRow 14 = .ok (.iastore, 1) := by decide +kernel
theorem dX5_meetingsInRow_15 : decode cX5_meetingsInRow 15 = .ok (.iinc 1 1, 3) := by decide +kernel
theorem dX5_meetingsInRow_18 : decode cX5_meetingsInRow 18 = .ok (.goto (-16), 3) := by decide +kernel
theorem dX5_meetingsInRow_21 : decode cX5_meetingsInRow 21 = .ok (.iconst 0, 1) := by decide +kernel
theorem dX5_meetingsInRow_22 : decode cX5_meetingsInRow 22 = .ok (.istore_n 1, 1) := by decide +kernel
theorem dX5_meetingsInRow_23 : decode cX5_meetingsInRow 23 = .ok (.iload_n 1, 1) := by decide +kernel
theorem dX5_meetingsInRow_24 : decode cX5_meetingsInRow 24 = .ok (.aload_n 0, 1) := by decide +kernel
theorem dX5_meetingsInRow_25 : decode cX5_meetingsInRow 25 = .ok (.getfield 60, 3) := by decide +kernel
theorem dX5_meetingsInRow_28 : decode cX5_meetingsInRow 28 = .ok (.if_icmp .ge 24, 3) := by decide +kernel
theorem dX5_meetingsInRow_31 : decode cX5_meetingsInRow 31 = .ok (.aload_n 0, 1) := by decide +kernel
theorem dX5_meetingsInRow_32 : decode cX5_meetingsInRow 32 = .ok (.getfield 29, 3) := by decide +kernel
theorem dX5_meetingsInRow_35 : decode cX5_meetingsInRow 35 = .ok (.aload_n 0, 1) := by decide +kernel
theorem dX5_meetingsInRow_36 : decode cX5_meetingsInRow 36 = .ok (.getfield 32, 3) := by decide +kernel
theorem dX5_meetingsInRow_39 : decode cX5_meetingsInRow 39 = .ok (.iload_n 1, 1) := by decide +kernel
theorem dX5_meetingsInRow_40 : decode cX5_meetingsInRow 40 = .ok (.iaload, 1) := by decide +kernel
theorem dX5_meetingsInRow_41 : decode cX5_meetingsInRow 41 = .ok (.dup2, 1) := by decide +kernel
theorem dX5_meetingsInRow_42 : decode cX5_meetingsInRow 42 = .ok (.iaload, 1) := by decide +kernel
theorem dX5_meetingsInRow_43 : decode cX5_meetingsInRow 43 = .ok (.iconst 1, 1) := by decide +kernel
theorem dX5_meetingsInRow_44 : decode cX5_meetingsInRow 44 = .ok (.iadd, 1) := by decide +kernel
theorem dX5_meetingsInRow_45 : decode cX5_meetingsInRow 45 = .ok (.iastore, 1) := by decide +kernel
theorem dX5_meetingsInRow_46 : decode cX5_meetingsInRow 46 = .ok (.iinc 1 1, 3) := by decide +kernel
theorem dX5_meetingsInRow_49 : decode cX5_meetingsInRow 49 = .ok (.goto (-26), 3) := by decide +kernel
theorem dX5_meetingsInRow_52 : decode cX5_meetingsInRow 52 = .ok (.iconst 0, 1) := by decide +kernel
theorem dX5_meetingsInRow_53 : decode cX5_meetingsInRow 53 = .ok (.istore_n 1, 1) := by decide +kernel
theorem dX5_meetingsInRow_54 : decode cX5_meetingsInRow 54 = .ok (.iconst 0, 1) := by decide +kernel
theorem dX5_meetingsInRow_55 : decode cX5_meetingsInRow 55 = .ok (.istore_n 2, 1) := by decide +kernel
theorem dX5_meetingsInRow_56 : decode cX5_meetingsInRow 56 = .ok (.iload_n 2, 1) := by decide +kernel
theorem dX5_meetingsInRow_57 : decode cX5_meetingsInRow 57 = .ok (.bipush 12, 2) := by decide +kernel
theorem dX5_meetingsInRow_59 : decode cX5_meetingsInRow 59 = .ok (.if_icmp .ge 25, 3) := by decide +kernel
theorem dX5_meetingsInRow_62 : decode cX5_meetingsInRow 62 = .ok (.iload_n 1, 1) := by decide +kernel
theorem dX5_meetingsInRow_63 : decode cX5_meetingsInRow 63 = .ok (.aload_n 0, 1) := by decide +kernel
theorem dX5_meetingsInRow_64 : decode cX5_meetingsInRow 64 = .ok (.getfield 29, 3) := by decide +kernel
theorem dX5_meetingsInRow_67 : decode cX5_meetingsInRow 67 = .ok (.iload_n 2, 1) := by decide +kernel
theorem dX5_meetingsInRow_68 : decode cX5_meetingsInRow 68 = .ok (.iaload, 1) := by decide +kernel
theorem dX5_meetingsInRow_69 : decode cX5_meetingsInRow 69 = .ok (.aload_n 0, 1) := by decide +kernel
theorem dX5_meetingsInRow_70 : decode cX5_meetingsInRow 70 = .ok (.getfield 29, 3) := by decide +kernel
theorem dX5_meetingsInRow_73 : decode cX5_meetingsInRow 73 = .ok (.iload_n 2, 1) := by decide +kernel
theorem dX5_meetingsInRow_74 : decode cX5_meetingsInRow 74 = .ok (.iaload, 1) := by decide +kernel
theorem dX5_meetingsInRow_75 : decode cX5_meetingsInRow 75 = .ok (.imul, 1) := by decide +kernel
theorem dX5_meetingsInRow_76 : decode cX5_meetingsInRow 76 = .ok (.iadd, 1) := by decide +kernel
theorem dX5_meetingsInRow_77 : decode cX5_meetingsInRow 77 = .ok (.istore_n 1, 1) := by decide +kernel
theorem dX5_meetingsInRow_78 : decode cX5_meetingsInRow 78 = .ok (.iinc 2 1, 3) := by decide +kernel
theorem dX5_meetingsInRow_81 : decode cX5_meetingsInRow 81 = .ok (.goto (-25), 3) := by decide +kernel
theorem dX5_meetingsInRow_84 : decode cX5_meetingsInRow 84 = .ok (.iload_n 1, 1) := by decide +kernel
theorem dX5_meetingsInRow_85 : decode cX5_meetingsInRow 85 = .ok (.ireturn, 1) := by decide +kernel
theorem dX6_init_0 : decode cX6_init 0 = .ok (.aload_n 0, 1) := by decide +kernel
theorem dX6_init_1 : decode cX6_init 1 = .ok (.invokespecial 1, 3) := by decide +kernel
theorem dX6_init_4 : decode cX6_init 4 = .ok (.aload_n 0, 1) := by decide +kernel
theorem dX6_init_5 : decode cX6_init 5 = .ok (.new 7, 3) := by decide +kernel
theorem dX6_init_8 : decode cX6_init 8 = .ok (.dup, 1) := by decide +kernel
theorem dX6_init_9 : decode cX6_init 9 = .ok (.invokespecial 9, 3) := by decide +kernel
theorem dX6_init_12 : decode cX6_init 12 = .ok (.putfield 10, 3) := by decide +kernel
theorem dX6_init_15 : decode cX6_init 15 = .ok (.aload_n 0, 1) := by decide +kernel
theorem dX6_init_16 : decode cX6_init 16 = .ok (.new 16, 3) := by decide +kernel
theorem dX6_init_19 : decode cX6_init 19 = .ok (.dup, 1) := by decide +kernel
theorem dX6_init_20 : decode cX6_init 20 = .ok (.invokespecial 18, 3) := by decide +kernel
theorem dX6_init_23 : decode cX6_init 23 = .ok (.putfield 19, 3) := by decide +kernel
theorem dX6_init_26 : decode cX6_init 26 = .ok (.aload_n 0, 1) := by decide +kernel
theorem dX6_init_27 : decode cX6_init 27 = .ok (.new 16, 3) := by decide +kernel
theorem dX6_init_30 : decode cX6_init 30 = .ok (.dup, 1) := by decide +kernel
theorem dX6_init_31 : decode cX6_init 31 = .ok (.invokespecial 18, 3) := by decide +kernel
theorem dX6_init_34 : decode cX6_init 34 = .ok (.putfield 23, 3) := by decide +kernel
theorem dX6_init_37 : decode cX6_init 37 = .ok (.aload_n 0, 1) := by decide +kernel
theorem dX6_init_38 : decode cX6_init 38 = .ok (.new 26, 3) := by decide +kernel
theorem dX6_init_41 : decode cX6_init 41 = .ok (.dup, 1) := by decide +kernel
theorem dX6_init_42 : decode cX6_init 42 = .ok (.invokespecial 28, 3) := by decide +kernel
theorem dX6_init_45 : decode cX6_init 45 = .ok (.putfield 29, 3) := by decide +kernel
theorem dX6_init_48 : decode cX6_init 48 = .ok (.aload_n 0, 1) := by decide +kernel
theorem dX6_init_49 : decode cX6_init 49 = .ok (.new 33, 3) := by decide +kernel
theorem dX6_init_52 : decode cX6_init 52 = .ok (.dup, 1) := by decide +kernel
theorem dX6_init_53 : decode cX6_init 53 = .ok (.invokespecial 35, 3) := by decide +kernel
theorem dX6_init_56 : decode cX6_init 56 = .ok (.putfield 36, 3) := by decide +kernel
theorem dX6_init_59 : decode cX6_init 59 = .ok (.aload_n 0, 1) := by decide +kernel
theorem dX6_init_60 : decode cX6_init 60 = .ok (.new 40, 3) := by decide +kernel
theorem dX6_init_63 : decode cX6_init 63 = .ok (.dup, 1) := by decide +kernel
theorem dX6_init_64 : decode cX6_init 64 = .ok (.invokespecial 42, 3) := by decide +kernel
theorem dX6_init_67 : decode cX6_init 67 = .ok (.putfield 43, 3) := by decide +kernel
theorem dX6_init_70 : decode cX6_init 70 = .ok (.aload_n 0, 1) := by decide +kernel
theorem dX6_init_71 : decode cX6_init 71 = .ok (.new 47, 3) := by decide +kernel
theorem dX6_init_74 : decode cX6_init 74 = .ok (.dup, 1) := by decide +kernel
theorem dX6_init_75 : decode cX6_init 75 = .ok (.invokespecial 49, 3) := by decide +kernel
theorem dX6_init_78 : decode cX6_init 78 = .ok (.putfield 50, 3) := by decide +kernel
theorem dX6_init_81 : decode cX6_init 81 = .ok (.aload_n 0, 1) := by decide +kernel
theorem dX6_init_82 : decode cX6_init 82 = .ok (.bipush 8, 2) := by decide +kernel
theorem dX6_init_84 : decode cX6_init 84 = .ok (.newarray .int, 2) := by decide +kernel
theorem dX6_init_86 : decode cX6_init 86 = .ok (.putfield 54, 3) := by decide +kernel
theorem dX6_init_89 : decode cX6_init 89 = .ok (.aload_n 0, 1) := by decide +kernel
theorem dX6_init_90 : decode cX6_init 90 = .ok (.iconst 5, 1) := by decide +kernel
theorem dX6_init_91 : decode cX6_init 91 = .ok (.newarray .int, 2) := by decide +kernel
theorem dX6_init_93 : decode cX6_init 93 = .ok (.putfield 58, 3) := by decide +kernel
theorem dX6_init_96 : decode cX6_init 96 = .ok (.aload_n 0, 1) := by decide +kernel
theorem dX6_init_97 : decode cX6_init 97 = .ok (.iconst 5, 1) := by decide +kernel
theorem dX6_init_98 : decode cX6_init 98 = .ok (.newarray .int, 2) := by decide +kernel
theorem dX6_init_100 : decode cX6_init 100 = .ok (.putfield 61, 3) := by decide +kernel
theorem dX6_init_103 : decode cX6_init 103 = .ok (.aload_n 0, 1) := by decide +kernel
theorem dX6_init_104 : decode cX6_init 104 = .ok (.iconst 2, 1) := by decide +kernel
theorem dX6_init_105 : decode cX6_init 105 = .ok (.anewarray 26, 3) := by decide +kernel
theorem dX6_init_108 : decode cX6_init 108 = .ok (.putfield 64, 3) := by decide +kernel
theorem dX6_init_111 : decode cX6_init 111 = .ok (.aload_n 0, 1) := by decide +kernel
theorem dX6_init_112 : decode cX6_init 112 = .ok (.iconst 2, 1) := by decide +kernel
theorem dX6_init_113 : decode cX6_init 113 = .ok (.newarray .boolean, 2) := by decide +kernel
theorem dX6_init_115 : decode cX6_init 115 = .ok (.putfield 68, 3) := by decide +kernel
theorem dX6_init_118 : decode cX6_init 118 = .ok (.iconst 0, 1) := by decide +kernel
theorem dX6_init_119 : decode cX6_init 119 = .ok (.istore_n 1, 1) := by decide +kernel
theorem dX6_init_120 : decode cX6_init 120 = .ok (.iload_n 1, 1) := by decide +kernel
theorem dX6_init_121 : decode cX6_init 121 = .ok (.iconst 2, 1) := by decide +kernel
theorem dX6_init_122 : decode cX6_init 122 = .ok (.if_icmp .ge 22, 3) := by decide +kernel
theorem dX6_init_125 : decode cX6_init 125 = .ok (.aload_n 0, 1) := by decide +kernel
theorem dX6_init_126 : decode cX6_init 126 = .ok (.getfield 64, 3) := by decide +kernel
theorem dX6_init_129 : decode cX6_init 129 = .ok (.iload_n 1, 1) := by decide +kernel
theorem dX6_init_130 : decode cX6_init 130 = .ok (.new 26, 3) := by decide +kernel
theorem dX6_init_133 : decode cX6_init 133 = .ok (.dup, 1) := by decide +kernel
theorem dX6_init_134 : decode cX6_init 134 = .ok (.invokespecial 28, 3) := by decide +kernel
theorem dX6_init_137 : decode cX6_init 137 = .ok (.aastore, 1) := by decide +kernel
theorem dX6_init_138 : decode cX6_init 138 = .ok (.iinc 1 1, 3) := by decide +kernel
theorem dX6_init_141 : decode cX6_init 141 = .ok (.goto (-21), 3) := by decide +kernel
theorem dX6_init_144 : decode cX6_init 144 = .ok (.aload_n 0, 1) := by decide +kernel
theorem dX6_init_145 : decode cX6_init 145 = .ok (.getfield 29, 3) := by decide +kernel
theorem dX6_init_148 : decode cX6_init 148 = .ok (.aload_n 0, 1) := by decide +kernel
theorem dX6_init_149 : decode cX6_init 149 = .ok (.getfield 19, 3) := by decide +kernel
theorem dX6_init_152 : decode cX6_init 152 = .ok (.getfield 72, 3) := by decide +kernel
theorem dX6_init_155 : decode cX6_init 155 = .ok (.invokevirtual 76, 3) := by decide +kernel
theorem dX6_init_158 : decode cX6_init 158 = .ok (.return_, 1) := by decide +kernel
theorem dX6_type_0 : decode cX6_type 0 = .ok (.iload_n 1, 1) := by decide +kernel
theorem dX6_type_1 : decode cX6_type 1 = .ok (.iconst 0, 1) := by decide +kernel
theorem dX6_type_2 : decode cX6_type 2 = .ok (.sipush 255, 3) := by decide +kernel
theorem dX6_type_5 : decode cX6_type 5 = .ok (.invokestatic 80, 3) := by decide +kernel
theorem dX6_type_8 : decode cX6_type 8 = .ok (.ifCond .ne 5, 3) := by decide +kernel
theorem dX6_type_11 : decode cX6_type 11 = .ok (.iconst (-1), 1) := by decide +kernel
theorem dX6_type_12 : decode cX6_type 12 = .ok (.ireturn, 1) := by decide +kernel
theorem dX6_type_13 : decode cX6_type 13 = .ok (.aload_n 0, 1) := by decide +kernel
theorem dX6_type_14 : decode cX6_type 14 = .ok (.getfield 10, 3) := by decide +kernel
theorem dX6_type_17 : decode cX6_type 17 = .ok (.iload_n 1, 1) := by decide +kernel
theorem dX6_type_18 : decode cX6_type 18 = .ok (.invokevirtual 84, 3) := by decide +kernel
theorem dX6_type_21 : decode cX6_type 21 = .ok (.ifCond .eq 13, 3) := by decide +kernel
theorem dX6_type_24 : decode cX6_type 24 = .ok (.aload_n 0, 1) := by decide +kernel
theorem dX6_type_25 : decode cX6_type 25 = .ok (.getfield 10, 3) := by decide +kernel
theorem dX6_type_28 : decode cX6_type 28 = .ok (.invokevirtual 88, 3) := by decide +kernel
theorem dX6_type_31 : decode cX6_type 31 = .ok (.goto 5, 3) := by decide +kernel
theorem dX6_type_34 : decode cX6_type 34 = .ok (.bipush (-3), 2) := by decide +kernel
theorem dX6_type_36 : decode cX6_type 36 = .ok (.ireturn, 1) := by decide +kernel
theorem dX6_clear_0 : decode cX6_clear 0 = .ok (.aload_n 0, 1) := by decide +kernel
theorem dX6_clear_1 : decode cX6_clear 1 = .ok (.getfield 10, 3) := by decide +kernel
theorem dX6_clear_4 : decode cX6_clear 4 = .ok (.invokevirtual 92, 3) := by decide +kernel
theorem dX6_clear_7 : decode cX6_clear 7 = .ok (.ireturn, 1) := by decide +kernel
theorem dX6_town_0 : decode cX6_town 0 = .ok (.aload_n 0, 1) := by decide +kernel
theorem dX6_town_1 : decode cX6_town 1 = .ok (.getfield 10, 3) := by decide +kernel
theorem dX6_town_4 : decode cX6_town 4 = .ok (.aload_n 0, 1) := by decide +kernel
theorem dX6_town_5 : decode cX6_town 5 = .ok (.getfield 23, 3) := by decide +kernel
theorem dX6_town_8 : decode cX6_town 8 = .ok (.invokevirtual 95, 3) := by decide +kernel
theorem dX6_town_11 : decode cX6_town 11 = .ok (.istore_n 1, 1) := by decide +kernel
theorem dX6_town_12 : decode cX6_town 12 = .ok (.iload_n 1, 1) := by decide +kernel
theorem dX6_town_13 : decode cX6_town 13 = .ok (.ifCond .ge 5, 3) := by decide +kernel
theorem dX6_town_16 : decode cX6_town 16 = .ok (.iload_n 1, 1) := by decide +kernel
theorem dX6_town_17 : decode cX6_town 17 = .ok (.ireturn, 1) := by decide +kernel
theorem dX6_town_18 : decode cX6_town 18 = .ok (.aload_n 0, 1) := by decide +kernel
theorem dX6_town_19 : decode cX6_town 19 = .ok (.getfield 23, 3) := by decide +kernel
theorem dX6_town_22 : decode cX6_town 22 = .ok (.astore_n 2, 1) := by decide +kernel
theorem dX6_town_23 : decode cX6_town 23 = .ok (.aload_n 0, 1) := by decide +kernel
theorem dX6_town_24 : decode cX6_town 24 = .ok (.aload_n 0, 1) := by decide +kernel
theorem dX6_town_25 : decode cX6_town 25 = .ok (.getfield 19, 3) := by decide +kernel
theorem dX6_town_28 : decode cX6_town 28 = .ok (.putfield 23, 3) := by decide +kernel
theorem dX6_town_31 : decode cX6_town 31 = .ok (.aload_n 0, 1) := by decide +kernel
theorem dX6_town_32 : decode cX6_town 32 = .ok (.aload_n 2, 1) := by decide +kernel
theorem dX6_town_33 : decode cX6_town 33 = .ok (.putfield 19, 3) := by decide +kernel
theorem dX6_town_36 : decode cX6_town 36 = .ok (.aload_n 0, 1) := by decide +kernel
theorem dX6_town_37 : decode cX6_town 37 = .ok (.getfield 10, 3) := by decide +kernel
theorem dX6_town_40 : decode cX6_town 40 = .ok (.invokevirtual 92, 3) := by decide +kernel
theorem dX6_town_43 : decode cX6_town 43 = .ok (.pop, 1) := by decide +kernel
theorem dX6_town_44 : decode cX6_town 44 = .ok (.aload_n 0, 1) := by decide +kernel
theorem dX6_town_45 : decode cX6_town 45 = .ok (.invokevirtual 99, 3) := by decide +kernel
theorem dX6_town_48 : decode cX6_town 48 = .ok (.iload_n 1, 1) := by decide +kernel
theorem dX6_town_49 : decode cX6_town 49 = .ok (.ireturn, 1) := by decide +kernel
theorem dX6_road_0 : decode cX6_road 0 = .ok (.aload_n 0, 1) := by decide +kernel
theorem dX6_road_1 : decode cX6_road 1 = .ok (.getfield 19, 3) := by decide +kernel
theorem dX6_road_4 : decode cX6_road 4 = .ok (.iload_n 1, 1) := by decide +kernel
theorem dX6_road_5 : decode cX6_road 5 = .ok (.invokevirtual 102, 3) := by decide +kernel
theorem dX6_road_8 : decode cX6_road 8 = .ok (.ifCond .ne 5, 3) := by decide +kernel
theorem dX6_road_11 : decode cX6_road 11 = .ok (.iconst (-1), 1) := by decide +kernel
theorem dX6_road_12 : decode cX6_road 12 = .ok (.ireturn, 1) := by decide +kernel
theorem dX6_road_13 : decode cX6_road 13 = .ok (.iload_n 2, 1) := by decide +kernel
theorem dX6_road_14 : decode cX6_road 14 = .ok (.tableswitch 101 0 5 #[38, 48, 58, 64, 74, 91], 38) := by decide +kernel
theorem dX6_road_52 : decode cX6_road 52 = .ok (.aload_n 0, 1) := by decide +kernel
theorem dX6_road_53 : decode cX6_road 53 = .ok (.getfield 19, 3) := by decide +kernel
theorem dX6_road_56 : decode cX6_road 56 = .ok (.getfield 105, 3) := by decide +kernel
theorem dX6_road_59 : decode cX6_road 59 = .ok (.iload_n 1, 1) := by decide +kernel
theorem dX6_road_60 : decode cX6_road 60 = .ok (.iaload, 1) := by decide +kernel
theorem dX6_road_61 : decode cX6_road 61 = .ok (.ireturn, 1) := by decide +kernel
theorem dX6_road_62 : decode cX6_road 62 = .ok (.aload_n 0, 1) := by decide +kernel
theorem dX6_road_63 : decode cX6_road 63 = .ok (.getfield 19, 3) := by decide +kernel
theorem dX6_road_66 : decode cX6_road 66 = .ok (.getfield 108, 3) := by decide +kernel
theorem dX6_road_69 : decode cX6_road 69 = .ok (.iload_n 1, 1) := by decide +kernel
theorem dX6_road_70 : decode cX6_road 70 = .ok (.iaload, 1) := by decide +kernel
theorem dX6_road_71 : decode cX6_road 71 = .ok (.ireturn, 1) := by decide +kernel
theorem dX6_road_72 : decode cX6_road 72 = .ok (.aload_n 0, 1) := by decide +kernel
theorem dX6_road_73 : decode cX6_road 73 = .ok (.iload_n 1, 1) := by decide +kernel
theorem dX6_road_74 : decode cX6_road 74 = .ok (.invokevirtual 111, 3) := by decide +kernel
theorem dX6_road_77 : decode cX6_road 77 = .ok (.ireturn, 1) := by decide +kernel
theorem dX6_road_78 : decode cX6_road 78 = .ok (.aload_n 0, 1) := by decide +kernel
theorem dX6_road_79 : decode cX6_road 79 = .ok (.getfield 29, 3) := by decide +kernel
theorem dX6_road_82 : decode cX6_road 82 = .ok (.getfield 115, 3) := by decide +kernel
theorem dX6_road_85 : decode cX6_road 85 = .ok (.iload_n 1, 1) := by decide +kernel
theorem dX6_road_86 : decode cX6_road 86 = .ok (.iaload, 1) := by decide +kernel
theorem dX6_road_87 : decode cX6_road 87 = .ok (.ireturn, 1) := by decide +kernel
theorem dX6_road_88 : decode cX6_road 88 = .ok (.aload_n 0, 1) := by decide +kernel
theorem dX6_road_89 : decode cX6_road 89 = .ok (.getfield 29, 3) := by decide +kernel
theorem dX6_road_92 : decode cX6_road 92 = .ok (.iload_n 1, 1) := by decide +kernel
theorem dX6_road_93 : decode cX6_road 93 = .ok (.invokevirtual 118, 3) := by decide +kernel
theorem dX6_road_96 : decode cX6_road 96 = .ok (.ifCond .eq 7, 3) := by decide +kernel
theorem dX6_road_99 : decode cX6_road 99 = .ok (.iconst 1, 1) := by decide +kernel
theorem dX6_road_100 : decode cX6_road 100 = .ok (.goto 4, 3) := by decide +kernel
theorem dX6_road_103 : decode cX6_road 103 = .ok (.iconst 0, 1) := by decide +kernel
theorem dX6_road_104 : decode cX6_road 104 = .ok (.ireturn, 1) := by decide +kernel
theorem dX6_road_105 : decode cX6_road 105 = .ok (.aload_n 0, 1) := by decide +kernel
theorem dX6_road_106 : decode cX6_road 106 = .ok (.getfield 19, 3) := by decide +kernel
theorem dX6_road_109 : decode cX6_road 109 = .ok (.getfield 121, 3) := by decide +kernel
theorem dX6_road_112 : decode cX6_road 112 = .ok (.iload_n 1, 1) := by decide +kernel
theorem dX6_road_113 : decode cX6_road 113 = .ok (.iaload, 1) := by decide +kernel
theorem dX6_road_114 : decode cX6_road 114 = .ok (.ireturn, 1) := by decide +kernel
theorem dX6_road_115 : decode cX6_road 115 = .ok (.iconst (-1), 1) := by decide +kernel
theorem dX6_road_116 : decode cX6_road 116 = .ok (.ireturn, 1) := by decide +kernel
theorem dX6_place_0 : decode cX6_place 0 = .ok (.aload_n 0, 1) := by decide +kernel
theorem dX6_place_1 : decode cX6_place 1 = .ok (.getfield 19, 3) := by decide +kernel
theorem dX6_place_4 : decode cX6_place 4 = .ok (.iload_n 1, 1) := by decide +kernel
theorem dX6_place_5 : decode cX6_place 5 = .ok (.invokevirtual 124, 3) := by decide +kernel
theorem dX6_place_8 : decode cX6_place 8 = .ok (.ifCond .eq 19, 3) := by decide +kernel
theorem dX6_place_11 : decode cX6_place 11 = .ok (.aload_n 0, 1) := by decide +kernel
theorem dX6_place_12 : decode cX6_place 12 = .ok (.getfield 19, 3) := by decide +kernel
theorem dX6_place_15 : decode cX6_place 15 = .ok (.iload_n 1, 1) := by decide +kernel
theorem dX6_place_16 : decode cX6_place 16 = .ok (.invokevirtual 127, 3) := by decide +kernel
theorem dX6_place_19 : decode cX6_place 19 = .ok (.aload_n 0, 1) := by decide +kernel
theorem dX6_place_20 : decode cX6_place 20 = .ok (.invokevirtual 130, 3) := by decide +kernel
theorem dX6_place_23 : decode cX6_place 23 = .ok (.iand, 1) := by decide +kernel
theorem dX6_place_24 : decode cX6_place 24 = .ok (.goto 4, 3) := by decide +kernel
theorem dX6_place_27 : decode cX6_place 27 = .ok (.iconst (-1), 1) := by decide +kernel
theorem dX6_place_28 : decode cX6_place 28 = .ok (.ireturn, 1) := by decide +kernel
theorem dX6_now_0 : decode cX6_now 0 = .ok (.iload_n 1, 1) := by decide +kernel
theorem dX6_now_1 : decode cX6_now 1 = .ok (.tableswitch 87 0 5 #[39, 47, 55, 63, 71, 79], 39) := by decide +kernel
theorem dX6_now_40 : decode cX6_now 40 = .ok (.aload_n 0, 1) := by decide +kernel
theorem dX6_now_41 : decode cX6_now 41 = .ok (.getfield 29, 3) := by decide +kernel
theorem dX6_now_44 : decode cX6_now 44 = .ok (.getfield 133, 3) := by decide +kernel
theorem dX6_now_47 : decode cX6_now 47 = .ok (.ireturn, 1) := by decide +kernel
theorem dX6_now_48 : decode cX6_now 48 = .ok (.aload_n 0, 1) := by decide +kernel
theorem dX6_now_49 : decode cX6_now 49 = .ok (.getfield 29, 3) := by decide +kernel
theorem dX6_now_52 : decode cX6_now 52 = .ok (.getfield 136, 3) := by decide +kernel
theorem dX6_now_55 : decode cX6_now 55 = .ok (.ireturn, 1) := by decide +kernel
theorem dX6_now_56 : decode cX6_now 56 = .ok (.aload_n 0, 1) := by decide +kernel
theorem dX6_now_57 : decode cX6_now 57 = .ok (.getfield 29, 3) := by decide +kernel
theorem dX6_now_60 : decode cX6_now 60 = .ok (.getfield 139, 3) := by decide +kernel
theorem dX6_now_63 : decode cX6_now 63 = .ok (.ireturn, 1) := by decide +kernel
theorem dX6_now_64 : decode cX6_now 64 = .ok (.aload_n 0, 1) := by decide +kernel
theorem dX6_now_65 : decode cX6_now 65 = .ok (.getfield 29, 3) := by decide +kernel
theorem dX6_now_68 : decode cX6_now 68 = .ok (.getfield 142, 3) := by decide +kernel
theorem dX6_now_71 : decode cX6_now 71 = .ok (.ireturn, 1) := by decide +kernel
theorem dX6_now_72 : decode cX6_now 72 = .ok (.aload_n 0, 1) := by decide +kernel
theorem dX6_now_73 : decode cX6_now 73 = .ok (.getfield 29, 3) := by decide +kernel
theorem dX6_now_76 : decode cX6_now 76 = .ok (.getfield 145, 3) := by decide +kernel
theorem dX6_now_79 : decode cX6_now 79 = .ok (.ireturn, 1) := by decide +kernel
theorem dX6_now_80 : decode cX6_now 80 = .ok (.aload_n 0, 1) := by decide +kernel
theorem dX6_now_81 : decode cX6_now 81 = .ok (.getfield 36, 3) := by decide +kernel
theorem dX6_now_84 : decode cX6_now 84 = .ok (.invokevirtual 148, 3) := by decide +kernel
theorem dX6_now_87 : decode cX6_now 87 = .ok (.ireturn, 1) := by decide +kernel
theorem dX6_now_88 : decode cX6_now 88 = .ok (.iconst (-1), 1) := by decide +kernel
theorem dX6_now_89 : decode cX6_now 89 = .ok (.ireturn, 1) := by decide +kernel
theorem dX6_takes_0 : decode cX6_takes 0 = .ok (.aload_n 0, 1) := by decide +kernel
theorem dX6_takes_1 : decode cX6_takes 1 = .ok (.getfield 19, 3) := by decide +kernel
theorem dX6_takes_4 : decode cX6_takes 4 = .ok (.iload_n 1, 1) := by decide +kernel
theorem dX6_takes_5 : decode cX6_takes 5 = .ok (.invokevirtual 102, 3) := by decide +kernel
theorem dX6_takes_8 : decode cX6_takes 8 = .ok (.ifCond .ne 5, 3) := by decide +kernel
theorem dX6_takes_11 : decode cX6_takes 11 = .ok (.iconst (-1), 1) := by decide +kernel
theorem dX6_takes_12 : decode cX6_takes 12 = .ok (.ireturn, 1) := by decide +kernel
theorem dX6_takes_13 : decode cX6_takes 13 = .ok (.aload_n 0, 1) := by decide +kernel
theorem dX6_takes_14 : decode cX6_takes 14 = .ok (.iload_n 1, 1) := by decide +kernel
theorem dX6_takes_15 : decode cX6_takes 15 = .ok (.aload_n 0, 1) := by decide +kernel
theorem dX6_takes_16 : decode cX6_takes 16 = .ok (.getfield 29, 3) := by decide +kernel
theorem dX6_takes_19 : decode cX6_takes 19 = .ok (.getfield 133, 3) := by decide +kernel
theorem dX6_takes_22 : decode cX6_takes 22 = .ok (.invokevirtual 149, 3) := by decide +kernel
theorem dX6_takes_25 : decode cX6_takes 25 = .ok (.ifCond .ne 6, 3) := by decide +kernel
theorem dX6_takes_28 : decode cX6_takes 28 = .ok (.bipush (-2), 2) := by decide +kernel
theorem dX6_takes_30 : decode cX6_takes 30 = .ok (.ireturn, 1) := by decide +kernel
theorem dX6_takes_31 : decode cX6_takes 31 = .ok (.aload_n 0, 1) := by decide +kernel
theorem dX6_takes_32 : decode cX6_takes 32 = .ok (.aload_n 0, 1) := by decide +kernel
theorem dX6_takes_33 : decode cX6_takes 33 = .ok (.getfield 29, 3) := by decide +kernel
theorem dX6_takes_36 : decode cX6_takes 36 = .ok (.getfield 136, 3) := by decide +kernel
theorem dX6_takes_39 : decode cX6_takes 39 = .ok (.iload_n 1, 1) := by decide +kernel
theorem dX6_takes_40 : decode cX6_takes 40 = .ok (.invokevirtual 153, 3) := by decide +kernel
theorem dX6_takes_43 : decode cX6_takes 43 = .ok (.istore_n 2, 1) := by decide +kernel
theorem dX6_takes_44 : decode cX6_takes 44 = .ok (.aload_n 0, 1) := by decide +kernel
theorem dX6_takes_45 : decode cX6_takes 45 = .ok (.getfield 29, 3) := by decide +kernel
theorem dX6_takes_48 : decode cX6_takes 48 = .ok (.getfield 139, 3) := by decide +kernel
theorem dX6_takes_51 : decode cX6_takes 51 = .ok (.iload_n 2, 1) := by decide +kernel
theorem dX6_takes_52 : decode cX6_takes 52 = .ok (.iadd, 1) := by decide +kernel
theorem dX6_takes_53 : decode cX6_takes 53 = .ok (.sipush 9999, 3) := by decide +kernel
theorem dX6_takes_56 : decode cX6_takes 56 = .ok (.if_icmp .le 6, 3) := by decide +kernel
theorem dX6_takes_59 : decode cX6_takes 59 = .ok (.bipush (-2), 2) := by decide +kernel
theorem dX6_takes_61 : decode cX6_takes 61 = .ok (.ireturn, 1) := by decide +kernel
theorem dX6_takes_62 : decode cX6_takes 62 = .ok (.aload_n 0, 1) := by decide +kernel
theorem dX6_takes_63 : decode cX6_takes 63 = .ok (.getfield 36, 3) := by decide +kernel
theorem dX6_takes_66 : decode cX6_takes 66 = .ok (.aload_n 0, 1) := by decide +kernel
theorem dX6_takes_67 : decode cX6_takes 67 = .ok (.getfield 29, 3) := by decide +kernel
theorem dX6_takes_70 : decode cX6_takes 70 = .ok (.invokevirtual 157, 3) := by decide +kernel
theorem dX6_takes_73 : decode cX6_takes 73 = .ok (.aload_n 0, 1) := by decide +kernel
theorem dX6_takes_74 : decode cX6_takes 74 = .ok (.getfield 19, 3) := by decide +kernel
theorem dX6_takes_77 : decode cX6_takes 77 = .ok (.aload_n 0, 1) := by decide +kernel
theorem dX6_takes_78 : decode cX6_takes 78 = .ok (.getfield 29, 3) := by decide +kernel
theorem dX6_takes_81 : decode cX6_takes 81 = .ok (.getfield 136, 3) := by decide +kernel
theorem dX6_takes_84 : decode cX6_takes 84 = .ok (.iload_n 1, 1) := by decide +kernel
theorem dX6_takes_85 : decode cX6_takes 85 = .ok (.invokevirtual 161, 3) := by decide +kernel
theorem dX6_takes_88 : decode cX6_takes 88 = .ok (.ifCond .eq 16, 3) := by decide +kernel
theorem dX6_takes_91 : decode cX6_takes 91 = .ok (.aload_n 0, 1) := by decide +kernel
theorem dX6_takes_92 : decode cX6_takes 92 = .ok (.getfield 29, 3) := by decide +kernel
theorem dX6_takes_95 : decode cX6_takes 95 = .ok (.dup, 1) := by decide +kernel
theorem dX6_takes_96 : decode cX6_takes 96 = .ok (.getfield 142, 3) := by decide +kernel
theorem dX6_takes_99 : decode cX6_takes 99 = .ok (.iconst 1, 1) := by decide +kernel
theorem dX6_takes_100 : decode cX6_takes 100 = .ok (.iadd, 1) := by decide +kernel
theorem dX6_takes_101 : decode cX6_takes 101 = .ok (.putfield 142, 3) := by decide +kernel
theorem dX6_takes_104 : decode cX6_takes 104 = .ok (.aload_n 0, 1) := by decide +kernel
theorem dX6_takes_105 : decode cX6_takes 105 = .ok (.getfield 29, 3) := by decide +kernel
theorem dX6_takes_108 : decode cX6_takes 108 = .ok (.dup, 1) := by decide +kernel
theorem dX6_takes_109 : decode cX6_takes 109 = .ok (.getfield 139, 3) := by decide +kernel
theorem dX6_takes_112 : decode cX6_takes 112 = .ok (.iload_n 2, 1) := by decide +kernel
theorem dX6_takes_113 : decode cX6_takes 113 = .ok (.iadd, 1) := by decide +kernel
theorem dX6_takes_114 : decode cX6_takes 114 = .ok (.putfield 139, 3) := by decide +kernel
theorem dX6_takes_117 : decode cX6_takes 117 = .ok (.aload_n 0, 1) := by decide +kernel
theorem dX6_takes_118 : decode cX6_takes 118 = .ok (.getfield 29, 3) := by decide +kernel
theorem dX6_takes_121 : decode cX6_takes 121 = .ok (.aload_n 0, 1) := by decide +kernel
theorem dX6_takes_122 : decode cX6_takes 122 = .ok (.getfield 19, 3) := by decide +kernel
theorem dX6_takes_125 : decode cX6_takes 125 = .ok (.iload_n 1, 1) := by decide +kernel
theorem dX6_takes_126 : decode cX6_takes 126 = .ok (.aload_n 0, 1) := by decide +kernel
theorem dX6_takes_127 : decode cX6_takes 127 = .ok (.getfield 29, 3) := by decide +kernel
theorem dX6_takes_130 : decode cX6_takes 130 = .ok (.getfield 133, 3) := by decide +kernel
theorem dX6_takes_133 : decode cX6_takes 133 = .ok (.invokevirtual 164, 3) := by decide +kernel
theorem dX6_takes_136 : decode cX6_takes 136 = .ok (.putfield 133, 3) := by decide +kernel
theorem dX6_takes_139 : decode cX6_takes 139 = .ok (.aload_n 0, 1) := by decide +kernel
theorem dX6_takes_140 : decode cX6_takes 140 = .ok (.getfield 29, 3) := by decide +kernel
theorem dX6_takes_143 : decode cX6_takes 143 = .ok (.iload_n 1, 1) := by decide +kernel
theorem dX6_takes_144 : decode cX6_takes 144 = .ok (.putfield 136, 3) := by decide +kernel
theorem dX6_takes_147 : decode cX6_takes 147 = .ok (.iload_n 2, 1) := by decide +kernel
theorem dX6_takes_148 : decode cX6_takes 148 = .ok (.ireturn, 1) := by decide +kernel
theorem dX6_jams_0 : decode cX6_jams 0 = .ok (.aload_n 0, 1) := by decide +kernel
theorem dX6_jams_1 : decode cX6_jams 1 = .ok (.getfield 19, 3) := by decide +kernel
theorem dX6_jams_4 : decode cX6_jams 4 = .ok (.iload_n 1, 1) := by decide +kernel
theorem dX6_jams_5 : decode cX6_jams 5 = .ok (.invokevirtual 102, 3) := by decide +kernel
theorem dX6_jams_8 : decode cX6_jams 8 = .ok (.ifCond .eq 13, 3) := by decide +kernel
theorem dX6_jams_11 : decode cX6_jams 11 = .ok (.iload_n 2, 1) := by decide +kernel
theorem dX6_jams_12 : decode cX6_jams 12 = .ok (.iconst 0, 1) := by decide +kernel
theorem dX6_jams_13 : decode cX6_jams 13 = .ok (.bipush 60, 2) := by decide +kernel
theorem dX6_jams_15 : decode cX6_jams 15 = .ok (.invokestatic 80, 3) := by decide +kernel
theorem dX6_jams_18 : decode cX6_jams 18 = .ok (.ifCond .ne 5, 3) := by decide +kernel
theorem dX6_jams_21 : decode cX6_jams 21 = .ok (.iconst (-1), 1) := by decide +kernel
theorem dX6_jams_22 : decode cX6_jams 22 = .ok (.ireturn, 1) := by decide +kernel
theorem dX6_jams_23 : decode cX6_jams 23 = .ok (.aload_n 0, 1) := by decide +kernel
theorem dX6_jams_24 : decode cX6_jams 24 = .ok (.getfield 36, 3) := by decide +kernel
theorem dX6_jams_27 : decode cX6_jams 27 = .ok (.aload_n 0, 1) := by decide +kernel
theorem dX6_jams_28 : decode cX6_jams 28 = .ok (.getfield 29, 3) := by decide +kernel
theorem dX6_jams_31 : decode cX6_jams 31 = .ok (.invokevirtual 157, 3) := by decide +kernel
theorem dX6_jams_34 : decode cX6_jams 34 = .ok (.aload_n 0, 1) := by decide +kernel
theorem dX6_jams_35 : decode cX6_jams 35 = .ok (.getfield 29, 3) := by decide +kernel
theorem dX6_jams_38 : decode cX6_jams 38 = .ok (.getfield 115, 3) := by decide +kernel
theorem dX6_jams_41 : decode cX6_jams 41 = .ok (.iload_n 1, 1) := by decide +kernel
theorem dX6_jams_42 : decode cX6_jams 42 = .ok (.iaload, 1) := by decide +kernel
theorem dX6_jams_43 : decode cX6_jams 43 = .ok (.istore_n 3, 1) := by decide +kernel
theorem dX6_jams_44 : decode cX6_jams 44 = .ok (.aload_n 0, 1) := by decide +kernel
theorem dX6_jams_45 : decode cX6_jams 45 = .ok (.getfield 29, 3) := by decide +kernel
theorem dX6_jams_48 : decode cX6_jams 48 = .ok (.getfield 115, 3) := by decide +kernel
theorem dX6_jams_51 : decode cX6_jams 51 = .ok (.iload_n 1, 1) := by decide +kernel
theorem dX6_jams_52 : decode cX6_jams 52 = .ok (.iload_n 2, 1) := by decide +kernel
theorem dX6_jams_53 : decode cX6_jams 53 = .ok (.iastore, 1) := by decide +kernel
theorem dX6_jams_54 : decode cX6_jams 54 = .ok (.iload_n 3, 1) := by decide +kernel
theorem dX6_jams_55 : decode cX6_jams 55 = .ok (.ireturn, 1) := by decide +kernel
theorem dX6_shuts_0 : decode cX6_shuts 0 = .ok (.aload_n 0, 1) := by decide +kernel
theorem dX6_shuts_1 : decode cX6_shuts 1 = .ok (.getfield 19, 3) := by decide +kernel
theorem dX6_shuts_4 : decode cX6_shuts 4 = .ok (.iload_n 1, 1) := by decide +kernel
theorem dX6_shuts_5 : decode cX6_shuts 5 = .ok (.invokevirtual 102, 3) := by decide +kernel
theorem dX6_shuts_8 : decode cX6_shuts 8 = .ok (.ifCond .eq 12, 3) := by decide +kernel
theorem dX6_shuts_11 : decode cX6_shuts 11 = .ok (.iload_n 2, 1) := by decide +kernel
theorem dX6_shuts_12 : decode cX6_shuts 12 = .ok (.iconst 0, 1) := by decide +kernel
theorem dX6_shuts_13 : decode cX6_shuts 13 = .ok (.iconst 1, 1) := by decide +kernel
theorem dX6_shuts_14 : decode cX6_shuts 14 = .ok (.invokestatic 80, 3) := by decide +kernel
theorem dX6_shuts_17 : decode cX6_shuts 17 = .ok (.ifCond .ne 5, 3) := by decide +kernel
theorem dX6_shuts_20 : decode cX6_shuts 20 = .ok (.iconst (-1), 1) := by decide +kernel
theorem dX6_shuts_21 : decode cX6_shuts 21 = .ok (.ireturn, 1) := by decide +kernel
theorem dX6_shuts_22 : decode cX6_shuts 22 = .ok (.aload_n 0, 1) := by decide +kernel
theorem dX6_shuts_23 : decode cX6_shuts 23 = .ok (.getfield 29, 3) := by decide +kernel
