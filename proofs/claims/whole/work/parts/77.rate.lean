set_option maxHeartbeats 4000000 in
set_option maxRecDepth 100000 in
theorem c_X6_ratedAs0 (g : GC) (x : Nat) (y : Nat → Nat) (W : NS) (rd : Nat) (dr : Nat) (pa : Nat) (vo : Nat) (ch : Nat) (im : Nat → Nat) (a : Nat) (h : Nat → Nat) (T : NS) (p : Nat) (q : Nat → Nat) (P : NS) (k : Nat) (r : Nat) (hk : k = 0) (hr : r < 12) (hs4 : P.1 4 < 4096) : CtS g yX6_ratedAs cX6_ratedAs 5 (some .int) 1 0 0 [.ref x, .int (nI k), .int (nI r)] (wTV g x y rd a dr p pa vo ch im W ++ (wTown g a h T ++ (wPres g p q P))) (DI (nI (T.2 8 r + P.2 5 r)) (wTV g x y rd a dr p pa vo ch im (sF W 14 (W.1 14 + 1)) ++ (wTown g a h T ++ (wPres g p q P)))) := by
  refine CtS.of (by decide) (Nat.le_of_ble_eq_true rfl) ?_
  intro X E Er hX _ hnm hZT
  obtain ⟨t1, t2, hZ1, hA1, hZ2, hA2⟩ := id hZT
  have E : Ob g X cX6_ratedAs 5 RX6 := E
  refine z_lve (lv' := [(0, .ref x), (1, .int (nI k)), (2, .int (nI r))]) rfl ?_
  subst hk
  refine z_aload_n E dX6_ratedAs_0 0 rfl rfl ?_
  refine z_dup E dX6_ratedAs_1 rfl ?_
  refine gt_X6_267 (v := .long (lN (W.1 14))) E dX6_ratedAs_2 0 rfl rfl ?_
  refine z_gets E hZ2 kst_288 dX6_ratedAs_5 ?_
  refine z_iload_n E dX6_ratedAs_8 1 rfl rfl ?_
  refine z_tldN (i := 0) (v := nI 1) E hA2 dX6_ratedAs_9 (by decide) (by decide) rfl ?_
  refine z_i2l (v := lN 1) E dX6_ratedAs_10 (nI_l (by decide)) ?_
  refine z_laddN E dX6_ratedAs_11 ?_
  refine pt_X6_267 (x := lN ((W.1 14) + 1)) (ws' := wTV g x y rd a dr p pa vo ch im (sF W 14 ((W.1 14) + 1)) ++ (wTown g a h T ++ (wPres g p q P))) E dX6_ratedAs_12 0 rfl (Nat.le_of_ble_eq_true rfl) rfl ?_
  refine z_gets E hZ1 kst_291 dX6_ratedAs_15 ?_
  refine z_iload_n E dX6_ratedAs_18 1 rfl rfl ?_
  refine z_tldN (i := 0) (v := (-9)) E hA1 dX6_ratedAs_19 (by decide) (by decide) rfl ?_
  refine z_istore_n (lv' := [(0, .ref x), (1, .int (nI 0)), (2, .int (nI r)), (3, .int (-9))]) E dX6_ratedAs_20 3 rfl (by decide) rfl ?_
  refine z_iload_n E dX6_ratedAs_21 3 rfl rfl ?_
  refine z_iconst (v := (nI 0)) E dX6_ratedAs_22 (by decide) ?_
  refine z_iload_n E dX6_ratedAs_23 1 rfl rfl ?_
  refine z_iconst (v := (nI 1)) E dX6_ratedAs_24 (by decide) ?_
  refine z_isub E dX6_ratedAs_25 ?_
  refine z_se E (rS E hX (c_X6_isWithin g (-9) (nI 0) ((nI 0) - (nI 1))) mw_X6_isWithin ms_X6_isWithin ml_X6_80 dX6_ratedAs_26 (Nat.le_of_ble_eq_true rfl) ⟨(Nat.le_of_ble_eq_true rfl), (Nat.le_of_ble_eq_true rfl)⟩ rfl rfl (Nat.le_of_ble_eq_true rfl)) ?_
  refine z_ifB_eq E dX6_ratedAs_29 41 (by decide) (fun _ => ?_) (fun h => absurd h (by decide))
  refine z_aload_n E dX6_ratedAs_41 0 rfl rfl ?_
  refine z_iload_n E dX6_ratedAs_42 2 rfl rfl ?_
  refine z_ro0 E (rV E hX (c_X6_longOf g x y (sF W 14 ((W.1 14) + 1)) rd dr pa vo ch im a h T p q P r (by omega)) mw_X6_longOf ml_X6_111 dX6_ratedAs_43 (Nat.le_of_ble_eq_true rfl) ⟨(Nat.le_of_ble_eq_true rfl), (Nat.le_of_ble_eq_true rfl)⟩ rfl rfl (Nat.le_of_ble_eq_true rfl) 0 rfl rfl) ?_
  refine z_istore (lv' := [(0, .ref x), (1, .int (nI 0)), (2, .int (nI r)), (3, .int (-9)), (4, .int (nI ((T.2 8) r + (P.2 5) r)))]) E dX6_ratedAs_46 (by decide) rfl ?_
  refine z_iload_n E dX6_ratedAs_48 1 rfl rfl ?_
  refine z_tabOut E dX6_ratedAs_49 132 (by decide) (by decide) ?_
  refine z_iload E dX6_ratedAs_132 4 rfl ?_
  refine z_iret E Er dX6_ratedAs_134 ?_
  exact ⟨rfl, rfl⟩

set_option maxHeartbeats 4000000 in
set_option maxRecDepth 100000 in
theorem c_X6_ratedAs1 (g : GC) (x : Nat) (y : Nat → Nat) (W : NS) (rd : Nat) (dr : Nat) (pa : Nat) (vo : Nat) (ch : Nat) (im : Nat → Nat) (a : Nat) (h : Nat → Nat) (T : NS) (p : Nat) (q : Nat → Nat) (P : NS) (k : Nat) (r : Nat) (hk : k = 1) (hr : r < 12) (hs4 : P.1 4 < 4096) : CtS g yX6_ratedAs cX6_ratedAs 5 (some .int) 2 0 0 [.ref x, .int (nI k), .int (nI r)] (wTV g x y rd a dr p pa vo ch im W ++ (wTown g a h T ++ (wPres g p q P))) (DI (nI (T.2 8 r + P.2 5 r + P.2 5 r)) (wTV g x y rd a dr p pa vo ch im (sF W 14 (W.1 14 + 11)) ++ (wTown g a h T ++ (wPres g p q P)))) := by
  refine CtS.of (by decide) (Nat.le_of_ble_eq_true rfl) ?_
  intro X E Er hX _ hnm hZT
  obtain ⟨t1, t2, hZ1, hA1, hZ2, hA2⟩ := id hZT
  have E : Ob g X cX6_ratedAs 5 RX6 := E
  refine z_lve (lv' := [(0, .ref x), (1, .int (nI k)), (2, .int (nI r))]) rfl ?_
  subst hk
  refine z_aload_n E dX6_ratedAs_0 0 rfl rfl ?_
  refine z_dup E dX6_ratedAs_1 rfl ?_
  refine gt_X6_267 (v := .long (lN (W.1 14))) E dX6_ratedAs_2 0 rfl rfl ?_
  refine z_gets E hZ2 kst_288 dX6_ratedAs_5 ?_
  refine z_iload_n E dX6_ratedAs_8 1 rfl rfl ?_
  refine z_tldN (i := 1) (v := nI 10) E hA2 dX6_ratedAs_9 (by decide) (by decide) rfl ?_
  refine z_i2l (v := lN 10) E dX6_ratedAs_10 (nI_l (by decide)) ?_
  refine z_laddN E dX6_ratedAs_11 ?_
  refine pt_X6_267 (x := lN ((W.1 14) + 10)) (ws' := wTV g x y rd a dr p pa vo ch im (sF W 14 ((W.1 14) + 10)) ++ (wTown g a h T ++ (wPres g p q P))) E dX6_ratedAs_12 0 rfl (Nat.le_of_ble_eq_true rfl) rfl ?_
  refine z_gets E hZ1 kst_291 dX6_ratedAs_15 ?_
  refine z_iload_n E dX6_ratedAs_18 1 rfl rfl ?_
  refine z_tldN (i := 1) (v := nI 0) E hA1 dX6_ratedAs_19 (by decide) (by decide) rfl ?_
  refine z_istore_n (lv' := [(0, .ref x), (1, .int (nI 1)), (2, .int (nI r)), (3, .int (nI 0))]) E dX6_ratedAs_20 3 rfl (by decide) rfl ?_
  refine z_iload_n E dX6_ratedAs_21 3 rfl rfl ?_
  refine z_iconst (v := (nI 0)) E dX6_ratedAs_22 (by decide) ?_
  refine z_iload_n E dX6_ratedAs_23 1 rfl rfl ?_
  refine z_iconst (v := (nI 1)) E dX6_ratedAs_24 (by decide) ?_
  refine z_isubN E dX6_ratedAs_25 (by omega) ?_
  refine z_se E (rS E hX (c_X6_isWithin g (nI 0) (nI 0) (nI (1 - 1))) mw_X6_isWithin ms_X6_isWithin ml_X6_80 dX6_ratedAs_26 (Nat.le_of_ble_eq_true rfl) ⟨(Nat.le_of_ble_eq_true rfl), (Nat.le_of_ble_eq_true rfl)⟩ rfl rfl (Nat.le_of_ble_eq_true rfl)) ?_
  refine z_ifB_eq E dX6_ratedAs_29 41 (by decide) (fun h => absurd h (by decide)) (fun _ => ?_)
  refine z_aload_n E dX6_ratedAs_32 0 rfl rfl ?_
  refine z_iload_n E dX6_ratedAs_33 3 rfl rfl ?_
  refine z_iload_n E dX6_ratedAs_34 2 rfl rfl ?_
  refine z_rw0S (w2 := wTV g x y rd a dr p pa vo ch im (sF (sF W 14 ((W.1 14) + 10)) 14 (((W.1 14) + 10) + 1)) ++ (wTown g a h T ++ (wPres g p q P))) E (rVS E hZT hX (c_X6_ratedAs0 g x y (sF W 14 ((W.1 14) + 10)) rd dr pa vo ch im a h T p q P 0 r rfl (by omega) (by omega)) mw_X6_ratedAs ml_X6_249 dX6_ratedAs_35 (Nat.le_of_ble_eq_true rfl) ⟨(Nat.le_of_ble_eq_true rfl), (Nat.le_of_ble_eq_true rfl)⟩ rfl rfl (Nat.le_of_ble_eq_true rfl) 0 rfl rfl) (fs3 _ _) ?_
  refine z_goto E dX6_ratedAs_38 46 (by decide) ?_
  refine z_istore (lv' := [(0, .ref x), (1, .int (nI 1)), (2, .int (nI r)), (3, .int (nI 0)), (4, .int (nI ((T.2 8) r + (P.2 5) r)))]) E dX6_ratedAs_46 (by decide) rfl ?_
  refine z_iload_n E dX6_ratedAs_48 1 rfl rfl ?_
  refine z_tabIn (off := 35) E dX6_ratedAs_49 84 (by decide) (by decide) (by decide) (by decide) ?_
  refine z_iload E dX6_ratedAs_84 4 rfl ?_
  refine z_aload_n E dX6_ratedAs_86 0 rfl rfl ?_
  refine gt_X6_29 (v := .ref p) E dX6_ratedAs_87 0 rfl rfl ?_
  refine gt_X6_115 (v := .ref (q 5)) E dX6_ratedAs_90 11 rfl rfl ?_
  refine z_iload_n E dX6_ratedAs_93 2 rfl rfl ?_
  refine z_ialdN (f := (P.2 5)) E dX6_ratedAs_94 12 rfl (by omega) (by decide) ?_
  refine z_iaddN E dX6_ratedAs_95 ?_
  refine z_iret E Er dX6_ratedAs_96 ?_
  exact ⟨rfl, congrArg (fun q_ => wTV g x y rd a dr p pa vo ch im q_ ++ (wTown g a h T ++ (wPres g p q P))) ((sF_twice W 14 _ _).trans (congrArg (sF W 14) (Nat.add_assoc _ _ _)))⟩

set_option maxHeartbeats 4000000 in
set_option maxRecDepth 100000 in
theorem c_X6_ratedAs2 (g : GC) (x : Nat) (y : Nat → Nat) (W : NS) (rd : Nat) (dr : Nat) (pa : Nat) (vo : Nat) (ch : Nat) (im : Nat → Nat) (a : Nat) (h : Nat → Nat) (T : NS) (p : Nat) (q : Nat → Nat) (P : NS) (k : Nat) (r : Nat) (hk : k = 2) (hr : r < 12) (hs4 : P.1 4 < 4096) : CtS g yX6_ratedAs cX6_ratedAs 5 (some .int) 2 0 0 [.ref x, .int (nI k), .int (nI r)] (wTV g x y rd a dr p pa vo ch im W ++ (wTown g a h T ++ (wPres g p q P))) (DI (nI (T.2 8 r + P.2 5 r) - nI (pc12 (P.1 4))) (wTV g x y rd a dr p pa vo ch im (sF W 14 (W.1 14 + 101)) ++ (wTown g a h T ++ (wPres g p q P)))) := by
  refine CtS.of (by decide) (Nat.le_of_ble_eq_true rfl) ?_
  intro X E Er hX _ hnm hZT
  obtain ⟨t1, t2, hZ1, hA1, hZ2, hA2⟩ := id hZT
  have E : Ob g X cX6_ratedAs 5 RX6 := E
  refine z_lve (lv' := [(0, .ref x), (1, .int (nI k)), (2, .int (nI r))]) rfl ?_
  subst hk
  refine z_aload_n E dX6_ratedAs_0 0 rfl rfl ?_
  refine z_dup E dX6_ratedAs_1 rfl ?_
  refine gt_X6_267 (v := .long (lN (W.1 14))) E dX6_ratedAs_2 0 rfl rfl ?_
  refine z_gets E hZ2 kst_288 dX6_ratedAs_5 ?_
  refine z_iload_n E dX6_ratedAs_8 1 rfl rfl ?_
  refine z_tldN (i := 2) (v := nI 100) E hA2 dX6_ratedAs_9 (by decide) (by decide) rfl ?_
  refine z_i2l (v := lN 100) E dX6_ratedAs_10 (nI_l (by decide)) ?_
  refine z_laddN E dX6_ratedAs_11 ?_
  refine pt_X6_267 (x := lN ((W.1 14) + 100)) (ws' := wTV g x y rd a dr p pa vo ch im (sF W 14 ((W.1 14) + 100)) ++ (wTown g a h T ++ (wPres g p q P))) E dX6_ratedAs_12 0 rfl (Nat.le_of_ble_eq_true rfl) rfl ?_
  refine z_gets E hZ1 kst_291 dX6_ratedAs_15 ?_
  refine z_iload_n E dX6_ratedAs_18 1 rfl rfl ?_
  refine z_tldN (i := 2) (v := nI 0) E hA1 dX6_ratedAs_19 (by decide) (by decide) rfl ?_
  refine z_istore_n (lv' := [(0, .ref x), (1, .int (nI 2)), (2, .int (nI r)), (3, .int (nI 0))]) E dX6_ratedAs_20 3 rfl (by decide) rfl ?_
  refine z_iload_n E dX6_ratedAs_21 3 rfl rfl ?_
  refine z_iconst (v := (nI 0)) E dX6_ratedAs_22 (by decide) ?_
  refine z_iload_n E dX6_ratedAs_23 1 rfl rfl ?_
  refine z_iconst (v := (nI 1)) E dX6_ratedAs_24 (by decide) ?_
  refine z_isubN E dX6_ratedAs_25 (by omega) ?_
  refine z_se E (rS E hX (c_X6_isWithin g (nI 0) (nI 0) (nI (2 - 1))) mw_X6_isWithin ms_X6_isWithin ml_X6_80 dX6_ratedAs_26 (Nat.le_of_ble_eq_true rfl) ⟨(Nat.le_of_ble_eq_true rfl), (Nat.le_of_ble_eq_true rfl)⟩ rfl rfl (Nat.le_of_ble_eq_true rfl)) ?_
  refine z_ifB_eq E dX6_ratedAs_29 41 (by decide) (fun h => absurd h (by decide)) (fun _ => ?_)
  refine z_aload_n E dX6_ratedAs_32 0 rfl rfl ?_
  refine z_iload_n E dX6_ratedAs_33 3 rfl rfl ?_
  refine z_iload_n E dX6_ratedAs_34 2 rfl rfl ?_
  refine z_rw0S (w2 := wTV g x y rd a dr p pa vo ch im (sF (sF W 14 ((W.1 14) + 100)) 14 (((W.1 14) + 100) + 1)) ++ (wTown g a h T ++ (wPres g p q P))) E (rVS E hZT hX (c_X6_ratedAs0 g x y (sF W 14 ((W.1 14) + 100)) rd dr pa vo ch im a h T p q P 0 r rfl (by omega) (by omega)) mw_X6_ratedAs ml_X6_249 dX6_ratedAs_35 (Nat.le_of_ble_eq_true rfl) ⟨(Nat.le_of_ble_eq_true rfl), (Nat.le_of_ble_eq_true rfl)⟩ rfl rfl (Nat.le_of_ble_eq_true rfl) 0 rfl rfl) (fs3 _ _) ?_
  refine z_goto E dX6_ratedAs_38 46 (by decide) ?_
  refine z_istore (lv' := [(0, .ref x), (1, .int (nI 2)), (2, .int (nI r)), (3, .int (nI 0)), (4, .int (nI ((T.2 8) r + (P.2 5) r)))]) E dX6_ratedAs_46 (by decide) rfl ?_
  refine z_iload_n E dX6_ratedAs_48 1 rfl rfl ?_
  refine z_tabIn (off := 48) E dX6_ratedAs_49 97 (by decide) (by decide) (by decide) (by decide) ?_
  refine z_iload E dX6_ratedAs_97 4 rfl ?_
  refine z_aload_n E dX6_ratedAs_99 0 rfl rfl ?_
  refine gt_X6_29 (v := .ref p) E dX6_ratedAs_100 0 rfl rfl ?_
  refine gt_X6_145 (v := .int (nI (P.1 4))) E dX6_ratedAs_103 11 rfl rfl ?_
  refine z_se E (rS E hX (c_J6_bitCount_0f7a4 g (P.1 4) hs4) mw_J6_bitCount_0f7a4 ms_J6_bitCount_0f7a4 ml_X6_167 dX6_ratedAs_106 (Nat.le_of_ble_eq_true rfl) ⟨(Nat.le_of_ble_eq_true rfl), (Nat.le_of_ble_eq_true rfl)⟩ rfl rfl (Nat.le_of_ble_eq_true rfl)) ?_
  refine z_isub E dX6_ratedAs_109 ?_
  refine z_iret E Er dX6_ratedAs_110 ?_
  exact ⟨rfl, congrArg (fun q_ => wTV g x y rd a dr p pa vo ch im q_ ++ (wTown g a h T ++ (wPres g p q P))) ((sF_twice W 14 _ _).trans (congrArg (sF W 14) (Nat.add_assoc _ _ _)))⟩

set_option maxHeartbeats 4000000 in
set_option maxRecDepth 100000 in
theorem c_X6_ratedAs3 (g : GC) (x : Nat) (y : Nat → Nat) (W : NS) (rd : Nat) (dr : Nat) (pa : Nat) (vo : Nat) (ch : Nat) (im : Nat → Nat) (a : Nat) (h : Nat → Nat) (T : NS) (p : Nat) (q : Nat → Nat) (P : NS) (k : Nat) (r : Nat) (hk : k = 3) (hr : r < 12) (hs4 : P.1 4 < 4096) : CtS g yX6_ratedAs cX6_ratedAs 5 (some .int) 3 0 0 [.ref x, .int (nI k), .int (nI r)] (wTV g x y rd a dr p pa vo ch im W ++ (wTown g a h T ++ (wPres g p q P))) (DI (nI (2 * (T.2 8 r + P.2 5 r + P.2 5 r))) (wTV g x y rd a dr p pa vo ch im (sF W 14 (W.1 14 + 1011)) ++ (wTown g a h T ++ (wPres g p q P)))) := by
  refine CtS.of (by decide) (Nat.le_of_ble_eq_true rfl) ?_
  intro X E Er hX _ hnm hZT
  obtain ⟨t1, t2, hZ1, hA1, hZ2, hA2⟩ := id hZT
  have E : Ob g X cX6_ratedAs 5 RX6 := E
  refine z_lve (lv' := [(0, .ref x), (1, .int (nI k)), (2, .int (nI r))]) rfl ?_
  subst hk
  refine z_aload_n E dX6_ratedAs_0 0 rfl rfl ?_
  refine z_dup E dX6_ratedAs_1 rfl ?_
  refine gt_X6_267 (v := .long (lN (W.1 14))) E dX6_ratedAs_2 0 rfl rfl ?_
  refine z_gets E hZ2 kst_288 dX6_ratedAs_5 ?_
  refine z_iload_n E dX6_ratedAs_8 1 rfl rfl ?_
  refine z_tldN (i := 3) (v := nI 1000) E hA2 dX6_ratedAs_9 (by decide) (by decide) rfl ?_
  refine z_i2l (v := lN 1000) E dX6_ratedAs_10 (nI_l (by decide)) ?_
  refine z_laddN E dX6_ratedAs_11 ?_
  refine pt_X6_267 (x := lN ((W.1 14) + 1000)) (ws' := wTV g x y rd a dr p pa vo ch im (sF W 14 ((W.1 14) + 1000)) ++ (wTown g a h T ++ (wPres g p q P))) E dX6_ratedAs_12 0 rfl (Nat.le_of_ble_eq_true rfl) rfl ?_
  refine z_gets E hZ1 kst_291 dX6_ratedAs_15 ?_
  refine z_iload_n E dX6_ratedAs_18 1 rfl rfl ?_
  refine z_tldN (i := 3) (v := nI 1) E hA1 dX6_ratedAs_19 (by decide) (by decide) rfl ?_
  refine z_istore_n (lv' := [(0, .ref x), (1, .int (nI 3)), (2, .int (nI r)), (3, .int (nI 1))]) E dX6_ratedAs_20 3 rfl (by decide) rfl ?_
  refine z_iload_n E dX6_ratedAs_21 3 rfl rfl ?_
  refine z_iconst (v := (nI 0)) E dX6_ratedAs_22 (by decide) ?_
  refine z_iload_n E dX6_ratedAs_23 1 rfl rfl ?_
  refine z_iconst (v := (nI 1)) E dX6_ratedAs_24 (by decide) ?_
  refine z_isubN E dX6_ratedAs_25 (by omega) ?_
  refine z_se E (rS E hX (c_X6_isWithin g (nI 1) (nI 0) (nI (3 - 1))) mw_X6_isWithin ms_X6_isWithin ml_X6_80 dX6_ratedAs_26 (Nat.le_of_ble_eq_true rfl) ⟨(Nat.le_of_ble_eq_true rfl), (Nat.le_of_ble_eq_true rfl)⟩ rfl rfl (Nat.le_of_ble_eq_true rfl)) ?_
  refine z_ifB_eq E dX6_ratedAs_29 41 (by decide) (fun h => absurd h (by decide)) (fun _ => ?_)
  refine z_aload_n E dX6_ratedAs_32 0 rfl rfl ?_
  refine z_iload_n E dX6_ratedAs_33 3 rfl rfl ?_
  refine z_iload_n E dX6_ratedAs_34 2 rfl rfl ?_
  refine z_rw0S (w2 := wTV g x y rd a dr p pa vo ch im (sF (sF W 14 ((W.1 14) + 1000)) 14 (((W.1 14) + 1000) + 11)) ++ (wTown g a h T ++ (wPres g p q P))) E (rVS E hZT hX (c_X6_ratedAs1 g x y (sF W 14 ((W.1 14) + 1000)) rd dr pa vo ch im a h T p q P 1 r rfl (by omega) (by omega)) mw_X6_ratedAs ml_X6_249 dX6_ratedAs_35 (Nat.le_of_ble_eq_true rfl) ⟨(Nat.le_of_ble_eq_true rfl), (Nat.le_of_ble_eq_true rfl)⟩ rfl rfl (Nat.le_of_ble_eq_true rfl) 0 rfl rfl) (fs3 _ _) ?_
  refine z_goto E dX6_ratedAs_38 46 (by decide) ?_
  refine z_istore (lv' := [(0, .ref x), (1, .int (nI 3)), (2, .int (nI r)), (3, .int (nI 1)), (4, .int (nI ((T.2 8) r + (P.2 5) r + (P.2 5) r)))]) E dX6_ratedAs_46 (by decide) rfl ?_
  refine z_iload_n E dX6_ratedAs_48 1 rfl rfl ?_
  refine z_tabIn (off := 62) E dX6_ratedAs_49 111 (by decide) (by decide) (by decide) (by decide) ?_
  refine z_iconst (v := (nI 2)) E dX6_ratedAs_111 (by decide) ?_
  refine z_iload E dX6_ratedAs_112 4 rfl ?_
  refine z_imulN E dX6_ratedAs_114 ?_
  refine z_iret E Er dX6_ratedAs_115 ?_
  exact ⟨rfl, congrArg (fun q_ => wTV g x y rd a dr p pa vo ch im q_ ++ (wTown g a h T ++ (wPres g p q P))) ((sF_twice W 14 _ _).trans (congrArg (sF W 14) (Nat.add_assoc _ _ _)))⟩

set_option maxHeartbeats 4000000 in
set_option maxRecDepth 100000 in
theorem c_X6_ratedAs4 (g : GC) (x : Nat) (y : Nat → Nat) (W : NS) (rd : Nat) (dr : Nat) (pa : Nat) (vo : Nat) (ch : Nat) (im : Nat → Nat) (a : Nat) (h : Nat → Nat) (T : NS) (p : Nat) (q : Nat → Nat) (P : NS) (k : Nat) (r : Nat) (hk : k = 4) (hr : r < 12) (hs4 : P.1 4 < 4096) : CtS g yX6_ratedAs cX6_ratedAs 5 (some .int) 3 0 0 [.ref x, .int (nI k), .int (nI r)] (wTV g x y rd a dr p pa vo ch im W ++ (wTown g a h T ++ (wPres g p q P))) (DI (nI (T.2 8 r + P.2 5 r) - nI (pc12 (P.1 4)) + nI r) (wTV g x y rd a dr p pa vo ch im (sF W 14 (W.1 14 + 10101)) ++ (wTown g a h T ++ (wPres g p q P)))) := by
  refine CtS.of (by decide) (Nat.le_of_ble_eq_true rfl) ?_
  intro X E Er hX _ hnm hZT
  obtain ⟨t1, t2, hZ1, hA1, hZ2, hA2⟩ := id hZT
  have E : Ob g X cX6_ratedAs 5 RX6 := E
  refine z_lve (lv' := [(0, .ref x), (1, .int (nI k)), (2, .int (nI r))]) rfl ?_
  subst hk
  refine z_aload_n E dX6_ratedAs_0 0 rfl rfl ?_
  refine z_dup E dX6_ratedAs_1 rfl ?_
  refine gt_X6_267 (v := .long (lN (W.1 14))) E dX6_ratedAs_2 0 rfl rfl ?_
  refine z_gets E hZ2 kst_288 dX6_ratedAs_5 ?_
  refine z_iload_n E dX6_ratedAs_8 1 rfl rfl ?_
  refine z_tldN (i := 4) (v := nI 10000) E hA2 dX6_ratedAs_9 (by decide) (by decide) rfl ?_
  refine z_i2l (v := lN 10000) E dX6_ratedAs_10 (nI_l (by decide)) ?_
  refine z_laddN E dX6_ratedAs_11 ?_
  refine pt_X6_267 (x := lN ((W.1 14) + 10000)) (ws' := wTV g x y rd a dr p pa vo ch im (sF W 14 ((W.1 14) + 10000)) ++ (wTown g a h T ++ (wPres g p q P))) E dX6_ratedAs_12 0 rfl (Nat.le_of_ble_eq_true rfl) rfl ?_
  refine z_gets E hZ1 kst_291 dX6_ratedAs_15 ?_
  refine z_iload_n E dX6_ratedAs_18 1 rfl rfl ?_
  refine z_tldN (i := 4) (v := nI 2) E hA1 dX6_ratedAs_19 (by decide) (by decide) rfl ?_
  refine z_istore_n (lv' := [(0, .ref x), (1, .int (nI 4)), (2, .int (nI r)), (3, .int (nI 2))]) E dX6_ratedAs_20 3 rfl (by decide) rfl ?_
  refine z_iload_n E dX6_ratedAs_21 3 rfl rfl ?_
  refine z_iconst (v := (nI 0)) E dX6_ratedAs_22 (by decide) ?_
  refine z_iload_n E dX6_ratedAs_23 1 rfl rfl ?_
  refine z_iconst (v := (nI 1)) E dX6_ratedAs_24 (by decide) ?_
  refine z_isubN E dX6_ratedAs_25 (by omega) ?_
  refine z_se E (rS E hX (c_X6_isWithin g (nI 2) (nI 0) (nI (4 - 1))) mw_X6_isWithin ms_X6_isWithin ml_X6_80 dX6_ratedAs_26 (Nat.le_of_ble_eq_true rfl) ⟨(Nat.le_of_ble_eq_true rfl), (Nat.le_of_ble_eq_true rfl)⟩ rfl rfl (Nat.le_of_ble_eq_true rfl)) ?_
  refine z_ifB_eq E dX6_ratedAs_29 41 (by decide) (fun h => absurd h (by decide)) (fun _ => ?_)
  refine z_aload_n E dX6_ratedAs_32 0 rfl rfl ?_
  refine z_iload_n E dX6_ratedAs_33 3 rfl rfl ?_
  refine z_iload_n E dX6_ratedAs_34 2 rfl rfl ?_
  refine z_rw0S (w2 := wTV g x y rd a dr p pa vo ch im (sF (sF W 14 ((W.1 14) + 10000)) 14 (((W.1 14) + 10000) + 101)) ++ (wTown g a h T ++ (wPres g p q P))) E (rVS E hZT hX (c_X6_ratedAs2 g x y (sF W 14 ((W.1 14) + 10000)) rd dr pa vo ch im a h T p q P 2 r rfl (by omega) (by omega)) mw_X6_ratedAs ml_X6_249 dX6_ratedAs_35 (Nat.le_of_ble_eq_true rfl) ⟨(Nat.le_of_ble_eq_true rfl), (Nat.le_of_ble_eq_true rfl)⟩ rfl rfl (Nat.le_of_ble_eq_true rfl) 0 rfl rfl) (fs3 _ _) ?_
  refine z_goto E dX6_ratedAs_38 46 (by decide) ?_
  refine z_istore (lv' := [(0, .ref x), (1, .int (nI 4)), (2, .int (nI r)), (3, .int (nI 2)), (4, .int (nI ((T.2 8) r + (P.2 5) r) - nI (pc12 ((P.1 4)))))]) E dX6_ratedAs_46 (by decide) rfl ?_
  refine z_iload_n E dX6_ratedAs_48 1 rfl rfl ?_
  refine z_tabIn (off := 67) E dX6_ratedAs_49 116 (by decide) (by decide) (by decide) (by decide) ?_
  refine z_iload E dX6_ratedAs_116 4 rfl ?_
  refine z_iload_n E dX6_ratedAs_118 2 rfl rfl ?_
  refine z_iadd E dX6_ratedAs_119 ?_
  refine z_iret E Er dX6_ratedAs_120 ?_
  exact ⟨rfl, congrArg (fun q_ => wTV g x y rd a dr p pa vo ch im q_ ++ (wTown g a h T ++ (wPres g p q P))) ((sF_twice W 14 _ _).trans (congrArg (sF W 14) (Nat.add_assoc _ _ _)))⟩

set_option maxHeartbeats 4000000 in
set_option maxRecDepth 100000 in
theorem c_X6_ratedAs5 (g : GC) (x : Nat) (y : Nat → Nat) (W : NS) (rd : Nat) (dr : Nat) (pa : Nat) (vo : Nat) (ch : Nat) (im : Nat → Nat) (a : Nat) (h : Nat → Nat) (T : NS) (p : Nat) (q : Nat → Nat) (P : NS) (k : Nat) (r : Nat) (hk : k = 5) (hr : r < 12) (hs4 : P.1 4 < 4096) : CtS g yX6_ratedAs cX6_ratedAs 5 (some .int) 2 0 0 [.ref x, .int (nI k), .int (nI r)] (wTV g x y rd a dr p pa vo ch im W ++ (wTown g a h T ++ (wPres g p q P))) (DI (nI (T.2 8 r + P.2 5 r + P.1 3)) (wTV g x y rd a dr p pa vo ch im (sF W 14 (W.1 14 + 100001)) ++ (wTown g a h T ++ (wPres g p q P)))) := by
  refine CtS.of (by decide) (Nat.le_of_ble_eq_true rfl) ?_
  intro X E Er hX _ hnm hZT
  obtain ⟨t1, t2, hZ1, hA1, hZ2, hA2⟩ := id hZT
  have E : Ob g X cX6_ratedAs 5 RX6 := E
  refine z_lve (lv' := [(0, .ref x), (1, .int (nI k)), (2, .int (nI r))]) rfl ?_
  subst hk
  refine z_aload_n E dX6_ratedAs_0 0 rfl rfl ?_
  refine z_dup E dX6_ratedAs_1 rfl ?_
  refine gt_X6_267 (v := .long (lN (W.1 14))) E dX6_ratedAs_2 0 rfl rfl ?_
  refine z_gets E hZ2 kst_288 dX6_ratedAs_5 ?_
  refine z_iload_n E dX6_ratedAs_8 1 rfl rfl ?_
  refine z_tldN (i := 5) (v := nI 100000) E hA2 dX6_ratedAs_9 (by decide) (by decide) rfl ?_
  refine z_i2l (v := lN 100000) E dX6_ratedAs_10 (nI_l (by decide)) ?_
  refine z_laddN E dX6_ratedAs_11 ?_
  refine pt_X6_267 (x := lN ((W.1 14) + 100000)) (ws' := wTV g x y rd a dr p pa vo ch im (sF W 14 ((W.1 14) + 100000)) ++ (wTown g a h T ++ (wPres g p q P))) E dX6_ratedAs_12 0 rfl (Nat.le_of_ble_eq_true rfl) rfl ?_
  refine z_gets E hZ1 kst_291 dX6_ratedAs_15 ?_
  refine z_iload_n E dX6_ratedAs_18 1 rfl rfl ?_
  refine z_tldN (i := 5) (v := nI 0) E hA1 dX6_ratedAs_19 (by decide) (by decide) rfl ?_
  refine z_istore_n (lv' := [(0, .ref x), (1, .int (nI 5)), (2, .int (nI r)), (3, .int (nI 0))]) E dX6_ratedAs_20 3 rfl (by decide) rfl ?_
  refine z_iload_n E dX6_ratedAs_21 3 rfl rfl ?_
  refine z_iconst (v := (nI 0)) E dX6_ratedAs_22 (by decide) ?_
  refine z_iload_n E dX6_ratedAs_23 1 rfl rfl ?_
  refine z_iconst (v := (nI 1)) E dX6_ratedAs_24 (by decide) ?_
  refine z_isubN E dX6_ratedAs_25 (by omega) ?_
  refine z_se E (rS E hX (c_X6_isWithin g (nI 0) (nI 0) (nI (5 - 1))) mw_X6_isWithin ms_X6_isWithin ml_X6_80 dX6_ratedAs_26 (Nat.le_of_ble_eq_true rfl) ⟨(Nat.le_of_ble_eq_true rfl), (Nat.le_of_ble_eq_true rfl)⟩ rfl rfl (Nat.le_of_ble_eq_true rfl)) ?_
  refine z_ifB_eq E dX6_ratedAs_29 41 (by decide) (fun h => absurd h (by decide)) (fun _ => ?_)
  refine z_aload_n E dX6_ratedAs_32 0 rfl rfl ?_
  refine z_iload_n E dX6_ratedAs_33 3 rfl rfl ?_
  refine z_iload_n E dX6_ratedAs_34 2 rfl rfl ?_
  refine z_rw0S (w2 := wTV g x y rd a dr p pa vo ch im (sF (sF W 14 ((W.1 14) + 100000)) 14 (((W.1 14) + 100000) + 1)) ++ (wTown g a h T ++ (wPres g p q P))) E (rVS E hZT hX (c_X6_ratedAs0 g x y (sF W 14 ((W.1 14) + 100000)) rd dr pa vo ch im a h T p q P 0 r rfl (by omega) (by omega)) mw_X6_ratedAs ml_X6_249 dX6_ratedAs_35 (Nat.le_of_ble_eq_true rfl) ⟨(Nat.le_of_ble_eq_true rfl), (Nat.le_of_ble_eq_true rfl)⟩ rfl rfl (Nat.le_of_ble_eq_true rfl) 0 rfl rfl) (fs3 _ _) ?_
  refine z_goto E dX6_ratedAs_38 46 (by decide) ?_
  refine z_istore (lv' := [(0, .ref x), (1, .int (nI 5)), (2, .int (nI r)), (3, .int (nI 0)), (4, .int (nI ((T.2 8) r + (P.2 5) r)))]) E dX6_ratedAs_46 (by decide) rfl ?_
  refine z_iload_n E dX6_ratedAs_48 1 rfl rfl ?_
  refine z_tabIn (off := 72) E dX6_ratedAs_49 121 (by decide) (by decide) (by decide) (by decide) ?_
  refine z_iload E dX6_ratedAs_121 4 rfl ?_
  refine z_aload_n E dX6_ratedAs_123 0 rfl rfl ?_
  refine gt_X6_29 (v := .ref p) E dX6_ratedAs_124 0 rfl rfl ?_
  refine gt_X6_142 (v := .int (nI (P.1 3))) E dX6_ratedAs_127 11 rfl rfl ?_
  refine z_iaddN E dX6_ratedAs_130 ?_
  refine z_iret E Er dX6_ratedAs_131 ?_
  exact ⟨rfl, congrArg (fun q_ => wTV g x y rd a dr p pa vo ch im q_ ++ (wTown g a h T ++ (wPres g p q P))) ((sF_twice W 14 _ _).trans (congrArg (sF W 14) (Nat.add_assoc _ _ _)))⟩

set_option maxHeartbeats 4000000 in
set_option maxRecDepth 100000 in
theorem c_X6_rate (g : GC) (x : Nat) (y : Nat → Nat) (W : NS) (rd : Nat) (dr : Nat) (pa : Nat) (vo : Nat) (ch : Nat) (im : Nat → Nat) (a : Nat) (h : Nat → Nat) (T : NS) (p : Nat) (q : Nat → Nat) (P : NS) (n : Int32) (r : Int32) (hT : tdI T) (hP : pnI T P) : CtS g yX6_rate cX6_rate 3 (some .int) 4 0 0 [.ref x, .int n, .int r] (wTV g x y rd a dr p pa vo ch im W ++ (wTown g a h T ++ (wPres g p q P))) (DI (rtV T P n r) (wTV g x y rd a dr p pa vo ch im (sF W 14 (W.1 14 + rtT T n r)) ++ (wTown g a h T ++ (wPres g p q P)))) := by
  refine CtS.of (by decide) (Nat.le_of_ble_eq_true rfl) ?_
  intro X E Er hX _ hnm hZT
  obtain ⟨t1, t2, hZ1, hA1, hZ2, hA2⟩ := id hZT
  have E : Ob g X cX6_rate 3 RX6 := E
  have hR := hT.2.2.1
  have hs4 := hP.s4 hT
  refine z_lve (lv' := [(0, .ref x), (1, .int n), (2, .int r)]) rfl ?_
  refine z_iload_n E dX6_rate_0 1 rfl rfl ?_
  refine z_iconst (v := (nI 0)) E dX6_rate_1 (by decide) ?_
  refine z_iconst (v := (nI 5)) E dX6_rate_2 (by decide) ?_
  refine z_se E (rS E hX (c_X6_isWithin g n (nI 0) (nI 5)) mw_X6_isWithin ms_X6_isWithin ml_X6_80 dX6_rate_3 (Nat.le_of_ble_eq_true rfl) ⟨(Nat.le_of_ble_eq_true rfl), (Nat.le_of_ble_eq_true rfl)⟩ rfl rfl (Nat.le_of_ble_eq_true rfl)) ?_
  refine z_ifB_eq E dX6_rate_6 20 (by decide) (fun c1 => ?_) (fun c1 => ?_)
  · refine z_ldc (v := (-1000000)) E dX6_rate_20 kc_X6_248 ?_
    refine z_iret E Er dX6_rate_22 ?_
    exact ⟨by rw [rtV, if_neg (show ¬ rtC T n r = true by unfold rtC; rw [c1]; simp)], by rw [rtT, if_neg (show ¬ rtC T n r = true by unfold rtC; rw [c1]; simp), Nat.add_zero, sF_none]⟩
  · refine z_aload_n E dX6_rate_9 0 rfl rfl ?_
    refine gt_X6_19 (v := .ref a) E dX6_rate_10 0 rfl rfl ?_
    refine z_iload_n E dX6_rate_13 2 rfl rfl ?_
    refine z_fro (ws := wTV g x y rd a dr p pa vo ch im W ++ (wTown g a h T ++ (wPres g p q P))) (cs := [wTV g x y rd a dr p pa vo ch im W, wTown g a h T, wPres g p q P]) (ds := [wTown g a h T]) (rs := [wTV g x y rd a dr p pa vo ch im W, wPres g p q P]) E [1] rfl rfl (rV E hX (c_X4_hasRoad g a h T r) mw_X4_hasRoad ml_X6_102 dX6_rate_14 (Nat.le_of_ble_eq_true rfl) ⟨(Nat.le_of_ble_eq_true rfl), (Nat.le_of_ble_eq_true rfl)⟩ rfl rfl (Nat.le_of_ble_eq_true rfl) 0 rfl rfl) ?_
    refine z_ifB_ne E dX6_rate_17 23 (by decide) (fun c2 => ?_) (fun c2 => ?_)
    · obtain ⟨j2, hj2, rfl⟩ := hasR_nI (hT.1.1 1) c2
      obtain ⟨n2, -, hn2, rfl⟩ := wi_nI (by decide) (by decide) c1
      rcases (show n2 = 0 ∨ n2 = 1 ∨ n2 = 2 ∨ n2 = 3 ∨ n2 = 4 ∨ n2 = 5 by omega) with rfl | rfl | rfl | rfl | rfl | rfl
      · refine z_aload_n E dX6_rate_23 0 rfl rfl ?_
        refine z_iload_n E dX6_rate_24 1 rfl rfl ?_
        refine z_iload_n E dX6_rate_25 2 rfl rfl ?_
        refine z_rw0S (w2 := wTV g x y rd a dr p pa vo ch im (sF W 14 ((W.1 14) + 1)) ++ (wTown g a h T ++ (wPres g p q P))) E (rVS E hZT hX (c_X6_ratedAs0 g x y W rd dr pa vo ch im a h T p q P 0 j2 rfl (by omega) (by omega)) mw_X6_ratedAs ml_X6_249 dX6_rate_26 (Nat.le_of_ble_eq_true rfl) ⟨(Nat.le_of_ble_eq_true rfl), (Nat.le_of_ble_eq_true rfl)⟩ rfl rfl (Nat.le_of_ble_eq_true rfl) 0 rfl rfl) (fs3 _ _) ?_
        refine z_iret E Er dX6_rate_29 ?_
        exact ⟨by rw [rtV, if_pos (show rtC T (nI 0) (nI j2) = true by unfold rtC; rw [c1, c2]; rfl), nI_clamp (by omega)]; unfold rtF; rw [swF_k 0 (Nat.le_of_ble_eq_true rfl) (by decide)]; rfl, by rw [rtT, if_pos (show rtC T (nI 0) (nI j2) = true by unfold rtC; rw [c1, c2]; rfl)]; rfl⟩
      · refine z_aload_n E dX6_rate_23 0 rfl rfl ?_
        refine z_iload_n E dX6_rate_24 1 rfl rfl ?_
        refine z_iload_n E dX6_rate_25 2 rfl rfl ?_
        refine z_rw0S (w2 := wTV g x y rd a dr p pa vo ch im (sF W 14 ((W.1 14) + 11)) ++ (wTown g a h T ++ (wPres g p q P))) E (rVS E hZT hX (c_X6_ratedAs1 g x y W rd dr pa vo ch im a h T p q P 1 j2 rfl (by omega) (by omega)) mw_X6_ratedAs ml_X6_249 dX6_rate_26 (Nat.le_of_ble_eq_true rfl) ⟨(Nat.le_of_ble_eq_true rfl), (Nat.le_of_ble_eq_true rfl)⟩ rfl rfl (Nat.le_of_ble_eq_true rfl) 0 rfl rfl) (fs3 _ _) ?_
        refine z_iret E Er dX6_rate_29 ?_
        exact ⟨by rw [rtV, if_pos (show rtC T (nI 1) (nI j2) = true by unfold rtC; rw [c1, c2]; rfl), nI_clamp (by omega)]; unfold rtF; rw [swF_k 1 (Nat.le_of_ble_eq_true rfl) (by decide)]; rfl, by rw [rtT, if_pos (show rtC T (nI 1) (nI j2) = true by unfold rtC; rw [c1, c2]; rfl)]; rfl⟩
      · refine z_aload_n E dX6_rate_23 0 rfl rfl ?_
        refine z_iload_n E dX6_rate_24 1 rfl rfl ?_
        refine z_iload_n E dX6_rate_25 2 rfl rfl ?_
        refine z_rw0S (w2 := wTV g x y rd a dr p pa vo ch im (sF W 14 ((W.1 14) + 101)) ++ (wTown g a h T ++ (wPres g p q P))) E (rVS E hZT hX (c_X6_ratedAs2 g x y W rd dr pa vo ch im a h T p q P 2 j2 rfl (by omega) (by omega)) mw_X6_ratedAs ml_X6_249 dX6_rate_26 (Nat.le_of_ble_eq_true rfl) ⟨(Nat.le_of_ble_eq_true rfl), (Nat.le_of_ble_eq_true rfl)⟩ rfl rfl (Nat.le_of_ble_eq_true rfl) 0 rfl rfl) (fs3 _ _) ?_
        refine z_iret E Er dX6_rate_29 ?_
        exact ⟨by rw [rtV, if_pos (show rtC T (nI 2) (nI j2) = true by unfold rtC; rw [c1, c2]; rfl), nI_clamp (by omega)]; unfold rtF; rw [swF_k 2 (Nat.le_of_ble_eq_true rfl) (by decide)]; rfl, by rw [rtT, if_pos (show rtC T (nI 2) (nI j2) = true by unfold rtC; rw [c1, c2]; rfl)]; rfl⟩
      · refine z_aload_n E dX6_rate_23 0 rfl rfl ?_
        refine z_iload_n E dX6_rate_24 1 rfl rfl ?_
        refine z_iload_n E dX6_rate_25 2 rfl rfl ?_
        refine z_rw0S (w2 := wTV g x y rd a dr p pa vo ch im (sF W 14 ((W.1 14) + 1011)) ++ (wTown g a h T ++ (wPres g p q P))) E (rVS E hZT hX (c_X6_ratedAs3 g x y W rd dr pa vo ch im a h T p q P 3 j2 rfl (by omega) (by omega)) mw_X6_ratedAs ml_X6_249 dX6_rate_26 (Nat.le_of_ble_eq_true rfl) ⟨(Nat.le_of_ble_eq_true rfl), (Nat.le_of_ble_eq_true rfl)⟩ rfl rfl (Nat.le_of_ble_eq_true rfl) 0 rfl rfl) (fs3 _ _) ?_
        refine z_iret E Er dX6_rate_29 ?_
        exact ⟨by rw [rtV, if_pos (show rtC T (nI 3) (nI j2) = true by unfold rtC; rw [c1, c2]; rfl), nI_clamp (by omega)]; unfold rtF; rw [swF_k 3 (Nat.le_of_ble_eq_true rfl) (by decide)]; rfl, by rw [rtT, if_pos (show rtC T (nI 3) (nI j2) = true by unfold rtC; rw [c1, c2]; rfl)]; rfl⟩
      · refine z_aload_n E dX6_rate_23 0 rfl rfl ?_
        refine z_iload_n E dX6_rate_24 1 rfl rfl ?_
        refine z_iload_n E dX6_rate_25 2 rfl rfl ?_
        refine z_rw0S (w2 := wTV g x y rd a dr p pa vo ch im (sF W 14 ((W.1 14) + 10101)) ++ (wTown g a h T ++ (wPres g p q P))) E (rVS E hZT hX (c_X6_ratedAs4 g x y W rd dr pa vo ch im a h T p q P 4 j2 rfl (by omega) (by omega)) mw_X6_ratedAs ml_X6_249 dX6_rate_26 (Nat.le_of_ble_eq_true rfl) ⟨(Nat.le_of_ble_eq_true rfl), (Nat.le_of_ble_eq_true rfl)⟩ rfl rfl (Nat.le_of_ble_eq_true rfl) 0 rfl rfl) (fs3 _ _) ?_
        refine z_iret E Er dX6_rate_29 ?_
        exact ⟨by rw [rtV, if_pos (show rtC T (nI 4) (nI j2) = true by unfold rtC; rw [c1, c2]; rfl), nI_clamp (by omega)]; unfold rtF; rw [swF_k 4 (Nat.le_of_ble_eq_true rfl) (by decide)]; rfl, by rw [rtT, if_pos (show rtC T (nI 4) (nI j2) = true by unfold rtC; rw [c1, c2]; rfl)]; rfl⟩
      · refine z_aload_n E dX6_rate_23 0 rfl rfl ?_
        refine z_iload_n E dX6_rate_24 1 rfl rfl ?_
        refine z_iload_n E dX6_rate_25 2 rfl rfl ?_
        refine z_rw0S (w2 := wTV g x y rd a dr p pa vo ch im (sF W 14 ((W.1 14) + 100001)) ++ (wTown g a h T ++ (wPres g p q P))) E (rVS E hZT hX (c_X6_ratedAs5 g x y W rd dr pa vo ch im a h T p q P 5 j2 rfl (by omega) (by omega)) mw_X6_ratedAs ml_X6_249 dX6_rate_26 (Nat.le_of_ble_eq_true rfl) ⟨(Nat.le_of_ble_eq_true rfl), (Nat.le_of_ble_eq_true rfl)⟩ rfl rfl (Nat.le_of_ble_eq_true rfl) 0 rfl rfl) (fs3 _ _) ?_
        refine z_iret E Er dX6_rate_29 ?_
        exact ⟨by rw [rtV, if_pos (show rtC T (nI 5) (nI j2) = true by unfold rtC; rw [c1, c2]; rfl), nI_clamp (by omega)]; unfold rtF; rw [swF_k 5 (Nat.le_of_ble_eq_true rfl) (by decide)]; rfl, by rw [rtT, if_pos (show rtC T (nI 5) (nI j2) = true by unfold rtC; rw [c1, c2]; rfl)]; rfl⟩
    · refine z_ldc (v := (-1000000)) E dX6_rate_20 kc_X6_248 ?_
      refine z_iret E Er dX6_rate_22 ?_
      exact ⟨by rw [rtV, if_neg (show ¬ rtC T n r = true by unfold rtC; rw [c2]; simp)], by rw [rtT, if_neg (show ¬ rtC T n r = true by unfold rtC; rw [c2]; simp), Nat.add_zero, sF_none]⟩
