set_option maxHeartbeats 4000000 in
set_option maxRecDepth 100000 in
theorem c_X6_takes (g : GC) (x : Nat) (y : Nat → Nat) (W : NS) (rd : Nat) (dr : Nat) (vo : Nat) (ch : Nat) (im : Nat → Nat) (a : Nat) (h : Nat → Nat) (T : NS) (p : Nat) (q : Nat → Nat) (P : NS) (pa : Nat) (hpa : Nat → Nat) (S : NS) (b : Nat → Nat) (j : Nat → Nat → Nat) (U : Nat → NS) (r : Int32) (hT : tdI T) (hP : pnI T P) (hS1 : S.1 1 < 10) (hS2 : S.1 2 ≤ 10) : Ct g yX6_takes cX6_takes 3 (some .int) 4 0 0 [.ref x, .int r] (wTV g x y rd a dr p pa vo ch im W ++ (wTown g a h T ++ (wPres g p q P ++ (wPast g pa hpa b j U S)))) (DI (if hasR T r = true then (if tkC T P r = true then nI (tkM T P r.toNatClampNeg) else -2) else -1) (wTV g x y rd a dr p pa vo ch im W ++ (wTown g a h T ++ (wPres g p q (if tkC T P r = true then tkP T P r.toNatClampNeg else P) ++ (wPast g pa hpa b j (if tkC T P r = true then va_up U (S.1 1) P else U) (if tkC T P r = true then rmS S else S)))))) := by
  refine Ct.of (by decide) (Nat.le_of_ble_eq_true rfl) ?_
  intro X E Er hX _ hnm
  have E : Ob g X cX6_takes 3 RX6 := E
  have hR := hT.2.2.1
  have hs4 := hP.s4 hT
  have hb := hT.2.1.2
  have hp0 := hP.2.1
  have hp1 := hP.2.2.1
  have hp2 := hP.2.2.2.1
  have hp3 := hP.2.2.2.2.1
  have hj := hP.2.2.2.2.2.2
  refine z_lve (lv' := [(0, .ref x), (1, .int r)]) rfl ?_
  refine z_aload_n E dX6_takes_0 0 rfl rfl ?_
  refine gt_X6_19 (v := .ref a) E dX6_takes_1 0 rfl rfl ?_
  refine z_iload_n E dX6_takes_4 1 rfl rfl ?_
  refine z_fro (ws := wTV g x y rd a dr p pa vo ch im W ++ (wTown g a h T ++ (wPres g p q P ++ (wPast g pa hpa b j U S)))) (cs := [wTV g x y rd a dr p pa vo ch im W, wTown g a h T, wPres g p q P, wPast g pa hpa b j U S]) (ds := [wTown g a h T]) (rs := [wTV g x y rd a dr p pa vo ch im W, wPres g p q P, wPast g pa hpa b j U S]) E [1] rfl rfl (rV E hX (c_X4_hasRoad g a h T r) mw_X4_hasRoad ml_X6_102 dX6_takes_5 (Nat.le_of_ble_eq_true rfl) ⟨(Nat.le_of_ble_eq_true rfl), (Nat.le_of_ble_eq_true rfl)⟩ rfl rfl (Nat.le_of_ble_eq_true rfl) 0 rfl rfl) ?_
  refine z_ifB_ne E dX6_takes_8 13 (by decide) (fun c1 => ?_) (fun c1 => ?_)
  · obtain ⟨j2, hj2, rfl⟩ := hasR_nI (hT.1.1 1) c1
    refine z_aload_n E dX6_takes_13 0 rfl rfl ?_
    refine z_iload_n E dX6_takes_14 1 rfl rfl ?_
    refine z_aload_n E dX6_takes_15 0 rfl rfl ?_
    refine gt_X6_29 (v := .ref p) E dX6_takes_16 0 rfl rfl ?_
    refine gt_X6_133 (v := .int (nI (P.1 0))) E dX6_takes_19 11 rfl rfl ?_
    refine z_fro (ws := wTV g x y rd a dr p pa vo ch im W ++ (wTown g a h T ++ (wPres g p q P ++ (wPast g pa hpa b j U S)))) (cs := [wTV g x y rd a dr p pa vo ch im W, wTown g a h T, wPres g p q P, wPast g pa hpa b j U S]) (ds := [wTV g x y rd a dr p pa vo ch im W, wTown g a h T, wPres g p q P]) (rs := [wPast g pa hpa b j U S]) E [0, 0, 0] rfl rfl (rV E hX (c_X6_canTake g x y W rd dr pa vo ch im a h T p q P j2 (P.1 0) (by assumption) (by omega) (by omega) (by omega)) mw_X6_canTake ml_X6_149 dX6_takes_22 (Nat.le_of_ble_eq_true rfl) ⟨(Nat.le_of_ble_eq_true rfl), (Nat.le_of_ble_eq_true rfl)⟩ rfl rfl (Nat.le_of_ble_eq_true rfl) 0 rfl rfl) ?_
    refine z_ifB_ne E dX6_takes_25 31 (by decide) (fun c2 => ?_) (fun c2 => ?_)
    · have e8 := hT.2.2.2.2.2.2.2.1 j2
      have e5 := hj j2
      have env := nvT_le T (P.1 1) j2
      have e4 := hT.2.2.2.2.2.1
      refine z_aload_n E dX6_takes_31 0 rfl rfl ?_
      refine z_aload_n E dX6_takes_32 0 rfl rfl ?_
      refine gt_X6_29 (v := .ref p) E dX6_takes_33 0 rfl rfl ?_
      refine gt_X6_136 (v := .int (cm (P.1 1))) E dX6_takes_36 11 rfl rfl ?_
      refine z_iload_n E dX6_takes_39 1 rfl rfl ?_
      refine z_fro (ws := wTV g x y rd a dr p pa vo ch im W ++ (wTown g a h T ++ (wPres g p q P ++ (wPast g pa hpa b j U S)))) (cs := [wTV g x y rd a dr p pa vo ch im W, wTown g a h T, wPres g p q P, wPast g pa hpa b j U S]) (ds := [wTV g x y rd a dr p pa vo ch im W, wTown g a h T, wPres g p q P]) (rs := [wPast g pa hpa b j U S]) E [0, 0, 0] rfl rfl (rV E hX (c_X6_minutesOfTaking g x y W rd dr pa vo ch im a h T p q P (P.1 1) j2 (by assumption) (by omega) (by omega)) mw_X6_minutesOfTaking ml_X6_153 dX6_takes_40 (Nat.le_of_ble_eq_true rfl) ⟨(Nat.le_of_ble_eq_true rfl), (Nat.le_of_ble_eq_true rfl)⟩ rfl rfl (Nat.le_of_ble_eq_true rfl) 0 rfl rfl) ?_
      refine z_istore_n (lv' := [(0, .ref x), (1, .int (nI j2)), (2, .int (nI ((T.2 8) j2 + (P.2 5) j2 + nvT T (P.1 1) j2)))]) E dX6_takes_43 2 rfl (by decide) rfl ?_
      refine z_aload_n E dX6_takes_44 0 rfl rfl ?_
      refine gt_X6_29 (v := .ref p) E dX6_takes_45 0 rfl rfl ?_
      refine gt_X6_139 (v := .int (nI (P.1 2))) E dX6_takes_48 11 rfl rfl ?_
      refine z_iload_n E dX6_takes_51 2 rfl rfl ?_
      refine z_iaddN E dX6_takes_52 ?_
      refine z_sipush (v := (nI 9999)) E dX6_takes_53 (by decide) ?_
      refine z_icmpN_le E dX6_takes_56 62 (by decide) (by omega) (by decide) (fun c3 => ?_) (fun c3 => ?_)
      · have hyes := tk_yes (by omega) c1 c2 c3
        refine z_aload_n E dX6_takes_62 0 rfl rfl ?_
        refine gt_X6_36 (v := .ref pa) E dX6_takes_63 0 rfl rfl ?_
        refine z_aload_n E dX6_takes_66 0 rfl rfl ?_
        refine gt_X6_29 (v := .ref p) E dX6_takes_67 0 rfl rfl ?_
        refine z_frwv (ws := wTV g x y rd a dr p pa vo ch im W ++ (wTown g a h T ++ (wPres g p q P ++ (wPast g pa hpa b j U S)))) (ws2 := wTV g x y rd a dr p pa vo ch im W ++ (wTown g a h T ++ (wPres g p q P ++ (wPast g pa hpa b j (va_up U ((S.1 1)) P) (sF (sF S 1 (nx10 ((S.1 1)))) 2 (min ((S.1 2) + 1) 10)))))) (cs := [wTV g x y rd a dr p pa vo ch im W, wTown g a h T, wPres g p q P, wPast g pa hpa b j U S]) (ds := [wPast g pa hpa b j U S, wPres g p q P]) (rs := [wTV g x y rd a dr p pa vo ch im W, wTown g a h T]) (ds2 := [wPast g pa hpa b j (va_up U ((S.1 1)) P) (sF (sF S 1 (nx10 ((S.1 1)))) 2 (min ((S.1 2) + 1) 10)), wPres g p q P]) (cs2 := [wTV g x y rd a dr p pa vo ch im W, wTown g a h T, wPres g p q P, wPast g pa hpa b j (va_up U ((S.1 1)) P) (sF (sF S 1 (nx10 ((S.1 1)))) 2 (min ((S.1 2) + 1) 10))]) E [3, 2] rfl rfl rfl rfl rfl (rV E hX (c_X1_remember g pa hpa S b j U p q P (by omega) (by omega)) mw_X1_remember ml_X6_157 dX6_takes_70 (Nat.le_of_ble_eq_true rfl) ⟨(Nat.le_of_ble_eq_true rfl), (Nat.le_of_ble_eq_true rfl)⟩ rfl rfl (Nat.le_of_ble_eq_true rfl) 0 rfl rfl) ?_
        refine z_aload_n E dX6_takes_73 0 rfl rfl ?_
        refine gt_X6_19 (v := .ref a) E dX6_takes_74 0 rfl rfl ?_
        refine z_aload_n E dX6_takes_77 0 rfl rfl ?_
        refine gt_X6_29 (v := .ref p) E dX6_takes_78 0 rfl rfl ?_
        refine gt_X6_136 (v := .int (cm (P.1 1))) E dX6_takes_81 11 rfl rfl ?_
        refine z_iload_n E dX6_takes_84 1 rfl rfl ?_
        refine z_fro (ws := wTV g x y rd a dr p pa vo ch im W ++ (wTown g a h T ++ (wPres g p q P ++ (wPast g pa hpa b j (va_up U ((S.1 1)) P) (sF (sF S 1 (nx10 ((S.1 1)))) 2 (min ((S.1 2) + 1) 10)))))) (cs := [wTV g x y rd a dr p pa vo ch im W, wTown g a h T, wPres g p q P, wPast g pa hpa b j (va_up U ((S.1 1)) P) (sF (sF S 1 (nx10 ((S.1 1)))) 2 (min ((S.1 2) + 1) 10))]) (ds := [wTown g a h T]) (rs := [wTV g x y rd a dr p pa vo ch im W, wPres g p q P, wPast g pa hpa b j (va_up U ((S.1 1)) P) (sF (sF S 1 (nx10 ((S.1 1)))) 2 (min ((S.1 2) + 1) 10))]) E [1] rfl rfl (rV E hX (c_X4_isTurn g a h T (P.1 1) j2 hT.1 (by omega) (by omega) (by omega)) mw_X4_isTurn ml_X6_161 dX6_takes_85 (Nat.le_of_ble_eq_true rfl) ⟨(Nat.le_of_ble_eq_true rfl), (Nat.le_of_ble_eq_true rfl)⟩ rfl rfl (Nat.le_of_ble_eq_true rfl) 0 rfl rfl) ?_
        refine z_ifB_eq E dX6_takes_88 104 (by decide) (fun c4 => ?_) (fun c4 => ?_)
        · refine z_aload_n E dX6_takes_104 0 rfl rfl ?_
          refine gt_X6_29 (v := .ref p) E dX6_takes_105 0 rfl rfl ?_
          refine z_dup E dX6_takes_108 rfl ?_
          refine gt_X6_139 (v := .int (nI (P.1 2))) E dX6_takes_109 11 rfl rfl ?_
          refine z_iload_n E dX6_takes_112 2 rfl rfl ?_
          refine z_iaddN E dX6_takes_113 ?_
          refine pt_X6_139 (x := nI ((P.1 2) + ((T.2 8) j2 + (P.2 5) j2 + nvT T (P.1 1) j2))) (ws' := wTV g x y rd a dr p pa vo ch im W ++ (wTown g a h T ++ (wPres g p q (sF P 2 ((P.1 2) + ((T.2 8) j2 + (P.2 5) j2 + nvT T (P.1 1) j2))) ++ (wPast g pa hpa b j (va_up U ((S.1 1)) P) (sF (sF S 1 (nx10 ((S.1 1)))) 2 (min ((S.1 2) + 1) 10)))))) E dX6_takes_114 11 rfl (Nat.le_of_ble_eq_true rfl) rfl ?_
          refine z_aload_n E dX6_takes_117 0 rfl rfl ?_
          refine gt_X6_29 (v := .ref p) E dX6_takes_118 0 rfl rfl ?_
          refine z_aload_n E dX6_takes_121 0 rfl rfl ?_
          refine gt_X6_19 (v := .ref a) E dX6_takes_122 0 rfl rfl ?_
          refine z_iload_n E dX6_takes_125 1 rfl rfl ?_
          refine z_aload_n E dX6_takes_126 0 rfl rfl ?_
          refine gt_X6_29 (v := .ref p) E dX6_takes_127 0 rfl rfl ?_
          refine gt_X6_133 (v := .int (nI (P.1 0))) E dX6_takes_130 11 rfl rfl ?_
          refine z_fro (ws := wTV g x y rd a dr p pa vo ch im W ++ (wTown g a h T ++ (wPres g p q (sF P 2 ((P.1 2) + ((T.2 8) j2 + (P.2 5) j2 + nvT T (P.1 1) j2))) ++ (wPast g pa hpa b j (va_up U ((S.1 1)) P) (sF (sF S 1 (nx10 ((S.1 1)))) 2 (min ((S.1 2) + 1) 10)))))) (cs := [wTV g x y rd a dr p pa vo ch im W, wTown g a h T, wPres g p q (sF P 2 ((P.1 2) + ((T.2 8) j2 + (P.2 5) j2 + nvT T (P.1 1) j2))), wPast g pa hpa b j (va_up U ((S.1 1)) P) (sF (sF S 1 (nx10 ((S.1 1)))) 2 (min ((S.1 2) + 1) 10))]) (ds := [wTown g a h T]) (rs := [wTV g x y rd a dr p pa vo ch im W, wPres g p q (sF P 2 ((P.1 2) + ((T.2 8) j2 + (P.2 5) j2 + nvT T (P.1 1) j2))), wPast g pa hpa b j (va_up U ((S.1 1)) P) (sF (sF S 1 (nx10 ((S.1 1)))) 2 (min ((S.1 2) + 1) 10))]) E [1] rfl rfl (rV E hX (c_X4_otherEnd g a h T j2 (P.1 0) hT.1 (by omega) (by omega)) mw_X4_otherEnd ml_X6_164 dX6_takes_133 (Nat.le_of_ble_eq_true rfl) ⟨(Nat.le_of_ble_eq_true rfl), (Nat.le_of_ble_eq_true rfl)⟩ rfl rfl (Nat.le_of_ble_eq_true rfl) 0 rfl rfl) ?_
          refine pt_X6_133 (x := nI (otherT T j2 (P.1 0))) (ws' := wTV g x y rd a dr p pa vo ch im W ++ (wTown g a h T ++ (wPres g p q (sF (sF P 0 (otherT T j2 (P.1 0))) 2 ((P.1 2) + ((T.2 8) j2 + (P.2 5) j2 + nvT T (P.1 1) j2))) ++ (wPast g pa hpa b j (va_up U ((S.1 1)) P) (sF (sF S 1 (nx10 ((S.1 1)))) 2 (min ((S.1 2) + 1) 10)))))) E dX6_takes_136 11 rfl (Nat.le_of_ble_eq_true rfl) rfl ?_
          refine z_aload_n E dX6_takes_139 0 rfl rfl ?_
          refine gt_X6_29 (v := .ref p) E dX6_takes_140 0 rfl rfl ?_
          refine z_iload_n E dX6_takes_143 1 rfl rfl ?_
          refine pt_X6_136 (x := cm (j2 + 1)) (ws' := wTV g x y rd a dr p pa vo ch im W ++ (wTown g a h T ++ (wPres g p q (sF (sF (sF P 0 (otherT T j2 (P.1 0))) 1 (j2 + 1)) 2 ((P.1 2) + ((T.2 8) j2 + (P.2 5) j2 + nvT T (P.1 1) j2))) ++ (wPast g pa hpa b j (va_up U ((S.1 1)) P) (sF (sF S 1 (nx10 ((S.1 1)))) 2 (min ((S.1 2) + 1) 10)))))) E dX6_takes_144 11 rfl (Nat.le_of_ble_eq_true rfl) rfl ?_
          refine z_iload_n E dX6_takes_147 2 rfl rfl ?_
          refine z_iret E Er dX6_takes_148 ?_
          exact ⟨by rw [if_pos c1, if_pos hyes, nI_clamp (by omega)]; rfl, by rw [if_pos hyes, if_pos hyes, if_pos hyes, nI_clamp (by omega)]; unfold tkP; rw [if_neg (by rw [c4]; decide)]; rfl⟩
        · refine z_aload_n E dX6_takes_91 0 rfl rfl ?_
          refine gt_X6_29 (v := .ref p) E dX6_takes_92 0 rfl rfl ?_
          refine z_dup E dX6_takes_95 rfl ?_
          refine gt_X6_142 (v := .int (nI (P.1 3))) E dX6_takes_96 11 rfl rfl ?_
          refine z_iconst (v := (nI 1)) E dX6_takes_99 (by decide) ?_
          refine z_iaddN E dX6_takes_100 ?_
          refine pt_X6_142 (x := nI ((P.1 3) + 1)) (ws' := wTV g x y rd a dr p pa vo ch im W ++ (wTown g a h T ++ (wPres g p q (sF P 3 ((P.1 3) + 1)) ++ (wPast g pa hpa b j (va_up U ((S.1 1)) P) (sF (sF S 1 (nx10 ((S.1 1)))) 2 (min ((S.1 2) + 1) 10)))))) E dX6_takes_101 11 rfl (Nat.le_of_ble_eq_true rfl) rfl ?_
          refine z_aload_n E dX6_takes_104 0 rfl rfl ?_
          refine gt_X6_29 (v := .ref p) E dX6_takes_105 0 rfl rfl ?_
          refine z_dup E dX6_takes_108 rfl ?_
          refine gt_X6_139 (v := .int (nI (P.1 2))) E dX6_takes_109 11 rfl rfl ?_
          refine z_iload_n E dX6_takes_112 2 rfl rfl ?_
          refine z_iaddN E dX6_takes_113 ?_
          refine pt_X6_139 (x := nI ((P.1 2) + ((T.2 8) j2 + (P.2 5) j2 + nvT T (P.1 1) j2))) (ws' := wTV g x y rd a dr p pa vo ch im W ++ (wTown g a h T ++ (wPres g p q (sF (sF P 2 ((P.1 2) + ((T.2 8) j2 + (P.2 5) j2 + nvT T (P.1 1) j2))) 3 ((P.1 3) + 1)) ++ (wPast g pa hpa b j (va_up U ((S.1 1)) P) (sF (sF S 1 (nx10 ((S.1 1)))) 2 (min ((S.1 2) + 1) 10)))))) E dX6_takes_114 11 rfl (Nat.le_of_ble_eq_true rfl) rfl ?_
          refine z_aload_n E dX6_takes_117 0 rfl rfl ?_
          refine gt_X6_29 (v := .ref p) E dX6_takes_118 0 rfl rfl ?_
          refine z_aload_n E dX6_takes_121 0 rfl rfl ?_
          refine gt_X6_19 (v := .ref a) E dX6_takes_122 0 rfl rfl ?_
          refine z_iload_n E dX6_takes_125 1 rfl rfl ?_
          refine z_aload_n E dX6_takes_126 0 rfl rfl ?_
          refine gt_X6_29 (v := .ref p) E dX6_takes_127 0 rfl rfl ?_
          refine gt_X6_133 (v := .int (nI (P.1 0))) E dX6_takes_130 11 rfl rfl ?_
          refine z_fro (ws := wTV g x y rd a dr p pa vo ch im W ++ (wTown g a h T ++ (wPres g p q (sF (sF P 2 ((P.1 2) + ((T.2 8) j2 + (P.2 5) j2 + nvT T (P.1 1) j2))) 3 ((P.1 3) + 1)) ++ (wPast g pa hpa b j (va_up U ((S.1 1)) P) (sF (sF S 1 (nx10 ((S.1 1)))) 2 (min ((S.1 2) + 1) 10)))))) (cs := [wTV g x y rd a dr p pa vo ch im W, wTown g a h T, wPres g p q (sF (sF P 2 ((P.1 2) + ((T.2 8) j2 + (P.2 5) j2 + nvT T (P.1 1) j2))) 3 ((P.1 3) + 1)), wPast g pa hpa b j (va_up U ((S.1 1)) P) (sF (sF S 1 (nx10 ((S.1 1)))) 2 (min ((S.1 2) + 1) 10))]) (ds := [wTown g a h T]) (rs := [wTV g x y rd a dr p pa vo ch im W, wPres g p q (sF (sF P 2 ((P.1 2) + ((T.2 8) j2 + (P.2 5) j2 + nvT T (P.1 1) j2))) 3 ((P.1 3) + 1)), wPast g pa hpa b j (va_up U ((S.1 1)) P) (sF (sF S 1 (nx10 ((S.1 1)))) 2 (min ((S.1 2) + 1) 10))]) E [1] rfl rfl (rV E hX (c_X4_otherEnd g a h T j2 (P.1 0) hT.1 (by omega) (by omega)) mw_X4_otherEnd ml_X6_164 dX6_takes_133 (Nat.le_of_ble_eq_true rfl) ⟨(Nat.le_of_ble_eq_true rfl), (Nat.le_of_ble_eq_true rfl)⟩ rfl rfl (Nat.le_of_ble_eq_true rfl) 0 rfl rfl) ?_
          refine pt_X6_133 (x := nI (otherT T j2 (P.1 0))) (ws' := wTV g x y rd a dr p pa vo ch im W ++ (wTown g a h T ++ (wPres g p q (sF (sF (sF P 0 (otherT T j2 (P.1 0))) 2 ((P.1 2) + ((T.2 8) j2 + (P.2 5) j2 + nvT T (P.1 1) j2))) 3 ((P.1 3) + 1)) ++ (wPast g pa hpa b j (va_up U ((S.1 1)) P) (sF (sF S 1 (nx10 ((S.1 1)))) 2 (min ((S.1 2) + 1) 10)))))) E dX6_takes_136 11 rfl (Nat.le_of_ble_eq_true rfl) rfl ?_
          refine z_aload_n E dX6_takes_139 0 rfl rfl ?_
          refine gt_X6_29 (v := .ref p) E dX6_takes_140 0 rfl rfl ?_
          refine z_iload_n E dX6_takes_143 1 rfl rfl ?_
          refine pt_X6_136 (x := cm (j2 + 1)) (ws' := wTV g x y rd a dr p pa vo ch im W ++ (wTown g a h T ++ (wPres g p q (sF (sF (sF (sF P 0 (otherT T j2 (P.1 0))) 1 (j2 + 1)) 2 ((P.1 2) + ((T.2 8) j2 + (P.2 5) j2 + nvT T (P.1 1) j2))) 3 ((P.1 3) + 1)) ++ (wPast g pa hpa b j (va_up U ((S.1 1)) P) (sF (sF S 1 (nx10 ((S.1 1)))) 2 (min ((S.1 2) + 1) 10)))))) E dX6_takes_144 11 rfl (Nat.le_of_ble_eq_true rfl) rfl ?_
          refine z_iload_n E dX6_takes_147 2 rfl rfl ?_
          refine z_iret E Er dX6_takes_148 ?_
          exact ⟨by rw [if_pos c1, if_pos hyes, nI_clamp (by omega)]; rfl, by rw [if_pos hyes, if_pos hyes, if_pos hyes, nI_clamp (by omega)]; unfold tkP; rw [if_pos c4]; rfl⟩
      · refine z_bipush (v := (-2)) E dX6_takes_59 (by decide) ?_
        refine z_iret E Er dX6_takes_61 ?_
        exact ⟨by rw [if_pos c1, if_neg (tk_no2 (by omega) c3)], by rw [if_neg (tk_no2 (by omega) c3), if_neg (tk_no2 (by omega) c3), if_neg (tk_no2 (by omega) c3)]⟩
    · refine z_bipush (v := (-2)) E dX6_takes_28 (by decide) ?_
      refine z_iret E Er dX6_takes_30 ?_
      exact ⟨by rw [if_pos c1, if_neg (tk_no1 (by omega) c2)], by rw [if_neg (tk_no1 (by omega) c2), if_neg (tk_no1 (by omega) c2), if_neg (tk_no1 (by omega) c2)]⟩
  · refine z_iconst (v := (-1)) E dX6_takes_11 (by decide) ?_
    refine z_iret E Er dX6_takes_12 ?_
    exact ⟨by rw [if_neg (show ¬ hasR T r = true by rw [c1]; decide)], by rw [if_neg (tk_no0 c1), if_neg (tk_no0 c1), if_neg (tk_no0 c1)]⟩

set_option maxHeartbeats 4000000 in
set_option maxRecDepth 100000 in
theorem c_X6_jams (g : GC) (x : Nat) (y : Nat → Nat) (W : NS) (rd : Nat) (dr : Nat) (vo : Nat) (ch : Nat) (im : Nat → Nat) (a : Nat) (h : Nat → Nat) (T : NS) (p : Nat) (q : Nat → Nat) (P : NS) (pa : Nat) (hpa : Nat → Nat) (S : NS) (b : Nat → Nat) (j : Nat → Nat → Nat) (U : Nat → NS) (r : Int32) (n : Int32) (hT : tdI T) (hP : pnI T P) (hS1 : S.1 1 < 10) (hS2 : S.1 2 ≤ 10) : Ct g yX6_jams cX6_jams 4 (some .int) 3 0 0 [.ref x, .int r, .int n] (wTV g x y rd a dr p pa vo ch im W ++ (wTown g a h T ++ (wPres g p q P ++ (wPast g pa hpa b j U S)))) (DI (if (hasR T r && wi n (nI 0) (nI 60)) = true then nI (P.2 5 r.toNatClampNeg) else -1) (wTV g x y rd a dr p pa vo ch im W ++ (wTown g a h T ++ (wPres g p q (if (hasR T r && wi n (nI 0) (nI 60)) = true then sA P 5 (va_up (P.2 5) r.toNatClampNeg n.toNatClampNeg) else P) ++ (wPast g pa hpa b j (if (hasR T r && wi n (nI 0) (nI 60)) = true then va_up U (S.1 1) P else U) (if (hasR T r && wi n (nI 0) (nI 60)) = true then rmS S else S)))))) := by
  refine Ct.of (by decide) (Nat.le_of_ble_eq_true rfl) ?_
  intro X E Er hX _ hnm
  have E : Ob g X cX6_jams 4 RX6 := E
  have hR := hT.2.2.1
  have hs4 := hP.s4 hT
  have hb := hT.2.1.2
  have hp0 := hP.2.1
  have hp1 := hP.2.2.1
  have hp2 := hP.2.2.2.1
  have hp3 := hP.2.2.2.2.1
  have hj := hP.2.2.2.2.2.2
  refine z_lve (lv' := [(0, .ref x), (1, .int r), (2, .int n)]) rfl ?_
  refine z_aload_n E dX6_jams_0 0 rfl rfl ?_
  refine gt_X6_19 (v := .ref a) E dX6_jams_1 0 rfl rfl ?_
  refine z_iload_n E dX6_jams_4 1 rfl rfl ?_
  refine z_fro (ws := wTV g x y rd a dr p pa vo ch im W ++ (wTown g a h T ++ (wPres g p q P ++ (wPast g pa hpa b j U S)))) (cs := [wTV g x y rd a dr p pa vo ch im W, wTown g a h T, wPres g p q P, wPast g pa hpa b j U S]) (ds := [wTown g a h T]) (rs := [wTV g x y rd a dr p pa vo ch im W, wPres g p q P, wPast g pa hpa b j U S]) E [1] rfl rfl (rV E hX (c_X4_hasRoad g a h T r) mw_X4_hasRoad ml_X6_102 dX6_jams_5 (Nat.le_of_ble_eq_true rfl) ⟨(Nat.le_of_ble_eq_true rfl), (Nat.le_of_ble_eq_true rfl)⟩ rfl rfl (Nat.le_of_ble_eq_true rfl) 0 rfl rfl) ?_
  refine z_ifB_eq E dX6_jams_8 21 (by decide) (fun c1 => ?_) (fun c1 => ?_)
  · refine z_iconst (v := (-1)) E dX6_jams_21 (by decide) ?_
    refine z_iret E Er dX6_jams_22 ?_
    exact ⟨by rw [if_neg (show ¬ (hasR T r && wi n (nI 0) (nI 60)) = true by rw [c1]; simp)], by rw [if_neg (show ¬ (hasR T r && wi n (nI 0) (nI 60)) = true by rw [c1]; simp), if_neg (show ¬ (hasR T r && wi n (nI 0) (nI 60)) = true by rw [c1]; simp), if_neg (show ¬ (hasR T r && wi n (nI 0) (nI 60)) = true by rw [c1]; simp)]⟩
  · obtain ⟨j2, hj2, rfl⟩ := hasR_nI (hT.1.1 1) c1
    refine z_iload_n E dX6_jams_11 2 rfl rfl ?_
    refine z_iconst (v := (nI 0)) E dX6_jams_12 (by decide) ?_
    refine z_bipush (v := (nI 60)) E dX6_jams_13 (by decide) ?_
    refine z_se E (rS E hX (c_X6_isWithin g n (nI 0) (nI 60)) mw_X6_isWithin ms_X6_isWithin ml_X6_80 dX6_jams_15 (Nat.le_of_ble_eq_true rfl) ⟨(Nat.le_of_ble_eq_true rfl), (Nat.le_of_ble_eq_true rfl)⟩ rfl rfl (Nat.le_of_ble_eq_true rfl)) ?_
    refine z_ifB_ne E dX6_jams_18 23 (by decide) (fun c2 => ?_) (fun c2 => ?_)
    · obtain ⟨n2, -, hn2, rfl⟩ := wi_nI (by decide) (by decide) c2
      refine z_aload_n E dX6_jams_23 0 rfl rfl ?_
      refine gt_X6_36 (v := .ref pa) E dX6_jams_24 0 rfl rfl ?_
      refine z_aload_n E dX6_jams_27 0 rfl rfl ?_
      refine gt_X6_29 (v := .ref p) E dX6_jams_28 0 rfl rfl ?_
      refine z_frwv (ws := wTV g x y rd a dr p pa vo ch im W ++ (wTown g a h T ++ (wPres g p q P ++ (wPast g pa hpa b j U S)))) (ws2 := wTV g x y rd a dr p pa vo ch im W ++ (wTown g a h T ++ (wPres g p q P ++ (wPast g pa hpa b j (va_up U ((S.1 1)) P) (sF (sF S 1 (nx10 ((S.1 1)))) 2 (min ((S.1 2) + 1) 10)))))) (cs := [wTV g x y rd a dr p pa vo ch im W, wTown g a h T, wPres g p q P, wPast g pa hpa b j U S]) (ds := [wPast g pa hpa b j U S, wPres g p q P]) (rs := [wTV g x y rd a dr p pa vo ch im W, wTown g a h T]) (ds2 := [wPast g pa hpa b j (va_up U ((S.1 1)) P) (sF (sF S 1 (nx10 ((S.1 1)))) 2 (min ((S.1 2) + 1) 10)), wPres g p q P]) (cs2 := [wTV g x y rd a dr p pa vo ch im W, wTown g a h T, wPres g p q P, wPast g pa hpa b j (va_up U ((S.1 1)) P) (sF (sF S 1 (nx10 ((S.1 1)))) 2 (min ((S.1 2) + 1) 10))]) E [3, 2] rfl rfl rfl rfl rfl (rV E hX (c_X1_remember g pa hpa S b j U p q P (by omega) (by omega)) mw_X1_remember ml_X6_157 dX6_jams_31 (Nat.le_of_ble_eq_true rfl) ⟨(Nat.le_of_ble_eq_true rfl), (Nat.le_of_ble_eq_true rfl)⟩ rfl rfl (Nat.le_of_ble_eq_true rfl) 0 rfl rfl) ?_
      refine z_aload_n E dX6_jams_34 0 rfl rfl ?_
      refine gt_X6_29 (v := .ref p) E dX6_jams_35 0 rfl rfl ?_
      refine gt_X6_115 (v := .ref (q 5)) E dX6_jams_38 11 rfl rfl ?_
      refine z_iload_n E dX6_jams_41 1 rfl rfl ?_
      refine z_ialdN (f := (P.2 5)) E dX6_jams_42 12 rfl (by omega) (by decide) ?_
      refine z_istore_n (lv' := [(0, .ref x), (1, .int (nI j2)), (2, .int (nI n2)), (3, .int (nI ((P.2 5) j2)))]) E dX6_jams_43 3 rfl (by decide) rfl ?_
      refine z_aload_n E dX6_jams_44 0 rfl rfl ?_
      refine gt_X6_29 (v := .ref p) E dX6_jams_45 0 rfl rfl ?_
      refine gt_X6_115 (v := .ref (q 5)) E dX6_jams_48 11 rfl rfl ?_
      refine z_iload_n E dX6_jams_51 1 rfl rfl ?_
      refine z_iload_n E dX6_jams_52 2 rfl rfl ?_
      refine z_iastN (f := (P.2 5)) (i := j2) (x := n2) (ws' := wTV g x y rd a dr p pa vo ch im W ++ (wTown g a h T ++ (wPres g p q (sA P 5 (va_up (P.2 5) j2 n2)) ++ (wPast g pa hpa b j (va_up U ((S.1 1)) P) (sF (sF S 1 (nx10 ((S.1 1)))) 2 (min ((S.1 2) + 1) 10)))))) E dX6_jams_53 12 rfl (by omega) (by decide) rfl ?_
      refine z_iload_n E dX6_jams_54 3 rfl rfl ?_
      refine z_iret E Er dX6_jams_55 ?_
      exact ⟨by rw [if_pos (show (hasR T (nI j2) && wi (nI n2) (nI 0) (nI 60)) = true by rw [c1, c2]; rfl), nI_clamp (by omega)], by rw [if_pos (show (hasR T (nI j2) && wi (nI n2) (nI 0) (nI 60)) = true by rw [c1, c2]; rfl), if_pos (show (hasR T (nI j2) && wi (nI n2) (nI 0) (nI 60)) = true by rw [c1, c2]; rfl), if_pos (show (hasR T (nI j2) && wi (nI n2) (nI 0) (nI 60)) = true by rw [c1, c2]; rfl), nI_clamp (by omega), nI_clamp (by omega)]; rfl⟩
    · refine z_iconst (v := (-1)) E dX6_jams_21 (by decide) ?_
      refine z_iret E Er dX6_jams_22 ?_
      exact ⟨by rw [if_neg (show ¬ (hasR T (nI j2) && wi n (nI 0) (nI 60)) = true by rw [c2]; simp)], by rw [if_neg (show ¬ (hasR T (nI j2) && wi n (nI 0) (nI 60)) = true by rw [c2]; simp), if_neg (show ¬ (hasR T (nI j2) && wi n (nI 0) (nI 60)) = true by rw [c2]; simp), if_neg (show ¬ (hasR T (nI j2) && wi n (nI 0) (nI 60)) = true by rw [c2]; simp)]⟩

set_option maxHeartbeats 4000000 in
set_option maxRecDepth 100000 in
theorem c_X6_undo (g : GC) (x : Nat) (y : Nat → Nat) (W : NS) (rd : Nat) (a : Nat) (dr : Nat) (vo : Nat) (ch : Nat) (im : Nat → Nat) (p : Nat) (q : Nat → Nat) (P : NS) (pa : Nat) (hpa : Nat → Nat) (S : NS) (b : Nat → Nat) (j : Nat → Nat → Nat) (U : Nat → NS) (hS1 : S.1 1 < 10) (hS2 : S.1 2 ≤ 10) : Ct g yX6_undo cX6_undo 1 (some .int) 3 0 0 [.ref x] (wTV g x y rd a dr p pa vo ch im W ++ (wPres g p q P ++ (wPast g pa hpa b j U S))) (DI (if S.1 2 = 0 then -2 else nI (S.1 2 - 1)) (wTV g x y rd a dr p pa vo ch im W ++ (wPres g p q (if S.1 2 = 0 then P else U (pv10 (S.1 1))) ++ (wPast g pa hpa b j U (if S.1 2 = 0 then S else sF (sF S 1 (pv10 (S.1 1))) 2 (S.1 2 - 1)))))) := by
  refine Ct.of (by decide) (Nat.le_of_ble_eq_true rfl) ?_
  intro X E Er hX _ hnm
  have E : Ob g X cX6_undo 1 RX6 := E
  refine z_lve (lv' := [(0, .ref x)]) rfl ?_
  refine z_aload_n E dX6_undo_0 0 rfl rfl ?_
  refine gt_X6_36 (v := .ref pa) E dX6_undo_1 0 rfl rfl ?_
  refine z_aload_n E dX6_undo_4 0 rfl rfl ?_
  refine gt_X6_29 (v := .ref p) E dX6_undo_5 0 rfl rfl ?_
  refine z_frw (ws := wTV g x y rd a dr p pa vo ch im W ++ (wPres g p q P ++ (wPast g pa hpa b j U S))) (ws2 := wTV g x y rd a dr p pa vo ch im W ++ (wPres g p q (if (S.1 2) = 0 then P else U (pv10 ((S.1 1)))) ++ (wPast g pa hpa b j U (if (S.1 2) = 0 then S else sF (sF S 1 (pv10 ((S.1 1)))) 2 ((S.1 2) - 1))))) (cs := [wTV g x y rd a dr p pa vo ch im W, wPres g p q P, wPast g pa hpa b j U S]) (ds := [wPast g pa hpa b j U S, wPres g p q P]) (rs := [wTV g x y rd a dr p pa vo ch im W]) (ds2 := [wPast g pa hpa b j U (if (S.1 2) = 0 then S else sF (sF S 1 (pv10 ((S.1 1)))) 2 ((S.1 2) - 1)), wPres g p q (if (S.1 2) = 0 then P else U (pv10 ((S.1 1))))]) (cs2 := [wTV g x y rd a dr p pa vo ch im W, wPres g p q (if (S.1 2) = 0 then P else U (pv10 ((S.1 1)))), wPast g pa hpa b j U (if (S.1 2) = 0 then S else sF (sF S 1 (pv10 ((S.1 1)))) 2 ((S.1 2) - 1))]) E [2, 1] rfl rfl rfl rfl rfl (rV E hX (c_X1_restore g pa hpa S b j U p q P (by omega) (by omega)) mw_X1_restore ml_X6_172 dX6_undo_8 (Nat.le_of_ble_eq_true rfl) ⟨(Nat.le_of_ble_eq_true rfl), (Nat.le_of_ble_eq_true rfl)⟩ rfl rfl (Nat.le_of_ble_eq_true rfl) 0 rfl rfl) ?_
  refine z_ifB_eq E dX6_undo_11 24 (by decide) (fun c1 => ?_) (fun c1 => ?_)
  · refine z_bipush (v := (-2)) E dX6_undo_24 (by decide) ?_
    refine z_iret E Er dX6_undo_26 ?_
    exact ⟨by rw [if_pos (by simpa using c1)], rfl⟩
  · refine z_aload_n E dX6_undo_14 0 rfl rfl ?_
    refine gt_X6_36 (v := .ref pa) E dX6_undo_15 0 rfl rfl ?_
    refine z_fro (ws := wTV g x y rd a dr p pa vo ch im W ++ (wPres g p q (if (S.1 2) = 0 then P else U (pv10 ((S.1 1)))) ++ (wPast g pa hpa b j U (if (S.1 2) = 0 then S else sF (sF S 1 (pv10 ((S.1 1)))) 2 ((S.1 2) - 1))))) (cs := [wTV g x y rd a dr p pa vo ch im W, wPres g p q (if (S.1 2) = 0 then P else U (pv10 ((S.1 1)))), wPast g pa hpa b j U (if (S.1 2) = 0 then S else sF (sF S 1 (pv10 ((S.1 1)))) 2 ((S.1 2) - 1))]) (ds := [wPast g pa hpa b j U (if (S.1 2) = 0 then S else sF (sF S 1 (pv10 ((S.1 1)))) 2 ((S.1 2) - 1))]) (rs := [wTV g x y rd a dr p pa vo ch im W, wPres g p q (if (S.1 2) = 0 then P else U (pv10 ((S.1 1))))]) E [2] rfl rfl (rV E hX (c_X1_size g pa hpa (if (S.1 2) = 0 then S else sF (sF S 1 (pv10 ((S.1 1)))) 2 ((S.1 2) - 1)) b j U) mw_X1_size ml_X6_148 dX6_undo_18 (Nat.le_of_ble_eq_true rfl) ⟨(Nat.le_of_ble_eq_true rfl), (Nat.le_of_ble_eq_true rfl)⟩ rfl rfl (Nat.le_of_ble_eq_true rfl) 0 rfl rfl) ?_
    refine z_goto E dX6_undo_21 26 (by decide) ?_
    refine z_iret E Er dX6_undo_26 ?_
    exact ⟨by rw [if_neg (of_decide_eq_true c1), if_neg (of_decide_eq_true c1)]; rfl, rfl⟩

theorem xor12 {x j : Nat} (hx : x < 4096) (hj : j < 12) : x ^^^ 1 <<< j < 4096 := Nat.xor_lt_two_pow (n := 12) hx (by rw [Nat.one_shiftLeft]; exact Nat.pow_lt_pow_right (by decide) hj)
def shC (T P : NS) (r n : Int32) : Bool := hasR T r && wi n (nI 0) (nI 1) && !((P.1 4).testBit r.toNatClampNeg == decide (n = 1))

set_option maxHeartbeats 4000000 in
set_option maxRecDepth 100000 in
theorem c_X6_shuts (g : GC) (x : Nat) (y : Nat → Nat) (W : NS) (rd : Nat) (dr : Nat) (vo : Nat) (ch : Nat) (im : Nat → Nat) (a : Nat) (h : Nat → Nat) (T : NS) (p : Nat) (q : Nat → Nat) (P : NS) (pa : Nat) (hpa : Nat → Nat) (S : NS) (b : Nat → Nat) (j : Nat → Nat → Nat) (U : Nat → NS) (r : Int32) (n : Int32) (hT : tdI T) (hP : pnI T P) (hS1 : S.1 1 < 10) (hS2 : S.1 2 ≤ 10) : Ct g yX6_shuts cX6_shuts 3 (some .int) 3 0 0 [.ref x, .int r, .int n] (wTV g x y rd a dr p pa vo ch im W ++ (wTown g a h T ++ (wPres g p q P ++ (wPast g pa hpa b j U S)))) (DI (if (hasR T r && wi n (nI 0) (nI 1)) = true then (if shC T P r n = true then nI (pc12 (P.1 4 ^^^ 1 <<< r.toNatClampNeg)) else -2) else -1) (wTV g x y rd a dr p pa vo ch im W ++ (wTown g a h T ++ (wPres g p q (if shC T P r n = true then sF P 4 (P.1 4 ^^^ 1 <<< r.toNatClampNeg) else P) ++ (wPast g pa hpa b j (if shC T P r n = true then va_up U (S.1 1) P else U) (if shC T P r n = true then rmS S else S)))))) := by
  refine Ct.of (by decide) (Nat.le_of_ble_eq_true rfl) ?_
  intro X E Er hX _ hnm
  have E : Ob g X cX6_shuts 3 RX6 := E
  have hR := hT.2.2.1
  have hs4 := hP.s4 hT
  have hb := hT.2.1.2
  have hp0 := hP.2.1
  have hp1 := hP.2.2.1
  have hp2 := hP.2.2.2.1
  have hp3 := hP.2.2.2.2.1
  have hj := hP.2.2.2.2.2.2
  refine z_lve (lv' := [(0, .ref x), (1, .int r), (2, .int n)]) rfl ?_
  refine z_aload_n E dX6_shuts_0 0 rfl rfl ?_
  refine gt_X6_19 (v := .ref a) E dX6_shuts_1 0 rfl rfl ?_
  refine z_iload_n E dX6_shuts_4 1 rfl rfl ?_
  refine z_fro (ws := wTV g x y rd a dr p pa vo ch im W ++ (wTown g a h T ++ (wPres g p q P ++ (wPast g pa hpa b j U S)))) (cs := [wTV g x y rd a dr p pa vo ch im W, wTown g a h T, wPres g p q P, wPast g pa hpa b j U S]) (ds := [wTown g a h T]) (rs := [wTV g x y rd a dr p pa vo ch im W, wPres g p q P, wPast g pa hpa b j U S]) E [1] rfl rfl (rV E hX (c_X4_hasRoad g a h T r) mw_X4_hasRoad ml_X6_102 dX6_shuts_5 (Nat.le_of_ble_eq_true rfl) ⟨(Nat.le_of_ble_eq_true rfl), (Nat.le_of_ble_eq_true rfl)⟩ rfl rfl (Nat.le_of_ble_eq_true rfl) 0 rfl rfl) ?_
  refine z_ifB_eq E dX6_shuts_8 20 (by decide) (fun c1 => ?_) (fun c1 => ?_)
  · refine z_iconst (v := (-1)) E dX6_shuts_20 (by decide) ?_
    refine z_iret E Er dX6_shuts_21 ?_
    exact ⟨by rw [if_neg (show ¬ (hasR T r && wi n (nI 0) (nI 1)) = true by rw [c1]; simp)], by rw [if_neg (show ¬ shC T P r n = true by unfold shC; rw [c1]; simp), if_neg (show ¬ shC T P r n = true by unfold shC; rw [c1]; simp), if_neg (show ¬ shC T P r n = true by unfold shC; rw [c1]; simp)]⟩
  · obtain ⟨j2, hj2, rfl⟩ := hasR_nI (hT.1.1 1) c1
    refine z_iload_n E dX6_shuts_11 2 rfl rfl ?_
    refine z_iconst (v := (nI 0)) E dX6_shuts_12 (by decide) ?_
    refine z_iconst (v := (nI 1)) E dX6_shuts_13 (by decide) ?_
    refine z_se E (rS E hX (c_X6_isWithin g n (nI 0) (nI 1)) mw_X6_isWithin ms_X6_isWithin ml_X6_80 dX6_shuts_14 (Nat.le_of_ble_eq_true rfl) ⟨(Nat.le_of_ble_eq_true rfl), (Nat.le_of_ble_eq_true rfl)⟩ rfl rfl (Nat.le_of_ble_eq_true rfl)) ?_
    refine z_ifB_ne E dX6_shuts_17 22 (by decide) (fun c2 => ?_) (fun c2 => ?_)
    · obtain ⟨n2, -, hn2, rfl⟩ := wi_nI (by decide) (by decide) c2
      refine z_aload_n E dX6_shuts_22 0 rfl rfl ?_
      refine gt_X6_29 (v := .ref p) E dX6_shuts_23 0 rfl rfl ?_
      refine z_iload_n E dX6_shuts_26 1 rfl rfl ?_
      refine z_fro (ws := wTV g x y rd a dr p pa vo ch im W ++ (wTown g a h T ++ (wPres g p q P ++ (wPast g pa hpa b j U S)))) (cs := [wTV g x y rd a dr p pa vo ch im W, wTown g a h T, wPres g p q P, wPast g pa hpa b j U S]) (ds := [wPres g p q P]) (rs := [wTV g x y rd a dr p pa vo ch im W, wTown g a h T, wPast g pa hpa b j U S]) E [2] rfl rfl (rV E hX (c_X2_isShut g p q P j2 (by omega) (by omega)) mw_X2_isShut ml_X6_118 dX6_shuts_27 (Nat.le_of_ble_eq_true rfl) ⟨(Nat.le_of_ble_eq_true rfl), (Nat.le_of_ble_eq_true rfl)⟩ rfl rfl (Nat.le_of_ble_eq_true rfl) 0 rfl rfl) ?_
      refine z_iload_n E dX6_shuts_30 2 rfl rfl ?_
      refine z_iconst (v := (nI 1)) E dX6_shuts_31 (by decide) ?_
      refine z_icmpN_ne E dX6_shuts_32 39 (by decide) (by omega) (by decide) (fun c3 => ?_) (fun c3 => ?_)
      · refine z_iconst (v := (nI 0)) E dX6_shuts_39 (by decide) ?_
        refine z_st (st' := [.int (nI 0), .int (nI (cond ((P.1 4).testBit j2) 1 0))]) (by rw [bI_nI]) ?_
        refine z_icmpN_ne E dX6_shuts_40 46 (by decide) (by cases (P.1 4).testBit j2 <;> decide) (by decide) (fun c4 => ?_) (fun c4 => ?_)
        · have hsh :  (true && true && !((P.1 4).testBit j2 == decide (nI n2 = (1 : Int32)))) = true := by
            rcases (show n2 = 0 ∨ n2 = 1 by omega) with rfl | rfl <;> cases hb : (P.1 4).testBit j2 <;> rw [hb] at c4 <;> first | (exfalso; revert c3 c4; decide) | decide
          refine z_aload_n E dX6_shuts_46 0 rfl rfl ?_
          refine gt_X6_36 (v := .ref pa) E dX6_shuts_47 0 rfl rfl ?_
          refine z_aload_n E dX6_shuts_50 0 rfl rfl ?_
          refine gt_X6_29 (v := .ref p) E dX6_shuts_51 0 rfl rfl ?_
          refine z_frwv (ws := wTV g x y rd a dr p pa vo ch im W ++ (wTown g a h T ++ (wPres g p q P ++ (wPast g pa hpa b j U S)))) (ws2 := wTV g x y rd a dr p pa vo ch im W ++ (wTown g a h T ++ (wPres g p q P ++ (wPast g pa hpa b j (va_up U ((S.1 1)) P) (sF (sF S 1 (nx10 ((S.1 1)))) 2 (min ((S.1 2) + 1) 10)))))) (cs := [wTV g x y rd a dr p pa vo ch im W, wTown g a h T, wPres g p q P, wPast g pa hpa b j U S]) (ds := [wPast g pa hpa b j U S, wPres g p q P]) (rs := [wTV g x y rd a dr p pa vo ch im W, wTown g a h T]) (ds2 := [wPast g pa hpa b j (va_up U ((S.1 1)) P) (sF (sF S 1 (nx10 ((S.1 1)))) 2 (min ((S.1 2) + 1) 10)), wPres g p q P]) (cs2 := [wTV g x y rd a dr p pa vo ch im W, wTown g a h T, wPres g p q P, wPast g pa hpa b j (va_up U ((S.1 1)) P) (sF (sF S 1 (nx10 ((S.1 1)))) 2 (min ((S.1 2) + 1) 10))]) E [3, 2] rfl rfl rfl rfl rfl (rV E hX (c_X1_remember g pa hpa S b j U p q P (by omega) (by omega)) mw_X1_remember ml_X6_157 dX6_shuts_54 (Nat.le_of_ble_eq_true rfl) ⟨(Nat.le_of_ble_eq_true rfl), (Nat.le_of_ble_eq_true rfl)⟩ rfl rfl (Nat.le_of_ble_eq_true rfl) 0 rfl rfl) ?_
          refine z_aload_n E dX6_shuts_57 0 rfl rfl ?_
          refine gt_X6_29 (v := .ref p) E dX6_shuts_58 0 rfl rfl ?_
          refine z_dup E dX6_shuts_61 rfl ?_
          refine gt_X6_145 (v := .int (nI (P.1 4))) E dX6_shuts_62 11 rfl rfl ?_
          refine z_iconst (v := (nI 1)) E dX6_shuts_65 (by decide) ?_
          refine z_iload_n E dX6_shuts_66 1 rfl rfl ?_
          refine z_ishlN E dX6_shuts_67 (by omega) ?_
          refine z_ixorN E dX6_shuts_68 ?_
          refine pt_X6_145 (x := nI ((P.1 4) ^^^ (1 <<< j2))) (ws' := wTV g x y rd a dr p pa vo ch im W ++ (wTown g a h T ++ (wPres g p q (sF P 4 ((P.1 4) ^^^ (1 <<< j2))) ++ (wPast g pa hpa b j (va_up U ((S.1 1)) P) (sF (sF S 1 (nx10 ((S.1 1)))) 2 (min ((S.1 2) + 1) 10)))))) E dX6_shuts_69 11 rfl (Nat.le_of_ble_eq_true rfl) rfl ?_
          refine z_aload_n E dX6_shuts_72 0 rfl rfl ?_
          refine gt_X6_29 (v := .ref p) E dX6_shuts_73 0 rfl rfl ?_
          refine gt_X6_145 (v := .int (nI ((P.1 4) ^^^ (1 <<< j2)))) E dX6_shuts_76 11 rfl rfl ?_
          refine z_se E (rS E hX (c_J6_bitCount_0f7a4 g ((P.1 4) ^^^ (1 <<< j2)) (xor12 hs4 (by omega))) mw_J6_bitCount_0f7a4 ms_J6_bitCount_0f7a4 ml_X6_167 dX6_shuts_79 (Nat.le_of_ble_eq_true rfl) ⟨(Nat.le_of_ble_eq_true rfl), (Nat.le_of_ble_eq_true rfl)⟩ rfl rfl (Nat.le_of_ble_eq_true rfl)) ?_
          refine z_iret E Er dX6_shuts_82 ?_
          exact ⟨by rw [if_pos (show (hasR T (nI j2) && wi (nI n2) (nI 0) (nI 1)) = true by rw [c1, c2]; rfl), if_pos (show shC T P (nI j2) (nI n2) = true by unfold shC; rw [c1, c2, nI_clamp (by omega)]; exact hsh), nI_clamp (by omega)], by rw [if_pos (show shC T P (nI j2) (nI n2) = true by unfold shC; rw [c1, c2, nI_clamp (by omega)]; exact hsh), if_pos (show shC T P (nI j2) (nI n2) = true by unfold shC; rw [c1, c2, nI_clamp (by omega)]; exact hsh), if_pos (show shC T P (nI j2) (nI n2) = true by unfold shC; rw [c1, c2, nI_clamp (by omega)]; exact hsh), nI_clamp (by omega)]; rfl⟩
        · have hsh : ¬ (true && true && !((P.1 4).testBit j2 == decide (nI n2 = (1 : Int32)))) = true := by
            rcases (show n2 = 0 ∨ n2 = 1 by omega) with rfl | rfl <;> cases hb : (P.1 4).testBit j2 <;> rw [hb] at c4 <;> first | (exfalso; revert c3 c4; decide) | decide
          refine z_bipush (v := (-2)) E dX6_shuts_43 (by decide) ?_
          refine z_iret E Er dX6_shuts_45 ?_
          exact ⟨by rw [if_pos (show (hasR T (nI j2) && wi (nI n2) (nI 0) (nI 1)) = true by rw [c1, c2]; rfl), if_neg (show ¬ shC T P (nI j2) (nI n2) = true by unfold shC; rw [c1, c2, nI_clamp (by omega)]; exact hsh)], by rw [if_neg (show ¬ shC T P (nI j2) (nI n2) = true by unfold shC; rw [c1, c2, nI_clamp (by omega)]; exact hsh), if_neg (show ¬ shC T P (nI j2) (nI n2) = true by unfold shC; rw [c1, c2, nI_clamp (by omega)]; exact hsh), if_neg (show ¬ shC T P (nI j2) (nI n2) = true by unfold shC; rw [c1, c2, nI_clamp (by omega)]; exact hsh)]⟩
      · refine z_iconst (v := (nI 1)) E dX6_shuts_35 (by decide) ?_
        refine z_goto E dX6_shuts_36 40 (by decide) ?_
        refine z_st (st' := [.int (nI 1), .int (nI (cond ((P.1 4).testBit j2) 1 0))]) (by rw [bI_nI]) ?_
        refine z_icmpN_ne E dX6_shuts_40 46 (by decide) (by cases (P.1 4).testBit j2 <;> decide) (by decide) (fun c4 => ?_) (fun c4 => ?_)
        · have hsh :  (true && true && !((P.1 4).testBit j2 == decide (nI n2 = (1 : Int32)))) = true := by
            rcases (show n2 = 0 ∨ n2 = 1 by omega) with rfl | rfl <;> cases hb : (P.1 4).testBit j2 <;> rw [hb] at c4 <;> first | (exfalso; revert c3 c4; decide) | decide
          refine z_aload_n E dX6_shuts_46 0 rfl rfl ?_
          refine gt_X6_36 (v := .ref pa) E dX6_shuts_47 0 rfl rfl ?_
          refine z_aload_n E dX6_shuts_50 0 rfl rfl ?_
          refine gt_X6_29 (v := .ref p) E dX6_shuts_51 0 rfl rfl ?_
          refine z_frwv (ws := wTV g x y rd a dr p pa vo ch im W ++ (wTown g a h T ++ (wPres g p q P ++ (wPast g pa hpa b j U S)))) (ws2 := wTV g x y rd a dr p pa vo ch im W ++ (wTown g a h T ++ (wPres g p q P ++ (wPast g pa hpa b j (va_up U ((S.1 1)) P) (sF (sF S 1 (nx10 ((S.1 1)))) 2 (min ((S.1 2) + 1) 10)))))) (cs := [wTV g x y rd a dr p pa vo ch im W, wTown g a h T, wPres g p q P, wPast g pa hpa b j U S]) (ds := [wPast g pa hpa b j U S, wPres g p q P]) (rs := [wTV g x y rd a dr p pa vo ch im W, wTown g a h T]) (ds2 := [wPast g pa hpa b j (va_up U ((S.1 1)) P) (sF (sF S 1 (nx10 ((S.1 1)))) 2 (min ((S.1 2) + 1) 10)), wPres g p q P]) (cs2 := [wTV g x y rd a dr p pa vo ch im W, wTown g a h T, wPres g p q P, wPast g pa hpa b j (va_up U ((S.1 1)) P) (sF (sF S 1 (nx10 ((S.1 1)))) 2 (min ((S.1 2) + 1) 10))]) E [3, 2] rfl rfl rfl rfl rfl (rV E hX (c_X1_remember g pa hpa S b j U p q P (by omega) (by omega)) mw_X1_remember ml_X6_157 dX6_shuts_54 (Nat.le_of_ble_eq_true rfl) ⟨(Nat.le_of_ble_eq_true rfl), (Nat.le_of_ble_eq_true rfl)⟩ rfl rfl (Nat.le_of_ble_eq_true rfl) 0 rfl rfl) ?_
          refine z_aload_n E dX6_shuts_57 0 rfl rfl ?_
          refine gt_X6_29 (v := .ref p) E dX6_shuts_58 0 rfl rfl ?_
          refine z_dup E dX6_shuts_61 rfl ?_
          refine gt_X6_145 (v := .int (nI (P.1 4))) E dX6_shuts_62 11 rfl rfl ?_
          refine z_iconst (v := (nI 1)) E dX6_shuts_65 (by decide) ?_
          refine z_iload_n E dX6_shuts_66 1 rfl rfl ?_
          refine z_ishlN E dX6_shuts_67 (by omega) ?_
          refine z_ixorN E dX6_shuts_68 ?_
          refine pt_X6_145 (x := nI ((P.1 4) ^^^ (1 <<< j2))) (ws' := wTV g x y rd a dr p pa vo ch im W ++ (wTown g a h T ++ (wPres g p q (sF P 4 ((P.1 4) ^^^ (1 <<< j2))) ++ (wPast g pa hpa b j (va_up U ((S.1 1)) P) (sF (sF S 1 (nx10 ((S.1 1)))) 2 (min ((S.1 2) + 1) 10)))))) E dX6_shuts_69 11 rfl (Nat.le_of_ble_eq_true rfl) rfl ?_
          refine z_aload_n E dX6_shuts_72 0 rfl rfl ?_
          refine gt_X6_29 (v := .ref p) E dX6_shuts_73 0 rfl rfl ?_
          refine gt_X6_145 (v := .int (nI ((P.1 4) ^^^ (1 <<< j2)))) E dX6_shuts_76 11 rfl rfl ?_
          refine z_se E (rS E hX (c_J6_bitCount_0f7a4 g ((P.1 4) ^^^ (1 <<< j2)) (xor12 hs4 (by omega))) mw_J6_bitCount_0f7a4 ms_J6_bitCount_0f7a4 ml_X6_167 dX6_shuts_79 (Nat.le_of_ble_eq_true rfl) ⟨(Nat.le_of_ble_eq_true rfl), (Nat.le_of_ble_eq_true rfl)⟩ rfl rfl (Nat.le_of_ble_eq_true rfl)) ?_
          refine z_iret E Er dX6_shuts_82 ?_
          exact ⟨by rw [if_pos (show (hasR T (nI j2) && wi (nI n2) (nI 0) (nI 1)) = true by rw [c1, c2]; rfl), if_pos (show shC T P (nI j2) (nI n2) = true by unfold shC; rw [c1, c2, nI_clamp (by omega)]; exact hsh), nI_clamp (by omega)], by rw [if_pos (show shC T P (nI j2) (nI n2) = true by unfold shC; rw [c1, c2, nI_clamp (by omega)]; exact hsh), if_pos (show shC T P (nI j2) (nI n2) = true by unfold shC; rw [c1, c2, nI_clamp (by omega)]; exact hsh), if_pos (show shC T P (nI j2) (nI n2) = true by unfold shC; rw [c1, c2, nI_clamp (by omega)]; exact hsh), nI_clamp (by omega)]; rfl⟩
        · have hsh : ¬ (true && true && !((P.1 4).testBit j2 == decide (nI n2 = (1 : Int32)))) = true := by
            rcases (show n2 = 0 ∨ n2 = 1 by omega) with rfl | rfl <;> cases hb : (P.1 4).testBit j2 <;> rw [hb] at c4 <;> first | (exfalso; revert c3 c4; decide) | decide
          refine z_bipush (v := (-2)) E dX6_shuts_43 (by decide) ?_
          refine z_iret E Er dX6_shuts_45 ?_
          exact ⟨by rw [if_pos (show (hasR T (nI j2) && wi (nI n2) (nI 0) (nI 1)) = true by rw [c1, c2]; rfl), if_neg (show ¬ shC T P (nI j2) (nI n2) = true by unfold shC; rw [c1, c2, nI_clamp (by omega)]; exact hsh)], by rw [if_neg (show ¬ shC T P (nI j2) (nI n2) = true by unfold shC; rw [c1, c2, nI_clamp (by omega)]; exact hsh), if_neg (show ¬ shC T P (nI j2) (nI n2) = true by unfold shC; rw [c1, c2, nI_clamp (by omega)]; exact hsh), if_neg (show ¬ shC T P (nI j2) (nI n2) = true by unfold shC; rw [c1, c2, nI_clamp (by omega)]; exact hsh)]⟩
    · refine z_iconst (v := (-1)) E dX6_shuts_20 (by decide) ?_
      refine z_iret E Er dX6_shuts_21 ?_
      exact ⟨by rw [if_neg (show ¬ (hasR T (nI j2) && wi n (nI 0) (nI 1)) = true by rw [c2]; simp)], by rw [if_neg (show ¬ shC T P (nI j2) n = true by unfold shC; rw [c2]; simp), if_neg (show ¬ shC T P (nI j2) n = true by unfold shC; rw [c2]; simp), if_neg (show ¬ shC T P (nI j2) n = true by unfold shC; rw [c2]; simp)]⟩

theorem wi01 {n : Int32} (h : wi n (nI 0) (nI 1) = false) : ¬ n = nI 0 ∧ ¬ n = nI 1 := ⟨fun e => by rw [e] at h; exact absurd h (by decide), fun e => by rw [e] at h; exact absurd h (by decide)⟩

set_option maxHeartbeats 4000000 in
set_option maxRecDepth 100000 in
theorem c_X6_keep (g : GC) (x : Nat) (y : Nat → Nat) (W : NS) (rd : Nat) (a : Nat) (dr : Nat) (pa : Nat) (vo : Nat) (ch : Nat) (im : Nat → Nat) (p : Nat) (q : Nat → Nat) (P : NS) (i0 : Nat → Nat) (I0 : NS) (i1 : Nat → Nat) (I1 : NS) (n : Int32) : Ct g yX6_keep cX6_keep 2 (some .int) 2 0 0 [.ref x, .int n] (wTV g x y rd a dr p pa vo ch im W ++ (wPres g p q P ++ (wPres g (im 0) i0 I0 ++ (wPres g (im 1) i1 I1)))) (DI (if wi n (nI 0) (nI 1) = true then nI (P.1 2) else -1) (wTV g x y rd a dr p pa vo ch im (if wi n (nI 0) (nI 1) = true then sA W 13 (va_up (W.2 13) n.toNatClampNeg 1) else W) ++ (wPres g p q P ++ (wPres g (im 0) i0 (if n = nI 0 then P else I0) ++ (wPres g (im 1) i1 (if n = nI 1 then P else I1)))))) := by
  refine Ct.of (by decide) (Nat.le_of_ble_eq_true rfl) ?_
  intro X E Er hX _ hnm
  have E : Ob g X cX6_keep 2 RX6 := E
  refine z_lve (lv' := [(0, .ref x), (1, .int n)]) rfl ?_
  refine z_iload_n E dX6_keep_0 1 rfl rfl ?_
  refine z_iconst (v := (nI 0)) E dX6_keep_1 (by decide) ?_
  refine z_iconst (v := (nI 1)) E dX6_keep_2 (by decide) ?_
  refine z_se E (rS E hX (c_X6_isWithin g n (nI 0) (nI 1)) mw_X6_isWithin ms_X6_isWithin ml_X6_80 dX6_keep_3 (Nat.le_of_ble_eq_true rfl) ⟨(Nat.le_of_ble_eq_true rfl), (Nat.le_of_ble_eq_true rfl)⟩ rfl rfl (Nat.le_of_ble_eq_true rfl)) ?_
  refine z_ifB_ne E dX6_keep_6 11 (by decide) (fun c1 => ?_) (fun c1 => ?_)
  · obtain ⟨n2, -, hn2, rfl⟩ := wi_nI (by decide) (by decide) c1
    rcases (show n2 = 0 ∨ n2 = 1 by omega) with rfl | rfl
    · refine z_aload_n E dX6_keep_11 0 rfl rfl ?_
      refine gt_X6_64 (v := .ref (y 12)) E dX6_keep_12 0 rfl rfl ?_
      refine z_iload_n E dX6_keep_15 1 rfl rfl ?_
      refine z_aaldN (b := im) E dX6_keep_16 4 rfl (by decide) (by decide) ?_
      refine z_aload_n E dX6_keep_17 0 rfl rfl ?_
      refine gt_X6_29 (v := .ref p) E dX6_keep_18 0 rfl rfl ?_
      refine z_frwv (ws := wTV g x y rd a dr p pa vo ch im W ++ (wPres g p q P ++ (wPres g (im 0) i0 I0 ++ (wPres g (im 1) i1 I1)))) (ws2 := wTV g x y rd a dr p pa vo ch im W ++ (wPres g p q P ++ (wPres g (im 0) i0 P ++ (wPres g (im 1) i1 I1)))) (cs := [wTV g x y rd a dr p pa vo ch im W, wPres g p q P, wPres g (im 0) i0 I0, wPres g (im 1) i1 I1]) (ds := [wPres g (im 0) i0 I0, wPres g p q P]) (rs := [wTV g x y rd a dr p pa vo ch im W, wPres g (im 1) i1 I1]) (ds2 := [wPres g (im 0) i0 P, wPres g p q P]) (cs2 := [wTV g x y rd a dr p pa vo ch im W, wPres g p q P, wPres g (im 0) i0 P, wPres g (im 1) i1 I1]) E [2, 1] rfl rfl rfl rfl rfl (rV E hX (c_X2_become g (im 0) i0 I0 p q P) mw_X2_become ml_X6_252 dX6_keep_21 (Nat.le_of_ble_eq_true rfl) ⟨(Nat.le_of_ble_eq_true rfl), (Nat.le_of_ble_eq_true rfl)⟩ rfl rfl (Nat.le_of_ble_eq_true rfl) 0 rfl rfl) ?_
      refine z_aload_n E dX6_keep_24 0 rfl rfl ?_
      refine gt_X6_68 (v := .ref (y 13)) E dX6_keep_25 0 rfl rfl ?_
      refine z_iload_n E dX6_keep_28 1 rfl rfl ?_
      refine z_iconst (v := (nI 1)) E dX6_keep_29 (by decide) ?_
      refine z_zastN (f := (W.2 13)) (i := 0) (x := 1) (ws' := wTV g x y rd a dr p pa vo ch im (sA W 13 (va_up (W.2 13) 0 1)) ++ (wPres g p q P ++ (wPres g (im 0) i0 P ++ (wPres g (im 1) i1 I1)))) E dX6_keep_30 5 rfl (by decide) (by decide) (by decide) rfl ?_
      refine z_aload_n E dX6_keep_31 0 rfl rfl ?_
      refine gt_X6_29 (v := .ref p) E dX6_keep_32 0 rfl rfl ?_
      refine gt_X6_139 (v := .int (nI (P.1 2))) E dX6_keep_35 6 rfl rfl ?_
      refine z_iret E Er dX6_keep_38 ?_
      exact ⟨by rw [if_pos c1], by rw [if_pos c1, if_pos rfl, if_neg (by decide), nI_clamp (by decide)]⟩
    · refine z_aload_n E dX6_keep_11 0 rfl rfl ?_
      refine gt_X6_64 (v := .ref (y 12)) E dX6_keep_12 0 rfl rfl ?_
      refine z_iload_n E dX6_keep_15 1 rfl rfl ?_
      refine z_aaldN (b := im) E dX6_keep_16 4 rfl (by decide) (by decide) ?_
      refine z_aload_n E dX6_keep_17 0 rfl rfl ?_
      refine gt_X6_29 (v := .ref p) E dX6_keep_18 0 rfl rfl ?_
      refine z_frwv (ws := wTV g x y rd a dr p pa vo ch im W ++ (wPres g p q P ++ (wPres g (im 0) i0 I0 ++ (wPres g (im 1) i1 I1)))) (ws2 := wTV g x y rd a dr p pa vo ch im W ++ (wPres g p q P ++ (wPres g (im 0) i0 I0 ++ (wPres g (im 1) i1 P)))) (cs := [wTV g x y rd a dr p pa vo ch im W, wPres g p q P, wPres g (im 0) i0 I0, wPres g (im 1) i1 I1]) (ds := [wPres g (im 1) i1 I1, wPres g p q P]) (rs := [wTV g x y rd a dr p pa vo ch im W, wPres g (im 0) i0 I0]) (ds2 := [wPres g (im 1) i1 P, wPres g p q P]) (cs2 := [wTV g x y rd a dr p pa vo ch im W, wPres g p q P, wPres g (im 0) i0 I0, wPres g (im 1) i1 P]) E [3, 1] rfl rfl rfl rfl rfl (rV E hX (c_X2_become g (im 1) i1 I1 p q P) mw_X2_become ml_X6_252 dX6_keep_21 (Nat.le_of_ble_eq_true rfl) ⟨(Nat.le_of_ble_eq_true rfl), (Nat.le_of_ble_eq_true rfl)⟩ rfl rfl (Nat.le_of_ble_eq_true rfl) 0 rfl rfl) ?_
      refine z_aload_n E dX6_keep_24 0 rfl rfl ?_
      refine gt_X6_68 (v := .ref (y 13)) E dX6_keep_25 0 rfl rfl ?_
      refine z_iload_n E dX6_keep_28 1 rfl rfl ?_
      refine z_iconst (v := (nI 1)) E dX6_keep_29 (by decide) ?_
      refine z_zastN (f := (W.2 13)) (i := 1) (x := 1) (ws' := wTV g x y rd a dr p pa vo ch im (sA W 13 (va_up (W.2 13) 1 1)) ++ (wPres g p q P ++ (wPres g (im 0) i0 I0 ++ (wPres g (im 1) i1 P)))) E dX6_keep_30 5 rfl (by decide) (by decide) (by decide) rfl ?_
      refine z_aload_n E dX6_keep_31 0 rfl rfl ?_
      refine gt_X6_29 (v := .ref p) E dX6_keep_32 0 rfl rfl ?_
      refine gt_X6_139 (v := .int (nI (P.1 2))) E dX6_keep_35 6 rfl rfl ?_
      refine z_iret E Er dX6_keep_38 ?_
      exact ⟨by rw [if_pos c1], by rw [if_pos c1, if_neg (by decide), if_pos rfl, nI_clamp (by decide)]⟩
  · refine z_iconst (v := (-1)) E dX6_keep_9 (by decide) ?_
    refine z_iret E Er dX6_keep_10 ?_
    exact ⟨by rw [if_neg (show ¬ wi n (nI 0) (nI 1) = true by rw [c1]; decide)], by rw [if_neg (show ¬ wi n (nI 0) (nI 1) = true by rw [c1]; decide), if_neg (wi01 c1).1, if_neg (wi01 c1).2]⟩

def imV (n : Int32) (I0 I1 : NS) : NS := if n = nI 0 then I0 else I1
def bkC (W : NS) (n : Int32) : Bool := wi n (nI 0) (nI 1) && decide (W.2 13 n.toNatClampNeg ≠ 0)
theorem bk_no {W : NS} {n : Int32} (h : wi n (nI 0) (nI 1) = false) : ¬ bkC W n = true := by unfold bkC; rw [h]; simp

set_option maxHeartbeats 4000000 in
set_option maxRecDepth 100000 in
theorem c_X6_back (g : GC) (x : Nat) (y : Nat → Nat) (W : NS) (rd : Nat) (a : Nat) (dr : Nat) (vo : Nat) (ch : Nat) (im : Nat → Nat) (p : Nat) (q : Nat → Nat) (P : NS) (i0 : Nat → Nat) (I0 : NS) (i1 : Nat → Nat) (I1 : NS) (pa : Nat) (hpa : Nat → Nat) (S : NS) (b : Nat → Nat) (j : Nat → Nat → Nat) (U : Nat → NS) (n : Int32) (h13 : ∀ i, W.2 13 i ≤ 1) : Ct g yX6_back cX6_back 2 (some .int) 2 0 0 [.ref x, .int n] (wTV g x y rd a dr p pa vo ch im W ++ (wPres g p q P ++ (wPres g (im 0) i0 I0 ++ (wPres g (im 1) i1 I1 ++ (wPast g pa hpa b j U S))))) (DI (if wi n (nI 0) (nI 1) = true then (if bkC W n = true then nI ((imV n I0 I1).1 2) else -2) else -1) (wTV g x y rd a dr p pa vo ch im W ++ (wPres g p q (if bkC W n = true then imV n I0 I1 else P) ++ (wPres g (im 0) i0 I0 ++ (wPres g (im 1) i1 I1 ++ (wPast g pa hpa b j U (if bkC W n = true then sF S 2 0 else S))))))) := by
  refine Ct.of (by decide) (Nat.le_of_ble_eq_true rfl) ?_
  intro X E Er hX _ hnm
  have E : Ob g X cX6_back 2 RX6 := E
  refine z_lve (lv' := [(0, .ref x), (1, .int n)]) rfl ?_
  refine z_iload_n E dX6_back_0 1 rfl rfl ?_
  refine z_iconst (v := (nI 0)) E dX6_back_1 (by decide) ?_
  refine z_iconst (v := (nI 1)) E dX6_back_2 (by decide) ?_
  refine z_se E (rS E hX (c_X6_isWithin g n (nI 0) (nI 1)) mw_X6_isWithin ms_X6_isWithin ml_X6_80 dX6_back_3 (Nat.le_of_ble_eq_true rfl) ⟨(Nat.le_of_ble_eq_true rfl), (Nat.le_of_ble_eq_true rfl)⟩ rfl rfl (Nat.le_of_ble_eq_true rfl)) ?_
  refine z_ifB_ne E dX6_back_6 11 (by decide) (fun c1 => ?_) (fun c1 => ?_)
  · obtain ⟨n2, -, hn2, rfl⟩ := wi_nI (by decide) (by decide) c1
    rcases (show n2 = 0 ∨ n2 = 1 by omega) with rfl | rfl
    · refine z_aload_n E dX6_back_11 0 rfl rfl ?_
      refine gt_X6_68 (v := .ref (y 13)) E dX6_back_12 0 rfl rfl ?_
      refine z_iload_n E dX6_back_15 1 rfl rfl ?_
      refine z_zaldN (f := (W.2 13)) E dX6_back_16 5 rfl (by decide) (by decide) ?_
      refine z_ifN_ne E dX6_back_17 23 (by decide) (by have := h13 0; omega) (fun c2 => ?_) (fun c2 => ?_)
      · refine z_aload_n E dX6_back_23 0 rfl rfl ?_
        refine gt_X6_29 (v := .ref p) E dX6_back_24 0 rfl rfl ?_
        refine z_aload_n E dX6_back_27 0 rfl rfl ?_
        refine gt_X6_64 (v := .ref (y 12)) E dX6_back_28 0 rfl rfl ?_
        refine z_iload_n E dX6_back_31 1 rfl rfl ?_
        refine z_aaldN (b := im) E dX6_back_32 4 rfl (by decide) (by decide) ?_
        refine z_frwv (ws := wTV g x y rd a dr p pa vo ch im W ++ (wPres g p q P ++ (wPres g (im 0) i0 I0 ++ (wPres g (im 1) i1 I1 ++ (wPast g pa hpa b j U S))))) (ws2 := wTV g x y rd a dr p pa vo ch im W ++ (wPres g p q I0 ++ (wPres g (im 0) i0 I0 ++ (wPres g (im 1) i1 I1 ++ (wPast g pa hpa b j U S))))) (cs := [wTV g x y rd a dr p pa vo ch im W, wPres g p q P, wPres g (im 0) i0 I0, wPres g (im 1) i1 I1, wPast g pa hpa b j U S]) (ds := [wPres g p q P, wPres g (im 0) i0 I0]) (rs := [wTV g x y rd a dr p pa vo ch im W, wPres g (im 1) i1 I1, wPast g pa hpa b j U S]) (ds2 := [wPres g p q I0, wPres g (im 0) i0 I0]) (cs2 := [wTV g x y rd a dr p pa vo ch im W, wPres g p q I0, wPres g (im 0) i0 I0, wPres g (im 1) i1 I1, wPast g pa hpa b j U S]) E [1, 1] rfl rfl rfl rfl rfl (rV E hX (c_X2_become g p q P (im 0) i0 I0) mw_X2_become ml_X6_252 dX6_back_33 (Nat.le_of_ble_eq_true rfl) ⟨(Nat.le_of_ble_eq_true rfl), (Nat.le_of_ble_eq_true rfl)⟩ rfl rfl (Nat.le_of_ble_eq_true rfl) 0 rfl rfl) ?_
        refine z_aload_n E dX6_back_36 0 rfl rfl ?_
        refine gt_X6_36 (v := .ref pa) E dX6_back_37 0 rfl rfl ?_
        refine z_frwv (ws := wTV g x y rd a dr p pa vo ch im W ++ (wPres g p q I0 ++ (wPres g (im 0) i0 I0 ++ (wPres g (im 1) i1 I1 ++ (wPast g pa hpa b j U S))))) (ws2 := wTV g x y rd a dr p pa vo ch im W ++ (wPres g p q I0 ++ (wPres g (im 0) i0 I0 ++ (wPres g (im 1) i1 I1 ++ (wPast g pa hpa b j U (sF S 2 0)))))) (cs := [wTV g x y rd a dr p pa vo ch im W, wPres g p q I0, wPres g (im 0) i0 I0, wPres g (im 1) i1 I1, wPast g pa hpa b j U S]) (ds := [wPast g pa hpa b j U S]) (rs := [wTV g x y rd a dr p pa vo ch im W, wPres g p q I0, wPres g (im 0) i0 I0, wPres g (im 1) i1 I1]) (ds2 := [wPast g pa hpa b j U (sF S 2 0)]) (cs2 := [wTV g x y rd a dr p pa vo ch im W, wPres g p q I0, wPres g (im 0) i0 I0, wPres g (im 1) i1 I1, wPast g pa hpa b j U (sF S 2 0)]) E [4] rfl rfl rfl rfl rfl (rV E hX (c_X1_lose g pa hpa S b j U) mw_X1_lose ml_X6_255 dX6_back_40 (Nat.le_of_ble_eq_true rfl) ⟨(Nat.le_of_ble_eq_true rfl), (Nat.le_of_ble_eq_true rfl)⟩ rfl rfl (Nat.le_of_ble_eq_true rfl) 0 rfl rfl) ?_
        refine z_aload_n E dX6_back_43 0 rfl rfl ?_
        refine gt_X6_29 (v := .ref p) E dX6_back_44 0 rfl rfl ?_
        refine gt_X6_139 (v := .int (nI (I0.1 2))) E dX6_back_47 6 rfl rfl ?_
        refine z_iret E Er dX6_back_50 ?_
        exact ⟨by rw [if_pos c1, if_pos (show bkC W (nI 0) = true by unfold bkC; rw [c1, nI_clamp (by decide)]; simp; exact c2)]; rfl, by rw [if_pos (show bkC W (nI 0) = true by unfold bkC; rw [c1, nI_clamp (by decide)]; simp; exact c2), if_pos (show bkC W (nI 0) = true by unfold bkC; rw [c1, nI_clamp (by decide)]; simp; exact c2)]; rfl⟩
      · refine z_bipush (v := (-2)) E dX6_back_20 (by decide) ?_
        refine z_iret E Er dX6_back_22 ?_
        exact ⟨by rw [if_pos c1, if_neg (show ¬ bkC W (nI 0) = true by unfold bkC; rw [c1, nI_clamp (by decide), c2]; decide)], by rw [if_neg (show ¬ bkC W (nI 0) = true by unfold bkC; rw [c1, nI_clamp (by decide), c2]; decide), if_neg (show ¬ bkC W (nI 0) = true by unfold bkC; rw [c1, nI_clamp (by decide), c2]; decide)]⟩
    · refine z_aload_n E dX6_back_11 0 rfl rfl ?_
      refine gt_X6_68 (v := .ref (y 13)) E dX6_back_12 0 rfl rfl ?_
      refine z_iload_n E dX6_back_15 1 rfl rfl ?_
      refine z_zaldN (f := (W.2 13)) E dX6_back_16 5 rfl (by decide) (by decide) ?_
      refine z_ifN_ne E dX6_back_17 23 (by decide) (by have := h13 1; omega) (fun c2 => ?_) (fun c2 => ?_)
      · refine z_aload_n E dX6_back_23 0 rfl rfl ?_
        refine gt_X6_29 (v := .ref p) E dX6_back_24 0 rfl rfl ?_
        refine z_aload_n E dX6_back_27 0 rfl rfl ?_
        refine gt_X6_64 (v := .ref (y 12)) E dX6_back_28 0 rfl rfl ?_
        refine z_iload_n E dX6_back_31 1 rfl rfl ?_
        refine z_aaldN (b := im) E dX6_back_32 4 rfl (by decide) (by decide) ?_
        refine z_frwv (ws := wTV g x y rd a dr p pa vo ch im W ++ (wPres g p q P ++ (wPres g (im 0) i0 I0 ++ (wPres g (im 1) i1 I1 ++ (wPast g pa hpa b j U S))))) (ws2 := wTV g x y rd a dr p pa vo ch im W ++ (wPres g p q I1 ++ (wPres g (im 0) i0 I0 ++ (wPres g (im 1) i1 I1 ++ (wPast g pa hpa b j U S))))) (cs := [wTV g x y rd a dr p pa vo ch im W, wPres g p q P, wPres g (im 0) i0 I0, wPres g (im 1) i1 I1, wPast g pa hpa b j U S]) (ds := [wPres g p q P, wPres g (im 1) i1 I1]) (rs := [wTV g x y rd a dr p pa vo ch im W, wPres g (im 0) i0 I0, wPast g pa hpa b j U S]) (ds2 := [wPres g p q I1, wPres g (im 1) i1 I1]) (cs2 := [wTV g x y rd a dr p pa vo ch im W, wPres g p q I1, wPres g (im 0) i0 I0, wPres g (im 1) i1 I1, wPast g pa hpa b j U S]) E [1, 2] rfl rfl rfl rfl rfl (rV E hX (c_X2_become g p q P (im 1) i1 I1) mw_X2_become ml_X6_252 dX6_back_33 (Nat.le_of_ble_eq_true rfl) ⟨(Nat.le_of_ble_eq_true rfl), (Nat.le_of_ble_eq_true rfl)⟩ rfl rfl (Nat.le_of_ble_eq_true rfl) 0 rfl rfl) ?_
        refine z_aload_n E dX6_back_36 0 rfl rfl ?_
        refine gt_X6_36 (v := .ref pa) E dX6_back_37 0 rfl rfl ?_
        refine z_frwv (ws := wTV g x y rd a dr p pa vo ch im W ++ (wPres g p q I1 ++ (wPres g (im 0) i0 I0 ++ (wPres g (im 1) i1 I1 ++ (wPast g pa hpa b j U S))))) (ws2 := wTV g x y rd a dr p pa vo ch im W ++ (wPres g p q I1 ++ (wPres g (im 0) i0 I0 ++ (wPres g (im 1) i1 I1 ++ (wPast g pa hpa b j U (sF S 2 0)))))) (cs := [wTV g x y rd a dr p pa vo ch im W, wPres g p q I1, wPres g (im 0) i0 I0, wPres g (im 1) i1 I1, wPast g pa hpa b j U S]) (ds := [wPast g pa hpa b j U S]) (rs := [wTV g x y rd a dr p pa vo ch im W, wPres g p q I1, wPres g (im 0) i0 I0, wPres g (im 1) i1 I1]) (ds2 := [wPast g pa hpa b j U (sF S 2 0)]) (cs2 := [wTV g x y rd a dr p pa vo ch im W, wPres g p q I1, wPres g (im 0) i0 I0, wPres g (im 1) i1 I1, wPast g pa hpa b j U (sF S 2 0)]) E [4] rfl rfl rfl rfl rfl (rV E hX (c_X1_lose g pa hpa S b j U) mw_X1_lose ml_X6_255 dX6_back_40 (Nat.le_of_ble_eq_true rfl) ⟨(Nat.le_of_ble_eq_true rfl), (Nat.le_of_ble_eq_true rfl)⟩ rfl rfl (Nat.le_of_ble_eq_true rfl) 0 rfl rfl) ?_
        refine z_aload_n E dX6_back_43 0 rfl rfl ?_
        refine gt_X6_29 (v := .ref p) E dX6_back_44 0 rfl rfl ?_
        refine gt_X6_139 (v := .int (nI (I1.1 2))) E dX6_back_47 6 rfl rfl ?_
        refine z_iret E Er dX6_back_50 ?_
        exact ⟨by rw [if_pos c1, if_pos (show bkC W (nI 1) = true by unfold bkC; rw [c1, nI_clamp (by decide)]; simp; exact c2)]; rfl, by rw [if_pos (show bkC W (nI 1) = true by unfold bkC; rw [c1, nI_clamp (by decide)]; simp; exact c2), if_pos (show bkC W (nI 1) = true by unfold bkC; rw [c1, nI_clamp (by decide)]; simp; exact c2)]; rfl⟩
      · refine z_bipush (v := (-2)) E dX6_back_20 (by decide) ?_
        refine z_iret E Er dX6_back_22 ?_
        exact ⟨by rw [if_pos c1, if_neg (show ¬ bkC W (nI 1) = true by unfold bkC; rw [c1, nI_clamp (by decide), c2]; decide)], by rw [if_neg (show ¬ bkC W (nI 1) = true by unfold bkC; rw [c1, nI_clamp (by decide), c2]; decide), if_neg (show ¬ bkC W (nI 1) = true by unfold bkC; rw [c1, nI_clamp (by decide), c2]; decide)]⟩
  · refine z_iconst (v := (-1)) E dX6_back_9 (by decide) ?_
    refine z_iret E Er dX6_back_10 ?_
    exact ⟨by rw [if_neg (show ¬ wi n (nI 0) (nI 1) = true by rw [c1]; decide)], by rw [if_neg (bk_no c1), if_neg (bk_no c1)]⟩

set_option maxHeartbeats 4000000 in
set_option maxRecDepth 100000 in
theorem c_X6_beginAnew (g : GC) (x : Nat) (y : Nat → Nat) (W : NS) (rd : Nat) (dr : Nat) (vo : Nat) (ch : Nat) (im : Nat → Nat) (a : Nat) (h : Nat → Nat) (T : NS) (p : Nat) (q : Nat → Nat) (P : NS) (pa : Nat) (hpa : Nat → Nat) (S : NS) (b : Nat → Nat) (j : Nat → Nat → Nat) (U : Nat → NS) : Ct g yX6_beginAnew cX6_beginAnew 2 none 1 0 0 [.ref x] (wTV g x y rd a dr p pa vo ch im W ++ (wTown g a h T ++ (wPres g p q P ++ (wPast g pa hpa b j U S)))) (DV (wTV g x y rd a dr p pa vo ch im (sA (sF (sF W 8 0) 11 0) 13 (va_up (va_up (W.2 13) 0 0) 1 0)) ++ (wTown g a h T ++ (wPres g p q (st0 (T.1 2)) ++ (wPast g pa hpa b j U (sF S 2 0)))))) := by
  refine Ct.of (by decide) (Nat.le_of_ble_eq_true rfl) ?_
  intro X E Er hX _ hnm
  have E : Ob g X cX6_beginAnew 2 RX6 := E
  refine z_lve (lv' := [(0, .ref x)]) rfl ?_
  refine z_aload_n E dX6_beginAnew_0 0 rfl rfl ?_
  refine gt_X6_29 (v := .ref p) E dX6_beginAnew_1 0 rfl rfl ?_
  refine z_aload_n E dX6_beginAnew_4 0 rfl rfl ?_
  refine gt_X6_19 (v := .ref a) E dX6_beginAnew_5 0 rfl rfl ?_
  refine gt_X6_72 (v := .int (nI (T.1 2))) E dX6_beginAnew_8 6 rfl rfl ?_
  refine z_frwv (ws := wTV g x y rd a dr p pa vo ch im W ++ (wTown g a h T ++ (wPres g p q P ++ (wPast g pa hpa b j U S)))) (ws2 := wTV g x y rd a dr p pa vo ch im W ++ (wTown g a h T ++ (wPres g p q (st0 (T.1 2)) ++ (wPast g pa hpa b j U S)))) (cs := [wTV g x y rd a dr p pa vo ch im W, wTown g a h T, wPres g p q P, wPast g pa hpa b j U S]) (ds := [wPres g p q P]) (rs := [wTV g x y rd a dr p pa vo ch im W, wTown g a h T, wPast g pa hpa b j U S]) (ds2 := [wPres g p q (st0 (T.1 2))]) (cs2 := [wTV g x y rd a dr p pa vo ch im W, wTown g a h T, wPres g p q (st0 (T.1 2)), wPast g pa hpa b j U S]) E [2] rfl rfl rfl rfl rfl (rV E hX (c_X2_startAt g p q P (T.1 2)) mw_X2_startAt ml_X6_76 dX6_beginAnew_11 (Nat.le_of_ble_eq_true rfl) ⟨(Nat.le_of_ble_eq_true rfl), (Nat.le_of_ble_eq_true rfl)⟩ rfl rfl (Nat.le_of_ble_eq_true rfl) 0 rfl rfl) ?_
  refine z_aload_n E dX6_beginAnew_14 0 rfl rfl ?_
  refine gt_X6_36 (v := .ref pa) E dX6_beginAnew_15 0 rfl rfl ?_
  refine z_frwv (ws := wTV g x y rd a dr p pa vo ch im W ++ (wTown g a h T ++ (wPres g p q (st0 (T.1 2)) ++ (wPast g pa hpa b j U S)))) (ws2 := wTV g x y rd a dr p pa vo ch im W ++ (wTown g a h T ++ (wPres g p q (st0 (T.1 2)) ++ (wPast g pa hpa b j U (sF S 2 0))))) (cs := [wTV g x y rd a dr p pa vo ch im W, wTown g a h T, wPres g p q (st0 (T.1 2)), wPast g pa hpa b j U S]) (ds := [wPast g pa hpa b j U S]) (rs := [wTV g x y rd a dr p pa vo ch im W, wTown g a h T, wPres g p q (st0 (T.1 2))]) (ds2 := [wPast g pa hpa b j U (sF S 2 0)]) (cs2 := [wTV g x y rd a dr p pa vo ch im W, wTown g a h T, wPres g p q (st0 (T.1 2)), wPast g pa hpa b j U (sF S 2 0)]) E [3] rfl rfl rfl rfl rfl (rV E hX (c_X1_lose g pa hpa S b j U) mw_X1_lose ml_X6_255 dX6_beginAnew_18 (Nat.le_of_ble_eq_true rfl) ⟨(Nat.le_of_ble_eq_true rfl), (Nat.le_of_ble_eq_true rfl)⟩ rfl rfl (Nat.le_of_ble_eq_true rfl) 0 rfl rfl) ?_
  refine z_aload_n E dX6_beginAnew_21 0 rfl rfl ?_
  refine z_iconst (v := (nI 0)) E dX6_beginAnew_22 (by decide) ?_
  refine pt_X6_214 (x := nI 0) (ws' := wTV g x y rd a dr p pa vo ch im (sF W 8 0) ++ (wTown g a h T ++ (wPres g p q (st0 (T.1 2)) ++ (wPast g pa hpa b j U (sF S 2 0))))) E dX6_beginAnew_23 0 rfl (Nat.le_of_ble_eq_true rfl) rfl ?_
  refine z_aload_n E dX6_beginAnew_26 0 rfl rfl ?_
  refine z_iconst (v := (nI 0)) E dX6_beginAnew_27 (by decide) ?_
  refine pt_X6_226 (x := nI 0) (ws' := wTV g x y rd a dr p pa vo ch im (sF (sF W 8 0) 11 0) ++ (wTown g a h T ++ (wPres g p q (st0 (T.1 2)) ++ (wPast g pa hpa b j U (sF S 2 0))))) E dX6_beginAnew_28 0 rfl (Nat.le_of_ble_eq_true rfl) rfl ?_
  refine z_iconst (v := (nI 0)) E dX6_beginAnew_31 (by decide) ?_
  refine z_istore_n (lv' := [(0, .ref x), (1, .int (nI 0))]) E dX6_beginAnew_32 1 rfl (by decide) rfl ?_
  refine z_iload_n E dX6_beginAnew_33 1 rfl rfl ?_
  refine z_iconst (v := (nI 2)) E dX6_beginAnew_34 (by decide) ?_
  refine z_icmpN_ge E dX6_beginAnew_35 51 (by decide) (by decide) (by decide) (fun h => absurd h (by decide)) (fun _ => ?_)
  refine z_aload_n E dX6_beginAnew_38 0 rfl rfl ?_
  refine gt_X6_68 (v := .ref (y 13)) E dX6_beginAnew_39 0 rfl rfl ?_
  refine z_iload_n E dX6_beginAnew_42 1 rfl rfl ?_
  refine z_iconst (v := (nI 0)) E dX6_beginAnew_43 (by decide) ?_
  refine z_zastN (f := (W.2 13)) (i := 0) (x := 0) (ws' := wTV g x y rd a dr p pa vo ch im (sA (sF (sF W 8 0) 11 0) 13 (va_up (W.2 13) 0 0)) ++ (wTown g a h T ++ (wPres g p q (st0 (T.1 2)) ++ (wPast g pa hpa b j U (sF S 2 0))))) E dX6_beginAnew_44 5 rfl (by decide) (by decide) (by decide) rfl ?_
  refine z_iincN (lv' := [(0, .ref x), (1, .int (nI 1))]) E dX6_beginAnew_45 1 rfl (by decide) rfl ?_
  refine z_goto E dX6_beginAnew_48 33 (by decide) ?_
  refine z_iload_n E dX6_beginAnew_33 1 rfl rfl ?_
  refine z_iconst (v := (nI 2)) E dX6_beginAnew_34 (by decide) ?_
  refine z_icmpN_ge E dX6_beginAnew_35 51 (by decide) (by decide) (by decide) (fun h => absurd h (by decide)) (fun _ => ?_)
  refine z_aload_n E dX6_beginAnew_38 0 rfl rfl ?_
  refine gt_X6_68 (v := .ref (y 13)) E dX6_beginAnew_39 0 rfl rfl ?_
  refine z_iload_n E dX6_beginAnew_42 1 rfl rfl ?_
  refine z_iconst (v := (nI 0)) E dX6_beginAnew_43 (by decide) ?_
  refine z_zastN (f := (va_up (W.2 13) 0 0)) (i := 1) (x := 0) (ws' := wTV g x y rd a dr p pa vo ch im (sA (sF (sF W 8 0) 11 0) 13 (va_up (va_up (W.2 13) 0 0) 1 0)) ++ (wTown g a h T ++ (wPres g p q (st0 (T.1 2)) ++ (wPast g pa hpa b j U (sF S 2 0))))) E dX6_beginAnew_44 5 rfl (by decide) (by decide) (by decide) rfl ?_
  refine z_iincN (lv' := [(0, .ref x), (1, .int (nI 2))]) E dX6_beginAnew_45 1 rfl (by decide) rfl ?_
  refine z_goto E dX6_beginAnew_48 33 (by decide) ?_
  refine z_iload_n E dX6_beginAnew_33 1 rfl rfl ?_
  refine z_iconst (v := (nI 2)) E dX6_beginAnew_34 (by decide) ?_
  refine z_icmpN_ge E dX6_beginAnew_35 51 (by decide) (by decide) (by decide) (fun _ => ?_) (fun h => absurd h (by decide))
  refine z_vret E Er dX6_beginAnew_51 ?_
  exact ⟨rfl, rfl⟩

set_option maxHeartbeats 4000000 in
set_option maxRecDepth 100000 in
theorem c_X6_town (g : GC) (x : Nat) (y : Nat → Nat) (W : NS) (vo : Nat) (ch : Nat) (im : Nat → Nat) (rd : Nat) (hr : Nat → Nat) (R : NS) (a : Nat) (h : Nat → Nat) (T : NS) (dr : Nat) (hd : Nat → Nat) (D : NS) (p : Nat) (q : Nat → Nat) (P : NS) (pa : Nat) (hpa : Nat → Nat) (S : NS) (b : Nat → Nat) (j : Nat → Nat → Nat) (U : Nat → NS) (hrI : rdI R) (hD : tdD D) : Ct g yX6_town cX6_town 3 (some .int) 9 0 0 [.ref x] (wTV g x y rd a dr p pa vo ch im W ++ (wRead g rd hr R ++ (wTown g a h T ++ (wTown g dr hd D ++ (wPres g p q P ++ (wPast g pa hpa b j U S)))))) (DI ((rdF R D).1) (wTV g x y rd (if 0 ≤ (rdF R D).1 then dr else a) (if 0 ≤ (rdF R D).1 then a else dr) p pa vo ch im (if 0 ≤ (rdF R D).1 then sA (sF (sF W 8 0) 11 0) 13 (va_up (va_up (W.2 13) 0 0) 1 0) else W) ++ (wRead g rd hr (if 0 ≤ (rdF R D).1 then sF (rdF R D).2.1 1 0 else (rdF R D).2.1) ++ (wTown g a h T ++ (wTown g dr hd ((rdF R D).2.2) ++ (wPres g p q (if 0 ≤ (rdF R D).1 then st0 ((rdF R D).2.2.1 2) else P) ++ (wPast g pa hpa b j U (if 0 ≤ (rdF R D).1 then sF S 2 0 else S)))))))) := by
  refine Ct.of (by decide) (Nat.le_of_ble_eq_true rfl) ?_
  intro X E Er hX _ hnm
  have E : Ob g X cX6_town 3 RX6 := E
  refine z_lve (lv' := [(0, .ref x)]) rfl ?_
  refine z_aload_n E dX6_town_0 0 rfl rfl ?_
  refine gt_X6_10 (v := .ref rd) E dX6_town_1 0 rfl rfl ?_
  refine z_aload_n E dX6_town_4 0 rfl rfl ?_
  refine gt_X6_23 (v := .ref dr) E dX6_town_5 0 rfl rfl ?_
  refine z_frw (ws := wTV g x y rd a dr p pa vo ch im W ++ (wRead g rd hr R ++ (wTown g a h T ++ (wTown g dr hd D ++ (wPres g p q P ++ (wPast g pa hpa b j U S)))))) (ws2 := wTV g x y rd a dr p pa vo ch im W ++ (wRead g rd hr ((rdF R D).2.1) ++ (wTown g a h T ++ (wTown g dr hd ((rdF R D).2.2) ++ (wPres g p q P ++ (wPast g pa hpa b j U S)))))) (cs := [wTV g x y rd a dr p pa vo ch im W, wRead g rd hr R, wTown g a h T, wTown g dr hd D, wPres g p q P, wPast g pa hpa b j U S]) (ds := [wRead g rd hr R, wTown g dr hd D]) (rs := [wTV g x y rd a dr p pa vo ch im W, wTown g a h T, wPres g p q P, wPast g pa hpa b j U S]) (ds2 := [wRead g rd hr ((rdF R D).2.1), wTown g dr hd ((rdF R D).2.2)]) (cs2 := [wTV g x y rd a dr p pa vo ch im W, wRead g rd hr ((rdF R D).2.1), wTown g a h T, wTown g dr hd ((rdF R D).2.2), wPres g p q P, wPast g pa hpa b j U S]) E [1, 2] rfl rfl rfl rfl rfl (rV E hX (c_X3_read g rd hr R dr hd D hrI hD) mw_X3_read ml_X6_95 dX6_town_8 (Nat.le_of_ble_eq_true rfl) ⟨(Nat.le_of_ble_eq_true rfl), (Nat.le_of_ble_eq_true rfl)⟩ rfl rfl (Nat.le_of_ble_eq_true rfl) 0 rfl rfl) ?_
  refine z_istore_n (lv' := [(0, .ref x), (1, .int ((rdF R D).1))]) E dX6_town_11 1 rfl (by decide) rfl ?_
  refine z_iload_n E dX6_town_12 1 rfl rfl ?_
  refine z_if_ge E dX6_town_13 18 (by decide) (fun c1 => ?_) (fun c1 => ?_)
  · refine z_aload_n E dX6_town_18 0 rfl rfl ?_
    refine gt_X6_23 (v := .ref dr) E dX6_town_19 0 rfl rfl ?_
    refine z_astore_n (lv' := [(0, .ref x), (1, .int ((rdF R D).1)), (2, .ref dr)]) E dX6_town_22 2 rfl (by decide) rfl ?_
    refine z_aload_n E dX6_town_23 0 rfl rfl ?_
    refine z_aload_n E dX6_town_24 0 rfl rfl ?_
    refine gt_X6_19 (v := .ref a) E dX6_town_25 0 rfl rfl ?_
    refine pt_X6_23 (x := a) (ws' := wTV g x y rd a a p pa vo ch im W ++ (wRead g rd hr ((rdF R D).2.1) ++ (wTown g a h T ++ (wTown g dr hd ((rdF R D).2.2) ++ (wPres g p q P ++ (wPast g pa hpa b j U S)))))) E dX6_town_28 0 rfl (Nat.le_of_ble_eq_true rfl) rfl ?_
    refine z_aload_n E dX6_town_31 0 rfl rfl ?_
    refine z_aload_n E dX6_town_32 2 rfl rfl ?_
    refine pt_X6_19 (x := dr) (ws' := wTV g x y rd dr a p pa vo ch im W ++ (wRead g rd hr ((rdF R D).2.1) ++ (wTown g a h T ++ (wTown g dr hd ((rdF R D).2.2) ++ (wPres g p q P ++ (wPast g pa hpa b j U S)))))) E dX6_town_33 0 rfl (Nat.le_of_ble_eq_true rfl) rfl ?_
    refine z_aload_n E dX6_town_36 0 rfl rfl ?_
    refine gt_X6_10 (v := .ref rd) E dX6_town_37 0 rfl rfl ?_
    refine z_frw (ws := wTV g x y rd dr a p pa vo ch im W ++ (wRead g rd hr ((rdF R D).2.1) ++ (wTown g a h T ++ (wTown g dr hd ((rdF R D).2.2) ++ (wPres g p q P ++ (wPast g pa hpa b j U S)))))) (ws2 := wTV g x y rd dr a p pa vo ch im W ++ (wRead g rd hr (sF ((rdF R D).2.1) 1 0) ++ (wTown g a h T ++ (wTown g dr hd ((rdF R D).2.2) ++ (wPres g p q P ++ (wPast g pa hpa b j U S)))))) (cs := [wTV g x y rd dr a p pa vo ch im W, wRead g rd hr ((rdF R D).2.1), wTown g a h T, wTown g dr hd ((rdF R D).2.2), wPres g p q P, wPast g pa hpa b j U S]) (ds := [wRead g rd hr ((rdF R D).2.1)]) (rs := [wTV g x y rd dr a p pa vo ch im W, wTown g a h T, wTown g dr hd ((rdF R D).2.2), wPres g p q P, wPast g pa hpa b j U S]) (ds2 := [wRead g rd hr (sF ((rdF R D).2.1) 1 0)]) (cs2 := [wTV g x y rd dr a p pa vo ch im W, wRead g rd hr (sF ((rdF R D).2.1) 1 0), wTown g a h T, wTown g dr hd ((rdF R D).2.2), wPres g p q P, wPast g pa hpa b j U S]) E [1] rfl rfl rfl rfl rfl (rV E hX (c_X3_empty g rd hr ((rdF R D).2.1)) mw_X3_empty ml_X6_92 dX6_town_40 (Nat.le_of_ble_eq_true rfl) ⟨(Nat.le_of_ble_eq_true rfl), (Nat.le_of_ble_eq_true rfl)⟩ rfl rfl (Nat.le_of_ble_eq_true rfl) 0 rfl rfl) ?_
    refine z_pop E dX6_town_43 rfl ?_
    refine z_aload_n E dX6_town_44 0 rfl rfl ?_
    refine z_frwv (ws := wTV g x y rd dr a p pa vo ch im W ++ (wRead g rd hr (sF ((rdF R D).2.1) 1 0) ++ (wTown g a h T ++ (wTown g dr hd ((rdF R D).2.2) ++ (wPres g p q P ++ (wPast g pa hpa b j U S)))))) (ws2 := wTV g x y rd dr a p pa vo ch im (sA (sF (sF W 8 0) 11 0) 13 (va_up (va_up ((W.2 13)) 0 0) 1 0)) ++ (wRead g rd hr (sF ((rdF R D).2.1) 1 0) ++ (wTown g a h T ++ (wTown g dr hd ((rdF R D).2.2) ++ (wPres g p q (st0 ((((rdF R D).2.2).1 2))) ++ (wPast g pa hpa b j U (sF S 2 0))))))) (cs := [wTV g x y rd dr a p pa vo ch im W, wRead g rd hr (sF ((rdF R D).2.1) 1 0), wTown g a h T, wTown g dr hd ((rdF R D).2.2), wPres g p q P, wPast g pa hpa b j U S]) (ds := [wTV g x y rd dr a p pa vo ch im W, wTown g dr hd ((rdF R D).2.2), wPres g p q P, wPast g pa hpa b j U S]) (rs := [wRead g rd hr (sF ((rdF R D).2.1) 1 0), wTown g a h T]) (ds2 := [wTV g x y rd dr a p pa vo ch im (sA (sF (sF W 8 0) 11 0) 13 (va_up (va_up ((W.2 13)) 0 0) 1 0)), wTown g dr hd ((rdF R D).2.2), wPres g p q (st0 ((((rdF R D).2.2).1 2))), wPast g pa hpa b j U (sF S 2 0)]) (cs2 := [wTV g x y rd dr a p pa vo ch im (sA (sF (sF W 8 0) 11 0) 13 (va_up (va_up ((W.2 13)) 0 0) 1 0)), wRead g rd hr (sF ((rdF R D).2.1) 1 0), wTown g a h T, wTown g dr hd ((rdF R D).2.2), wPres g p q (st0 ((((rdF R D).2.2).1 2))), wPast g pa hpa b j U (sF S 2 0)]) E [0, 2, 2, 2] rfl rfl rfl rfl rfl (rV E hX (c_X6_beginAnew g x y W rd a vo ch im dr hd ((rdF R D).2.2) p q P pa hpa S b j U) mw_X6_beginAnew ml_X6_99 dX6_town_45 (Nat.le_of_ble_eq_true rfl) ⟨(Nat.le_of_ble_eq_true rfl), (Nat.le_of_ble_eq_true rfl)⟩ rfl rfl (Nat.le_of_ble_eq_true rfl) 0 rfl rfl) ?_
    refine z_iload_n E dX6_town_48 1 rfl rfl ?_
    refine z_iret E Er dX6_town_49 ?_
    exact ⟨rfl, by rw [if_pos c1, if_pos c1, if_pos c1, if_pos c1, if_pos c1, if_pos c1]⟩
  · refine z_iload_n E dX6_town_16 1 rfl rfl ?_
    refine z_iret E Er dX6_town_17 ?_
    exact ⟨rfl, by rw [if_neg c1, if_neg c1, if_neg c1, if_neg c1, if_neg c1, if_neg c1]⟩
