theorem td_6 {R M : NS} (h : tdR R M) : tdR (sF R 6 1) (sF M 10 (M.1 10 ||| btF 103)) := by
  have hb := td_bits _ (Nat.lt_succ_of_le h.1) _ (Nat.lt_succ_of_le h.2.1) _ (Nat.lt_succ_of_le h.2.2.1)
  refine ⟨Nat.le_refl _, h.2.1, h.2.2.1, ?_⟩
  show M.1 10 ||| 1 = 1 + 2 * R.1 7 + 4 * R.1 8
  rw [h.2.2.2]; exact hb.2.2.2.1
theorem td_7 {R M : NS} (h : tdR R M) : tdR (sF R 7 1) (sF M 10 (M.1 10 ||| btF 110)) := by
  have hb := td_bits _ (Nat.lt_succ_of_le h.1) _ (Nat.lt_succ_of_le h.2.1) _ (Nat.lt_succ_of_le h.2.2.1)
  refine ⟨h.1, Nat.le_refl _, h.2.2.1, ?_⟩
  show M.1 10 ||| 2 = R.1 6 + 2 * 1 + 4 * R.1 8
  rw [h.2.2.2]; exact hb.2.2.2.2.1
theorem td_8 {R M : NS} (h : tdR R M) : tdR (sF R 8 1) (sF M 10 (M.1 10 ||| btF 108)) := by
  have hb := td_bits _ (Nat.lt_succ_of_le h.1) _ (Nat.lt_succ_of_le h.2.1) _ (Nat.lt_succ_of_le h.2.2.1)
  refine ⟨h.1, h.2.1, Nat.le_refl _, ?_⟩
  show M.1 10 ||| 4 = R.1 6 + 2 * R.1 7 + 4 * 1
  rw [h.2.2.2]; exact hb.2.2.2.2.2

set_option maxHeartbeats 4000000 in
set_option maxRecDepth 100000 in
theorem c_X7_readsItem (g : GC) (a : Nat) (h : Nat → Nat) (M : NS) (wt : Nat) (R : NS) (D : NS) (h8 : M.1 8 = 0) (hps : psR R M) (hJ : rdJ R) (hmd : mdT D M) (htd : tdR R M) (hD : tdI D) (hwt : isLt wt) (h12 : wt = 114 → D.1 1 < 12) : Ct g yX7_readsItem cX7_readsItem 6 none 4 0 0 [.ref a, .int (nI wt)] (wMod g a h M) (QV (fun w_ => ∃ M2 : NS, w_ = wMod g a h M2 ∧ (dQ M M2 ∧ M2.1 7 ≤ 999 ∧ itP R D (wt + 3) M2))) := by
  refine Ct.of (by decide) (Nat.le_of_ble_eq_true rfl) ?_
  intro X E Er hX _ hnm
  have E : Ob g X cX7_readsItem 6 RX7 := E
  have hR := hD.2.2.1
  have hb := hD.2.1.1
  refine z_lve (lv' := [(0, .ref a), (1, .int (nI wt))]) rfl ?_
  rcases hwt with rfl | rfl | rfl | rfl | rfl | rfl
  · refine z_aload_n E dX7_readsItem_0 0 rfl rfl ?_
    refine gt_X7_13 (v := .ref (h 9)) E dX7_readsItem_1 0 rfl rfl ?_
    refine z_bipush (v := (nI 6)) E dX7_readsItem_4 (by decide) ?_
    refine z_ialdN (f := (M.2 9)) E dX7_readsItem_6 2 rfl (by decide) (by decide) ?_
    refine z_topi (y := nI (D.1 0)) (congrArg nI (hmd.1 0 (by decide))) ?_
    refine z_iconst (v := (nI 1)) E dX7_readsItem_7 (by decide) ?_
    refine z_isubN E dX7_readsItem_8 (by omega) ?_
    refine z_istore_n (lv' := [(0, .ref a), (1, .int (nI 112)), (2, .int (nI ((D.1 0) - 1)))]) E dX7_readsItem_9 2 rfl (by decide) rfl ?_
    refine z_aload_n E dX7_readsItem_10 0 rfl rfl ?_
    refine gt_X7_13 (v := .ref (h 9)) E dX7_readsItem_11 0 rfl rfl ?_
    refine z_bipush (v := (nI 7)) E dX7_readsItem_14 (by decide) ?_
    refine z_ialdN (f := (M.2 9)) E dX7_readsItem_16 2 rfl (by decide) (by decide) ?_
    refine z_topi (y := nI (D.1 1)) (congrArg nI (hmd.1 1 (by decide))) ?_
    refine z_istore_n (lv' := [(0, .ref a), (1, .int (nI 112)), (2, .int (nI ((D.1 0) - 1))), (3, .int (nI (D.1 1)))]) E dX7_readsItem_17 3 rfl (by decide) rfl ?_
    refine z_iload_n E dX7_readsItem_18 1 rfl rfl ?_
    refine z_bipush (v := (nI 112)) E dX7_readsItem_19 (by decide) ?_
    refine z_icmpN_ne E dX7_readsItem_21 41 (by decide) (by decide) (by decide) (fun h => absurd h (by decide)) (fun _ => ?_)
    refine z_aload_n E dX7_readsItem_24 0 rfl rfl ?_
    refine gt_X7_13 (v := .ref (h 9)) E dX7_readsItem_25 0 rfl rfl ?_
    refine z_bipush (v := (nI 6)) E dX7_readsItem_28 (by decide) ?_
    refine z_aload_n E dX7_readsItem_30 0 rfl rfl ?_
    refine z_iconst (v := (nI 2)) E dX7_readsItem_31 (by decide) ?_
    refine z_bipush (v := (nI 8)) E dX7_readsItem_32 (by decide) ?_
    refine z_q0 E (rV E hX (c_X7_number g a h M (nI 2) (nI 8) R h8 hps hJ) mw_X7_number ml_X7_120 dX7_readsItem_34 (Nat.le_of_ble_eq_true rfl) ⟨(Nat.le_of_ble_eq_true rfl), (Nat.le_of_ble_eq_true rfl)⟩ rfl rfl (Nat.le_of_ble_eq_true rfl) 0 rfl rfl) (fun r w2 hw => ?_)
    obtain ⟨M9, rfl, rfl, hnb⟩ := hw
    refine ⟨rfl, ?_⟩
    refine z_ws (ws' := wMod g a h M9) rfl ?_
    rcases hnb with ⟨he1, rfl⟩ | ⟨he1, x41, x51, x61, x71, rfl, hps1⟩
    · refine z_ws (ws' := wMod g a h (sF M 8 (R.1 4 + 1))) rfl ?_
      refine z_iastN (f := (M.2 9)) (i := 6) (x := (rnE R (nI 2) (nI 8) (-9) - 1)) (ws' := wMod g a h (sA (sF M 8 (R.1 4 + 1)) 9 (va_up (M.2 9) 6 (rnE R (nI 2) (nI 8) (-9) - 1)))) E dX7_readsItem_37 2 rfl (by decide) (by decide) rfl ?_
      refine z_goto E dX7_readsItem_38 277 (by decide) ?_
      refine z_vret E Er dX7_readsItem_277 ?_
      exact ⟨rfl, _, rfl, (((dQ.rf M).F (by omega)).A9 (fun k hk => up1 (n := 6) (by omega) hk)), hps.2.2.2.2.2.2, it_no (by show spPl R D = _; unfold spPl; rw [if_pos he1]) (by rw [rnS_0 he1]; rfl)⟩
    · refine z_ws (ws' := wMod g a h (sF (sF (sF (sF M 4 x41) 5 x51) 6 x61) 7 x71)) rfl ?_
      refine z_iastN (f := (M.2 9)) (i := 6) (x := (rnE R (nI 2) (nI 8) (-9) - 1)) (ws' := wMod g a h (sA (sF (sF (sF (sF M 4 x41) 5 x51) 6 x61) 7 x71) 9 (va_up (M.2 9) 6 (rnE R (nI 2) (nI 8) (-9) - 1)))) E dX7_readsItem_37 2 rfl (by decide) (by decide) rfl ?_
      refine z_goto E dX7_readsItem_38 277 (by decide) ?_
      refine z_vret E Er dX7_readsItem_277 ?_
      exact ⟨rfl, _, rfl, ((((((dQ.rf M).F (by omega)).F (by omega)).F (by omega)).F (by omega)).A9 (fun k hk => up1 (n := 6) (by omega) hk)), hps1.2.2.2.2.2.2, it_yes (by show spPl R D = _; unfold spPl; rw [if_neg he1]) ⟨h8, hps1, md_fld (k := 0) hmd (by decide) rfl rfl rfl rfl, tdR_rn htd⟩⟩
  · have h12 := h12 rfl
    refine z_aload_n E dX7_readsItem_0 0 rfl rfl ?_
    refine gt_X7_13 (v := .ref (h 9)) E dX7_readsItem_1 0 rfl rfl ?_
    refine z_bipush (v := (nI 6)) E dX7_readsItem_4 (by decide) ?_
    refine z_ialdN (f := (M.2 9)) E dX7_readsItem_6 2 rfl (by decide) (by decide) ?_
    refine z_topi (y := nI (D.1 0)) (congrArg nI (hmd.1 0 (by decide))) ?_
    refine z_iconst (v := (nI 1)) E dX7_readsItem_7 (by decide) ?_
    refine z_isubN E dX7_readsItem_8 (by omega) ?_
    refine z_istore_n (lv' := [(0, .ref a), (1, .int (nI 114)), (2, .int (nI ((D.1 0) - 1)))]) E dX7_readsItem_9 2 rfl (by decide) rfl ?_
    refine z_aload_n E dX7_readsItem_10 0 rfl rfl ?_
    refine gt_X7_13 (v := .ref (h 9)) E dX7_readsItem_11 0 rfl rfl ?_
    refine z_bipush (v := (nI 7)) E dX7_readsItem_14 (by decide) ?_
    refine z_ialdN (f := (M.2 9)) E dX7_readsItem_16 2 rfl (by decide) (by decide) ?_
    refine z_topi (y := nI (D.1 1)) (congrArg nI (hmd.1 1 (by decide))) ?_
    refine z_istore_n (lv' := [(0, .ref a), (1, .int (nI 114)), (2, .int (nI ((D.1 0) - 1))), (3, .int (nI (D.1 1)))]) E dX7_readsItem_17 3 rfl (by decide) rfl ?_
    refine z_iload_n E dX7_readsItem_18 1 rfl rfl ?_
    refine z_bipush (v := (nI 112)) E dX7_readsItem_19 (by decide) ?_
    refine z_icmpN_ne E dX7_readsItem_21 41 (by decide) (by decide) (by decide) (fun _ => ?_) (fun h => absurd h (by decide))
    refine z_iload_n E dX7_readsItem_41 1 rfl rfl ?_
    refine z_bipush (v := (nI 114)) E dX7_readsItem_42 (by decide) ?_
    refine z_icmpN_ne E dX7_readsItem_44 121 (by decide) (by decide) (by decide) (fun h => absurd h (by decide)) (fun _ => ?_)
    refine z_aload_n E dX7_readsItem_47 0 rfl rfl ?_
    refine gt_X7_16 (v := .ref (h 11)) E dX7_readsItem_48 0 rfl rfl ?_
    refine z_bipush (v := (nI 24)) E dX7_readsItem_51 (by decide) ?_
    refine z_iconst (v := (nI 2)) E dX7_readsItem_53 (by decide) ?_
    refine z_iload_n E dX7_readsItem_54 3 rfl rfl ?_
    refine z_imulN E dX7_readsItem_55 ?_
    refine z_iaddN E dX7_readsItem_56 ?_
    refine z_aload_n E dX7_readsItem_57 0 rfl rfl ?_
    refine z_iconst (v := (nI 0)) E dX7_readsItem_58 (by decide) ?_
    refine z_iload_n E dX7_readsItem_59 2 rfl rfl ?_
    refine z_q0 E (rV E hX (c_X7_number g a h M (nI 0) (nI ((D.1 0) - 1)) R h8 hps hJ) mw_X7_number ml_X7_120 dX7_readsItem_60 (Nat.le_of_ble_eq_true rfl) ⟨(Nat.le_of_ble_eq_true rfl), (Nat.le_of_ble_eq_true rfl)⟩ rfl rfl (Nat.le_of_ble_eq_true rfl) 0 rfl rfl) (fun r w2 hw => ?_)
    obtain ⟨M9, rfl, rfl, hnb⟩ := hw
    refine ⟨rfl, ?_⟩
    refine z_ws (ws' := wMod g a h M9) rfl ?_
    rcases hnb with ⟨he1, rfl⟩ | ⟨he1, x41, x51, x61, x71, rfl, hps1⟩
    · refine z_ws (ws' := wMod g a h (sF M 8 (R.1 4 + 1))) rfl ?_
      refine z_iastN (f := (M.2 11)) (i := (24 + (2 * (D.1 1)))) (x := (rnE R (nI 0) (nI ((D.1 0) - 1)) (-9) - 1)) (ws' := wMod g a h (sA (sF M 8 (R.1 4 + 1)) 11 (va_up (M.2 11) (24 + (2 * (D.1 1))) (rnE R (nI 0) (nI ((D.1 0) - 1)) (-9) - 1)))) E dX7_readsItem_63 3 rfl (by omega) (by decide) rfl ?_
      refine z_aload_n E dX7_readsItem_64 0 rfl rfl ?_
      refine gt_X7_16 (v := .ref (h 11)) E dX7_readsItem_65 0 rfl rfl ?_
      refine z_bipush (v := (nI 25)) E dX7_readsItem_68 (by decide) ?_
      refine z_iconst (v := (nI 2)) E dX7_readsItem_70 (by decide) ?_
      refine z_iload_n E dX7_readsItem_71 3 rfl rfl ?_
      refine z_imulN E dX7_readsItem_72 ?_
      refine z_iaddN E dX7_readsItem_73 ?_
      refine z_aload_n E dX7_readsItem_74 0 rfl rfl ?_
      refine z_iload_n E dX7_readsItem_75 2 rfl rfl ?_
      refine z_aload_n E dX7_readsItem_76 0 rfl rfl ?_
      refine gt_X7_16 (v := .ref (h 11)) E dX7_readsItem_77 0 rfl rfl ?_
      refine z_bipush (v := (nI 24)) E dX7_readsItem_80 (by decide) ?_
      refine z_iconst (v := (nI 2)) E dX7_readsItem_82 (by decide) ?_
      refine z_iload_n E dX7_readsItem_83 3 rfl rfl ?_
      refine z_imulN E dX7_readsItem_84 ?_
      refine z_iaddN E dX7_readsItem_85 ?_
      refine z_ialdN (f := (va_up (M.2 11) (24 + (2 * (D.1 1))) (rnE R (nI 0) (nI ((D.1 0) - 1)) (-9) - 1))) E dX7_readsItem_86 3 rfl (by omega) (by decide) ?_
      refine z_topi (y := nI (rnE R (nI 0) (nI ((D.1 0) - 1)) (-9) - 1)) (congrArg nI (if_pos rfl)) ?_
      refine z_ro0 E (rV E hX (c_X7_unlike_f g a h (sA (sF M 8 (R.1 4 + 1)) 11 (va_up (M.2 11) (24 + (2 * (D.1 1))) (rnE R (nI 0) (nI ((D.1 0) - 1)) (-9) - 1))) (nI ((D.1 0) - 1)) (rnE R (nI 0) (nI ((D.1 0) - 1)) (-9) - 1) (⟨Nat.succ_ne_zero _, by show R.1 4 + 1 < 2 ^ 31; have qJ : rdJ R := hJ; have q1 := qJ.2.2.2; have q2 := qJ.1.2.2.1; omega⟩)) mw_X7_unlike ml_X7_124 dX7_readsItem_87 (Nat.le_of_ble_eq_true rfl) ⟨(Nat.le_of_ble_eq_true rfl), (Nat.le_of_ble_eq_true rfl)⟩ rfl rfl (Nat.le_of_ble_eq_true rfl) 0 rfl rfl) ?_
      refine z_iastN (f := (va_up (M.2 11) (24 + (2 * (D.1 1))) (rnE R (nI 0) (nI ((D.1 0) - 1)) (-9) - 1))) (i := (25 + (2 * (D.1 1)))) (x := 0) (ws' := wMod g a h (sA (sF M 8 (R.1 4 + 1)) 11 (va_up (va_up (M.2 11) (24 + (2 * (D.1 1))) (rnE R (nI 0) (nI ((D.1 0) - 1)) (-9) - 1)) (25 + (2 * (D.1 1))) 0))) E dX7_readsItem_90 3 rfl (by omega) (by decide) rfl ?_
      refine z_aload_n E dX7_readsItem_91 0 rfl rfl ?_
      refine gt_X7_19 (v := .ref (h 12)) E dX7_readsItem_92 0 rfl rfl ?_
      refine z_bipush (v := (nI 12)) E dX7_readsItem_95 (by decide) ?_
      refine z_iload_n E dX7_readsItem_97 3 rfl rfl ?_
      refine z_iaddN E dX7_readsItem_98 ?_
      refine z_aload_n E dX7_readsItem_99 0 rfl rfl ?_
      refine z_iconst (v := (nI 1)) E dX7_readsItem_100 (by decide) ?_
      refine z_bipush (v := (nI 60)) E dX7_readsItem_101 (by decide) ?_
      refine z_ro0 E (rV E hX (c_X7_number_f g a h (sA (sF M 8 (R.1 4 + 1)) 11 (va_up (va_up (M.2 11) (24 + (2 * (D.1 1))) (rnE R (nI 0) (nI ((D.1 0) - 1)) (-9) - 1)) (25 + (2 * (D.1 1))) 0)) (nI 1) (nI 60) (⟨Nat.succ_ne_zero _, by show R.1 4 + 1 < 2 ^ 31; have qJ : rdJ R := hJ; have q1 := qJ.2.2.2; have q2 := qJ.1.2.2.1; omega⟩)) mw_X7_number ml_X7_120 dX7_readsItem_103 (Nat.le_of_ble_eq_true rfl) ⟨(Nat.le_of_ble_eq_true rfl), (Nat.le_of_ble_eq_true rfl)⟩ rfl rfl (Nat.le_of_ble_eq_true rfl) 0 rfl rfl) ?_
      refine z_iastN (f := (M.2 12)) (i := (12 + (D.1 1))) (x := 0) (ws' := wMod g a h (sA (sA (sF M 8 (R.1 4 + 1)) 11 (va_up (va_up (M.2 11) (24 + (2 * (D.1 1))) (rnE R (nI 0) (nI ((D.1 0) - 1)) (-9) - 1)) (25 + (2 * (D.1 1))) 0)) 12 (va_up (M.2 12) (12 + (D.1 1)) 0))) E dX7_readsItem_106 4 rfl (by omega) (by decide) rfl ?_
      refine z_aload_n E dX7_readsItem_107 0 rfl rfl ?_
      refine gt_X7_13 (v := .ref (h 9)) E dX7_readsItem_108 0 rfl rfl ?_
      refine z_bipush (v := (nI 7)) E dX7_readsItem_111 (by decide) ?_
      refine z_dup2 E dX7_readsItem_113 rfl rfl ?_
      refine z_ialdN (f := (M.2 9)) E dX7_readsItem_114 2 rfl (by decide) (by decide) ?_
      refine z_topi (y := nI (D.1 1)) (congrArg nI (hmd.1 1 (by decide))) ?_
      refine z_iconst (v := (nI 1)) E dX7_readsItem_115 (by decide) ?_
      refine z_iaddN E dX7_readsItem_116 ?_
      refine z_iastN (f := (M.2 9)) (i := 7) (x := ((D.1 1) + 1)) (ws' := wMod g a h (sA (sA (sA (sF M 8 (R.1 4 + 1)) 9 (va_up (M.2 9) 7 ((D.1 1) + 1))) 11 (va_up (va_up (M.2 11) (24 + (2 * (D.1 1))) (rnE R (nI 0) (nI ((D.1 0) - 1)) (-9) - 1)) (25 + (2 * (D.1 1))) 0)) 12 (va_up (M.2 12) (12 + (D.1 1)) 0))) E dX7_readsItem_117 2 rfl (by decide) (by decide) rfl ?_
      refine z_goto E dX7_readsItem_118 277 (by decide) ?_
      refine z_vret E Er dX7_readsItem_277 ?_
      exact ⟨rfl, _, rfl, (((((dQ.rf M).F (by omega)).A9 (fun k hk => up1 (n := 6) (by omega) hk)).A11 (fun k hk => up2 (n := 24) (by omega) (by omega) hk)).A12 (fun k hk => up1 (n := 12) (by omega) hk)), hps.2.2.2.2.2.2, it_no (by show spRo R D = _; unfold spRo; rw [if_pos he1]) (by rw [rnS_0 he1]; rfl)⟩
    · refine z_ws (ws' := wMod g a h (sF (sF (sF (sF M 4 x41) 5 x51) 6 x61) 7 x71)) rfl ?_
      refine z_iastN (f := (M.2 11)) (i := (24 + (2 * (D.1 1)))) (x := (rnE R (nI 0) (nI ((D.1 0) - 1)) (-9) - 1)) (ws' := wMod g a h (sA (sF (sF (sF (sF M 4 x41) 5 x51) 6 x61) 7 x71) 11 (va_up (M.2 11) (24 + (2 * (D.1 1))) (rnE R (nI 0) (nI ((D.1 0) - 1)) (-9) - 1)))) E dX7_readsItem_63 3 rfl (by omega) (by decide) rfl ?_
      refine z_aload_n E dX7_readsItem_64 0 rfl rfl ?_
      refine gt_X7_16 (v := .ref (h 11)) E dX7_readsItem_65 0 rfl rfl ?_
      refine z_bipush (v := (nI 25)) E dX7_readsItem_68 (by decide) ?_
      refine z_iconst (v := (nI 2)) E dX7_readsItem_70 (by decide) ?_
      refine z_iload_n E dX7_readsItem_71 3 rfl rfl ?_
      refine z_imulN E dX7_readsItem_72 ?_
      refine z_iaddN E dX7_readsItem_73 ?_
      refine z_aload_n E dX7_readsItem_74 0 rfl rfl ?_
      refine z_iload_n E dX7_readsItem_75 2 rfl rfl ?_
      refine z_aload_n E dX7_readsItem_76 0 rfl rfl ?_
      refine gt_X7_16 (v := .ref (h 11)) E dX7_readsItem_77 0 rfl rfl ?_
      refine z_bipush (v := (nI 24)) E dX7_readsItem_80 (by decide) ?_
      refine z_iconst (v := (nI 2)) E dX7_readsItem_82 (by decide) ?_
      refine z_iload_n E dX7_readsItem_83 3 rfl rfl ?_
      refine z_imulN E dX7_readsItem_84 ?_
      refine z_iaddN E dX7_readsItem_85 ?_
      refine z_ialdN (f := (va_up (M.2 11) (24 + (2 * (D.1 1))) (rnE R (nI 0) (nI ((D.1 0) - 1)) (-9) - 1))) E dX7_readsItem_86 3 rfl (by omega) (by decide) ?_
      refine z_topi (y := nI (rnE R (nI 0) (nI ((D.1 0) - 1)) (-9) - 1)) (congrArg nI (if_pos rfl)) ?_
      refine z_q0 E (rV E hX (c_X7_unlike g a h (sA (sF (sF (sF (sF M 4 x41) 5 x51) 6 x61) 7 x71) 11 (va_up (M.2 11) (24 + (2 * (D.1 1))) (rnE R (nI 0) (nI ((D.1 0) - 1)) (-9) - 1))) (nI ((D.1 0) - 1)) (rnE R (nI 0) (nI ((D.1 0) - 1)) (-9) - 1) (rnS R (nI 0) (nI (D.1 0 - 1)) (-9)) h8 hps1 (rnS_J hJ) (by have := rnE_lt (lo := (nI 0)) (hi := (nI (D.1 0 - 1))) (bt := (-9)) hJ; omega)) mw_X7_unlike ml_X7_124 dX7_readsItem_87 (Nat.le_of_ble_eq_true rfl) ⟨(Nat.le_of_ble_eq_true rfl), (Nat.le_of_ble_eq_true rfl)⟩ rfl rfl (Nat.le_of_ble_eq_true rfl) 0 rfl rfl) (fun r w2 hw => ?_)
      obtain ⟨M9, rfl, rfl, hnb⟩ := hw
      refine ⟨rfl, ?_⟩
      refine z_ws (ws' := wMod g a h M9) rfl ?_
      rcases hnb with ⟨he2, rfl⟩ | ⟨he2, x42, x52, x62, x72, rfl, hps2⟩
      · refine z_ws (ws' := wMod g a h (sA (sF (sF (sF (sF (sF M 4 x41) 5 x51) 6 x61) 7 x71) 8 ((rnS R (nI 0) (nI (D.1 0 - 1)) (-9)).1 4 + 1)) 11 (va_up (M.2 11) (24 + (2 * (D.1 1))) (rnE R (nI 0) (nI ((D.1 0) - 1)) (-9) - 1)))) rfl ?_
        refine z_iastN (f := (va_up (M.2 11) (24 + (2 * (D.1 1))) (rnE R (nI 0) (nI ((D.1 0) - 1)) (-9) - 1))) (i := (25 + (2 * (D.1 1)))) (x := (rnE (rnS R (nI 0) (nI (D.1 0 - 1)) (-9)) (nI 0) (nI ((D.1 0) - 1)) (nI (rnE R (nI 0) (nI ((D.1 0) - 1)) (-9) - 1)) - 1)) (ws' := wMod g a h (sA (sF (sF (sF (sF (sF M 4 x41) 5 x51) 6 x61) 7 x71) 8 ((rnS R (nI 0) (nI (D.1 0 - 1)) (-9)).1 4 + 1)) 11 (va_up (va_up (M.2 11) (24 + (2 * (D.1 1))) (rnE R (nI 0) (nI ((D.1 0) - 1)) (-9) - 1)) (25 + (2 * (D.1 1))) (rnE (rnS R (nI 0) (nI (D.1 0 - 1)) (-9)) (nI 0) (nI ((D.1 0) - 1)) (nI (rnE R (nI 0) (nI ((D.1 0) - 1)) (-9) - 1)) - 1)))) E dX7_readsItem_90 3 rfl (by omega) (by decide) rfl ?_
        refine z_aload_n E dX7_readsItem_91 0 rfl rfl ?_
        refine gt_X7_19 (v := .ref (h 12)) E dX7_readsItem_92 0 rfl rfl ?_
        refine z_bipush (v := (nI 12)) E dX7_readsItem_95 (by decide) ?_
        refine z_iload_n E dX7_readsItem_97 3 rfl rfl ?_
        refine z_iaddN E dX7_readsItem_98 ?_
        refine z_aload_n E dX7_readsItem_99 0 rfl rfl ?_
        refine z_iconst (v := (nI 1)) E dX7_readsItem_100 (by decide) ?_
        refine z_bipush (v := (nI 60)) E dX7_readsItem_101 (by decide) ?_
        refine z_ro0 E (rV E hX (c_X7_number_f g a h (sA (sF (sF (sF (sF (sF M 4 x41) 5 x51) 6 x61) 7 x71) 8 ((rnS R (nI 0) (nI (D.1 0 - 1)) (-9)).1 4 + 1)) 11 (va_up (va_up (M.2 11) (24 + (2 * (D.1 1))) (rnE R (nI 0) (nI ((D.1 0) - 1)) (-9) - 1)) (25 + (2 * (D.1 1))) (rnE (rnS R (nI 0) (nI (D.1 0 - 1)) (-9)) (nI 0) (nI ((D.1 0) - 1)) (nI (rnE R (nI 0) (nI ((D.1 0) - 1)) (-9) - 1)) - 1))) (nI 1) (nI 60) (⟨Nat.succ_ne_zero _, by show (rnS R (nI 0) (nI (D.1 0 - 1)) (-9)).1 4 + 1 < 2 ^ 31; have qJ : rdJ (rnS R (nI 0) (nI (D.1 0 - 1)) (-9)) := (rnS_J hJ); have q1 := qJ.2.2.2; have q2 := qJ.1.2.2.1; omega⟩)) mw_X7_number ml_X7_120 dX7_readsItem_103 (Nat.le_of_ble_eq_true rfl) ⟨(Nat.le_of_ble_eq_true rfl), (Nat.le_of_ble_eq_true rfl)⟩ rfl rfl (Nat.le_of_ble_eq_true rfl) 0 rfl rfl) ?_
        refine z_iastN (f := (M.2 12)) (i := (12 + (D.1 1))) (x := 0) (ws' := wMod g a h (sA (sA (sF (sF (sF (sF (sF M 4 x41) 5 x51) 6 x61) 7 x71) 8 ((rnS R (nI 0) (nI (D.1 0 - 1)) (-9)).1 4 + 1)) 11 (va_up (va_up (M.2 11) (24 + (2 * (D.1 1))) (rnE R (nI 0) (nI ((D.1 0) - 1)) (-9) - 1)) (25 + (2 * (D.1 1))) (rnE (rnS R (nI 0) (nI (D.1 0 - 1)) (-9)) (nI 0) (nI ((D.1 0) - 1)) (nI (rnE R (nI 0) (nI ((D.1 0) - 1)) (-9) - 1)) - 1))) 12 (va_up (M.2 12) (12 + (D.1 1)) 0))) E dX7_readsItem_106 4 rfl (by omega) (by decide) rfl ?_
        refine z_aload_n E dX7_readsItem_107 0 rfl rfl ?_
        refine gt_X7_13 (v := .ref (h 9)) E dX7_readsItem_108 0 rfl rfl ?_
        refine z_bipush (v := (nI 7)) E dX7_readsItem_111 (by decide) ?_
        refine z_dup2 E dX7_readsItem_113 rfl rfl ?_
        refine z_ialdN (f := (M.2 9)) E dX7_readsItem_114 2 rfl (by decide) (by decide) ?_
        refine z_topi (y := nI (D.1 1)) (congrArg nI (hmd.1 1 (by decide))) ?_
        refine z_iconst (v := (nI 1)) E dX7_readsItem_115 (by decide) ?_
        refine z_iaddN E dX7_readsItem_116 ?_
        refine z_iastN (f := (M.2 9)) (i := 7) (x := ((D.1 1) + 1)) (ws' := wMod g a h (sA (sA (sA (sF (sF (sF (sF (sF M 4 x41) 5 x51) 6 x61) 7 x71) 8 ((rnS R (nI 0) (nI (D.1 0 - 1)) (-9)).1 4 + 1)) 9 (va_up (M.2 9) 7 ((D.1 1) + 1))) 11 (va_up (va_up (M.2 11) (24 + (2 * (D.1 1))) (rnE R (nI 0) (nI ((D.1 0) - 1)) (-9) - 1)) (25 + (2 * (D.1 1))) (rnE (rnS R (nI 0) (nI (D.1 0 - 1)) (-9)) (nI 0) (nI ((D.1 0) - 1)) (nI (rnE R (nI 0) (nI ((D.1 0) - 1)) (-9) - 1)) - 1))) 12 (va_up (M.2 12) (12 + (D.1 1)) 0))) E dX7_readsItem_117 2 rfl (by decide) (by decide) rfl ?_
        refine z_goto E dX7_readsItem_118 277 (by decide) ?_
        refine z_vret E Er dX7_readsItem_277 ?_
        exact ⟨rfl, _, rfl, (((((((((dQ.rf M).F (by omega)).F (by omega)).F (by omega)).F (by omega)).F (by omega)).A9 (fun k hk => up1 (n := 6) (by omega) hk)).A11 (fun k hk => up2 (n := 24) (by omega) (by omega) hk)).A12 (fun k hk => up1 (n := 12) (by omega) hk)), hps1.2.2.2.2.2.2, it_no (by show spRo R D = _; unfold spRo; rw [if_neg he1, if_pos he2]) (by rw [rnS_0 he2]; rfl)⟩
      · refine z_ws (ws' := wMod g a h (sA (sF (sF (sF (sF M 4 x42) 5 x52) 6 x62) 7 x72) 11 (va_up (M.2 11) (24 + (2 * (D.1 1))) (rnE R (nI 0) (nI ((D.1 0) - 1)) (-9) - 1)))) rfl ?_
        refine z_iastN (f := (va_up (M.2 11) (24 + (2 * (D.1 1))) (rnE R (nI 0) (nI ((D.1 0) - 1)) (-9) - 1))) (i := (25 + (2 * (D.1 1)))) (x := (rnE (rnS R (nI 0) (nI (D.1 0 - 1)) (-9)) (nI 0) (nI ((D.1 0) - 1)) (nI (rnE R (nI 0) (nI ((D.1 0) - 1)) (-9) - 1)) - 1)) (ws' := wMod g a h (sA (sF (sF (sF (sF M 4 x42) 5 x52) 6 x62) 7 x72) 11 (va_up (va_up (M.2 11) (24 + (2 * (D.1 1))) (rnE R (nI 0) (nI ((D.1 0) - 1)) (-9) - 1)) (25 + (2 * (D.1 1))) (rnE (rnS R (nI 0) (nI (D.1 0 - 1)) (-9)) (nI 0) (nI ((D.1 0) - 1)) (nI (rnE R (nI 0) (nI ((D.1 0) - 1)) (-9) - 1)) - 1)))) E dX7_readsItem_90 3 rfl (by omega) (by decide) rfl ?_
        refine z_aload_n E dX7_readsItem_91 0 rfl rfl ?_
        refine gt_X7_19 (v := .ref (h 12)) E dX7_readsItem_92 0 rfl rfl ?_
        refine z_bipush (v := (nI 12)) E dX7_readsItem_95 (by decide) ?_
        refine z_iload_n E dX7_readsItem_97 3 rfl rfl ?_
        refine z_iaddN E dX7_readsItem_98 ?_
        refine z_aload_n E dX7_readsItem_99 0 rfl rfl ?_
        refine z_iconst (v := (nI 1)) E dX7_readsItem_100 (by decide) ?_
        refine z_bipush (v := (nI 60)) E dX7_readsItem_101 (by decide) ?_
        refine z_q0 E (rV E hX (c_X7_number g a h (sA (sF (sF (sF (sF M 4 x42) 5 x52) 6 x62) 7 x72) 11 (va_up (va_up (M.2 11) (24 + (2 * (D.1 1))) (rnE R (nI 0) (nI ((D.1 0) - 1)) (-9) - 1)) (25 + (2 * (D.1 1))) (rnE (rnS R (nI 0) (nI (D.1 0 - 1)) (-9)) (nI 0) (nI ((D.1 0) - 1)) (nI (rnE R (nI 0) (nI ((D.1 0) - 1)) (-9) - 1)) - 1))) (nI 1) (nI 60) (rnS (rnS R (nI 0) (nI (D.1 0 - 1)) (-9)) (nI 0) (nI (D.1 0 - 1)) (nI ((rnE R (nI 0) (nI (D.1 0 - 1)) (-9)) - 1))) h8 hps2 (rnS_J (rnS_J hJ))) mw_X7_number ml_X7_120 dX7_readsItem_103 (Nat.le_of_ble_eq_true rfl) ⟨(Nat.le_of_ble_eq_true rfl), (Nat.le_of_ble_eq_true rfl)⟩ rfl rfl (Nat.le_of_ble_eq_true rfl) 0 rfl rfl) (fun r w2 hw => ?_)
        obtain ⟨M9, rfl, rfl, hnb⟩ := hw
        refine ⟨rfl, ?_⟩
        refine z_ws (ws' := wMod g a h M9) rfl ?_
        rcases hnb with ⟨he3, rfl⟩ | ⟨he3, x43, x53, x63, x73, rfl, hps3⟩
        · refine z_ws (ws' := wMod g a h (sA (sF (sF (sF (sF (sF M 4 x42) 5 x52) 6 x62) 7 x72) 8 ((rnS (rnS R (nI 0) (nI (D.1 0 - 1)) (-9)) (nI 0) (nI (D.1 0 - 1)) (nI ((rnE R (nI 0) (nI (D.1 0 - 1)) (-9)) - 1))).1 4 + 1)) 11 (va_up (va_up (M.2 11) (24 + (2 * (D.1 1))) (rnE R (nI 0) (nI ((D.1 0) - 1)) (-9) - 1)) (25 + (2 * (D.1 1))) (rnE (rnS R (nI 0) (nI (D.1 0 - 1)) (-9)) (nI 0) (nI ((D.1 0) - 1)) (nI (rnE R (nI 0) (nI ((D.1 0) - 1)) (-9) - 1)) - 1)))) rfl ?_
          refine z_iastN (f := (M.2 12)) (i := (12 + (D.1 1))) (x := (rnE (rnS (rnS R (nI 0) (nI (D.1 0 - 1)) (-9)) (nI 0) (nI (D.1 0 - 1)) (nI ((rnE R (nI 0) (nI (D.1 0 - 1)) (-9)) - 1))) (nI 1) (nI 60) (-9) - 1)) (ws' := wMod g a h (sA (sA (sF (sF (sF (sF (sF M 4 x42) 5 x52) 6 x62) 7 x72) 8 ((rnS (rnS R (nI 0) (nI (D.1 0 - 1)) (-9)) (nI 0) (nI (D.1 0 - 1)) (nI ((rnE R (nI 0) (nI (D.1 0 - 1)) (-9)) - 1))).1 4 + 1)) 11 (va_up (va_up (M.2 11) (24 + (2 * (D.1 1))) (rnE R (nI 0) (nI ((D.1 0) - 1)) (-9) - 1)) (25 + (2 * (D.1 1))) (rnE (rnS R (nI 0) (nI (D.1 0 - 1)) (-9)) (nI 0) (nI ((D.1 0) - 1)) (nI (rnE R (nI 0) (nI ((D.1 0) - 1)) (-9) - 1)) - 1))) 12 (va_up (M.2 12) (12 + (D.1 1)) (rnE (rnS (rnS R (nI 0) (nI (D.1 0 - 1)) (-9)) (nI 0) (nI (D.1 0 - 1)) (nI ((rnE R (nI 0) (nI (D.1 0 - 1)) (-9)) - 1))) (nI 1) (nI 60) (-9) - 1)))) E dX7_readsItem_106 4 rfl (by omega) (by decide) rfl ?_
          refine z_aload_n E dX7_readsItem_107 0 rfl rfl ?_
          refine gt_X7_13 (v := .ref (h 9)) E dX7_readsItem_108 0 rfl rfl ?_
          refine z_bipush (v := (nI 7)) E dX7_readsItem_111 (by decide) ?_
          refine z_dup2 E dX7_readsItem_113 rfl rfl ?_
          refine z_ialdN (f := (M.2 9)) E dX7_readsItem_114 2 rfl (by decide) (by decide) ?_
          refine z_topi (y := nI (D.1 1)) (congrArg nI (hmd.1 1 (by decide))) ?_
          refine z_iconst (v := (nI 1)) E dX7_readsItem_115 (by decide) ?_
          refine z_iaddN E dX7_readsItem_116 ?_
          refine z_iastN (f := (M.2 9)) (i := 7) (x := ((D.1 1) + 1)) (ws' := wMod g a h (sA (sA (sA (sF (sF (sF (sF (sF M 4 x42) 5 x52) 6 x62) 7 x72) 8 ((rnS (rnS R (nI 0) (nI (D.1 0 - 1)) (-9)) (nI 0) (nI (D.1 0 - 1)) (nI ((rnE R (nI 0) (nI (D.1 0 - 1)) (-9)) - 1))).1 4 + 1)) 9 (va_up (M.2 9) 7 ((D.1 1) + 1))) 11 (va_up (va_up (M.2 11) (24 + (2 * (D.1 1))) (rnE R (nI 0) (nI ((D.1 0) - 1)) (-9) - 1)) (25 + (2 * (D.1 1))) (rnE (rnS R (nI 0) (nI (D.1 0 - 1)) (-9)) (nI 0) (nI ((D.1 0) - 1)) (nI (rnE R (nI 0) (nI ((D.1 0) - 1)) (-9) - 1)) - 1))) 12 (va_up (M.2 12) (12 + (D.1 1)) (rnE (rnS (rnS R (nI 0) (nI (D.1 0 - 1)) (-9)) (nI 0) (nI (D.1 0 - 1)) (nI ((rnE R (nI 0) (nI (D.1 0 - 1)) (-9)) - 1))) (nI 1) (nI 60) (-9) - 1)))) E dX7_readsItem_117 2 rfl (by decide) (by decide) rfl ?_
          refine z_goto E dX7_readsItem_118 277 (by decide) ?_
          refine z_vret E Er dX7_readsItem_277 ?_
          exact ⟨rfl, _, rfl, (((((((((dQ.rf M).F (by omega)).F (by omega)).F (by omega)).F (by omega)).F (by omega)).A9 (fun k hk => up1 (n := 6) (by omega) hk)).A11 (fun k hk => up2 (n := 24) (by omega) (by omega) hk)).A12 (fun k hk => up1 (n := 12) (by omega) hk)), hps2.2.2.2.2.2.2, it_no (by show spRo R D = _; unfold spRo; rw [if_neg he1, if_neg he2, if_pos he3]) (by rw [rnS_0 he3]; rfl)⟩
        · refine z_ws (ws' := wMod g a h (sA (sF (sF (sF (sF M 4 x43) 5 x53) 6 x63) 7 x73) 11 (va_up (va_up (M.2 11) (24 + (2 * (D.1 1))) (rnE R (nI 0) (nI ((D.1 0) - 1)) (-9) - 1)) (25 + (2 * (D.1 1))) (rnE (rnS R (nI 0) (nI (D.1 0 - 1)) (-9)) (nI 0) (nI ((D.1 0) - 1)) (nI (rnE R (nI 0) (nI ((D.1 0) - 1)) (-9) - 1)) - 1)))) rfl ?_
          refine z_iastN (f := (M.2 12)) (i := (12 + (D.1 1))) (x := (rnE (rnS (rnS R (nI 0) (nI (D.1 0 - 1)) (-9)) (nI 0) (nI (D.1 0 - 1)) (nI ((rnE R (nI 0) (nI (D.1 0 - 1)) (-9)) - 1))) (nI 1) (nI 60) (-9) - 1)) (ws' := wMod g a h (sA (sA (sF (sF (sF (sF M 4 x43) 5 x53) 6 x63) 7 x73) 11 (va_up (va_up (M.2 11) (24 + (2 * (D.1 1))) (rnE R (nI 0) (nI ((D.1 0) - 1)) (-9) - 1)) (25 + (2 * (D.1 1))) (rnE (rnS R (nI 0) (nI (D.1 0 - 1)) (-9)) (nI 0) (nI ((D.1 0) - 1)) (nI (rnE R (nI 0) (nI ((D.1 0) - 1)) (-9) - 1)) - 1))) 12 (va_up (M.2 12) (12 + (D.1 1)) (rnE (rnS (rnS R (nI 0) (nI (D.1 0 - 1)) (-9)) (nI 0) (nI (D.1 0 - 1)) (nI ((rnE R (nI 0) (nI (D.1 0 - 1)) (-9)) - 1))) (nI 1) (nI 60) (-9) - 1)))) E dX7_readsItem_106 4 rfl (by omega) (by decide) rfl ?_
          refine z_aload_n E dX7_readsItem_107 0 rfl rfl ?_
          refine gt_X7_13 (v := .ref (h 9)) E dX7_readsItem_108 0 rfl rfl ?_
          refine z_bipush (v := (nI 7)) E dX7_readsItem_111 (by decide) ?_
          refine z_dup2 E dX7_readsItem_113 rfl rfl ?_
          refine z_ialdN (f := (M.2 9)) E dX7_readsItem_114 2 rfl (by decide) (by decide) ?_
          refine z_topi (y := nI (D.1 1)) (congrArg nI (hmd.1 1 (by decide))) ?_
          refine z_iconst (v := (nI 1)) E dX7_readsItem_115 (by decide) ?_
          refine z_iaddN E dX7_readsItem_116 ?_
          refine z_iastN (f := (M.2 9)) (i := 7) (x := ((D.1 1) + 1)) (ws' := wMod g a h (sA (sA (sA (sF (sF (sF (sF M 4 x43) 5 x53) 6 x63) 7 x73) 9 (va_up (M.2 9) 7 ((D.1 1) + 1))) 11 (va_up (va_up (M.2 11) (24 + (2 * (D.1 1))) (rnE R (nI 0) (nI ((D.1 0) - 1)) (-9) - 1)) (25 + (2 * (D.1 1))) (rnE (rnS R (nI 0) (nI (D.1 0 - 1)) (-9)) (nI 0) (nI ((D.1 0) - 1)) (nI (rnE R (nI 0) (nI ((D.1 0) - 1)) (-9) - 1)) - 1))) 12 (va_up (M.2 12) (12 + (D.1 1)) (rnE (rnS (rnS R (nI 0) (nI (D.1 0 - 1)) (-9)) (nI 0) (nI (D.1 0 - 1)) (nI ((rnE R (nI 0) (nI (D.1 0 - 1)) (-9)) - 1))) (nI 1) (nI 60) (-9) - 1)))) E dX7_readsItem_117 2 rfl (by decide) (by decide) rfl ?_
          refine z_goto E dX7_readsItem_118 277 (by decide) ?_
          refine z_vret E Er dX7_readsItem_277 ?_
          exact ⟨rfl, _, rfl, ((((((((dQ.rf M).F (by omega)).F (by omega)).F (by omega)).F (by omega)).A9 (fun k hk => up1 (n := 6) (by omega) hk)).A11 (fun k hk => up2 (n := 24) (by omega) (by omega) hk)).A12 (fun k hk => up1 (n := 12) (by omega) hk)), hps3.2.2.2.2.2.2, it_yes (by show spRo R D = _; unfold spRo; rw [if_neg he1, if_neg he2, if_neg he3]) ⟨h8, hps3, md_road hmd h12 rfl rfl rfl rfl, tdR_rn (tdR_rn (tdR_rn htd))⟩⟩
  · refine z_aload_n E dX7_readsItem_0 0 rfl rfl ?_
    refine gt_X7_13 (v := .ref (h 9)) E dX7_readsItem_1 0 rfl rfl ?_
    refine z_bipush (v := (nI 6)) E dX7_readsItem_4 (by decide) ?_
    refine z_ialdN (f := (M.2 9)) E dX7_readsItem_6 2 rfl (by decide) (by decide) ?_
    refine z_topi (y := nI (D.1 0)) (congrArg nI (hmd.1 0 (by decide))) ?_
    refine z_iconst (v := (nI 1)) E dX7_readsItem_7 (by decide) ?_
    refine z_isubN E dX7_readsItem_8 (by omega) ?_
    refine z_istore_n (lv' := [(0, .ref a), (1, .int (nI 115)), (2, .int (nI ((D.1 0) - 1)))]) E dX7_readsItem_9 2 rfl (by decide) rfl ?_
    refine z_aload_n E dX7_readsItem_10 0 rfl rfl ?_
    refine gt_X7_13 (v := .ref (h 9)) E dX7_readsItem_11 0 rfl rfl ?_
    refine z_bipush (v := (nI 7)) E dX7_readsItem_14 (by decide) ?_
    refine z_ialdN (f := (M.2 9)) E dX7_readsItem_16 2 rfl (by decide) (by decide) ?_
    refine z_topi (y := nI (D.1 1)) (congrArg nI (hmd.1 1 (by decide))) ?_
    refine z_istore_n (lv' := [(0, .ref a), (1, .int (nI 115)), (2, .int (nI ((D.1 0) - 1))), (3, .int (nI (D.1 1)))]) E dX7_readsItem_17 3 rfl (by decide) rfl ?_
    refine z_iload_n E dX7_readsItem_18 1 rfl rfl ?_
    refine z_bipush (v := (nI 112)) E dX7_readsItem_19 (by decide) ?_
    refine z_icmpN_ne E dX7_readsItem_21 41 (by decide) (by decide) (by decide) (fun _ => ?_) (fun h => absurd h (by decide))
    refine z_iload_n E dX7_readsItem_41 1 rfl rfl ?_
    refine z_bipush (v := (nI 114)) E dX7_readsItem_42 (by decide) ?_
    refine z_icmpN_ne E dX7_readsItem_44 121 (by decide) (by decide) (by decide) (fun _ => ?_) (fun h => absurd h (by decide))
    refine z_iload_n E dX7_readsItem_121 1 rfl rfl ?_
    refine z_bipush (v := (nI 115)) E dX7_readsItem_122 (by decide) ?_
    refine z_icmpN_ne E dX7_readsItem_124 192 (by decide) (by decide) (by decide) (fun h => absurd h (by decide)) (fun _ => ?_)
    refine z_aload_n E dX7_readsItem_127 0 rfl rfl ?_
    refine z_iconst (v := (nI 0)) E dX7_readsItem_128 (by decide) ?_
    refine z_iload_n E dX7_readsItem_129 3 rfl rfl ?_
    refine z_iconst (v := (nI 1)) E dX7_readsItem_130 (by decide) ?_
    refine z_isub E dX7_readsItem_131 ?_
    refine z_q0 E (rV E hX (c_X7_number g a h M (nI 0) ((nI (D.1 1)) - (nI 1)) R h8 hps hJ) mw_X7_number ml_X7_120 dX7_readsItem_132 (Nat.le_of_ble_eq_true rfl) ⟨(Nat.le_of_ble_eq_true rfl), (Nat.le_of_ble_eq_true rfl)⟩ rfl rfl (Nat.le_of_ble_eq_true rfl) 0 rfl rfl) (fun r w2 hw => ?_)
    obtain ⟨M9, rfl, rfl, hnb⟩ := hw
    refine ⟨rfl, ?_⟩
    refine z_ws (ws' := wMod g a h M9) rfl ?_
    rcases hnb with ⟨he1, rfl⟩ | ⟨he1, x41, x51, x61, x71, rfl, hps1⟩
    · refine z_ws (ws' := wMod g a h (sF M 8 (R.1 4 + 1))) rfl ?_
      refine z_istore (lv' := [(0, .ref a), (1, .int (nI 115)), (2, .int (nI ((D.1 0) - 1))), (3, .int (nI (D.1 1))), (4, .int (nI (rnE R (nI 0) ((nI (D.1 1)) - (nI 1)) (-9) - 1)))]) E dX7_readsItem_135 (by decide) rfl ?_
      refine z_aload_n E dX7_readsItem_137 0 rfl rfl ?_
      refine z_iload_n E dX7_readsItem_138 3 rfl rfl ?_
      refine z_iconst (v := (nI 1)) E dX7_readsItem_139 (by decide) ?_
      refine z_isub E dX7_readsItem_140 ?_
      refine z_iload E dX7_readsItem_141 4 rfl ?_
      refine z_ro0 E (rV E hX (c_X7_unlike_f g a h (sF M 8 (R.1 4 + 1)) ((nI (D.1 1)) - (nI 1)) (rnE R (nI 0) ((nI (D.1 1)) - (nI 1)) (-9) - 1) (⟨Nat.succ_ne_zero _, by show R.1 4 + 1 < 2 ^ 31; have qJ : rdJ R := hJ; have q1 := qJ.2.2.2; have q2 := qJ.1.2.2.1; omega⟩)) mw_X7_unlike ml_X7_124 dX7_readsItem_143 (Nat.le_of_ble_eq_true rfl) ⟨(Nat.le_of_ble_eq_true rfl), (Nat.le_of_ble_eq_true rfl)⟩ rfl rfl (Nat.le_of_ble_eq_true rfl) 0 rfl rfl) ?_
      refine z_istore (lv' := [(0, .ref a), (1, .int (nI 115)), (2, .int (nI ((D.1 0) - 1))), (3, .int (nI (D.1 1))), (4, .int (nI (rnE R (nI 0) ((nI (D.1 1)) - (nI 1)) (-9) - 1))), (5, .int (nI 0))]) E dX7_readsItem_146 (by decide) rfl ?_
      refine z_aload_n E dX7_readsItem_148 0 rfl rfl ?_
      refine z_ro0 E (rV E hX (c_X7_isWell g a h (sF M 8 (R.1 4 + 1)) (by show R.1 4 + 1 < 2 ^ 31; have qJ : rdJ R := hJ; have q1 := qJ.2.2.2; have q2 := qJ.1.2.2.1; omega)) mw_X7_isWell ml_X7_103 dX7_readsItem_149 (Nat.le_of_ble_eq_true rfl) ⟨(Nat.le_of_ble_eq_true rfl), (Nat.le_of_ble_eq_true rfl)⟩ rfl rfl (Nat.le_of_ble_eq_true rfl) 0 rfl rfl) ?_
      refine z_ifB_eq E dX7_readsItem_152 189 (by decide) (fun _ => ?_) (fun h => absurd (of_decide_eq_true h) (Nat.succ_ne_zero _))
      refine z_goto E dX7_readsItem_189 277 (by decide) ?_
      refine z_vret E Er dX7_readsItem_277 ?_
      exact ⟨rfl, _, rfl, ((dQ.rf M).F (by omega)), hps.2.2.2.2.2.2, it_no (by show spSt R D = _; unfold spSt; rw [if_pos he1]) (by rw [rnS_0 he1]; rfl)⟩
    · refine z_ws (ws' := wMod g a h (sF (sF (sF (sF M 4 x41) 5 x51) 6 x61) 7 x71)) rfl ?_
      refine z_istore (lv' := [(0, .ref a), (1, .int (nI 115)), (2, .int (nI ((D.1 0) - 1))), (3, .int (nI (D.1 1))), (4, .int (nI (rnE R (nI 0) ((nI (D.1 1)) - (nI 1)) (-9) - 1)))]) E dX7_readsItem_135 (by decide) rfl ?_
      refine z_aload_n E dX7_readsItem_137 0 rfl rfl ?_
      refine z_iload_n E dX7_readsItem_138 3 rfl rfl ?_
      refine z_iconst (v := (nI 1)) E dX7_readsItem_139 (by decide) ?_
      refine z_isub E dX7_readsItem_140 ?_
      refine z_iload E dX7_readsItem_141 4 rfl ?_
      refine z_q0 E (rV E hX (c_X7_unlike g a h (sF (sF (sF (sF M 4 x41) 5 x51) 6 x61) 7 x71) ((nI (D.1 1)) - (nI 1)) (rnE R (nI 0) ((nI (D.1 1)) - (nI 1)) (-9) - 1) (rnS R (nI 0) (nI (D.1 1) - nI 1) (-9)) h8 hps1 (rnS_J hJ) (by have := rnE_lt (lo := (nI 0)) (hi := (nI (D.1 1) - nI 1)) (bt := (-9)) hJ; omega)) mw_X7_unlike ml_X7_124 dX7_readsItem_143 (Nat.le_of_ble_eq_true rfl) ⟨(Nat.le_of_ble_eq_true rfl), (Nat.le_of_ble_eq_true rfl)⟩ rfl rfl (Nat.le_of_ble_eq_true rfl) 0 rfl rfl) (fun r w2 hw => ?_)
      obtain ⟨M9, rfl, rfl, hnb⟩ := hw
      refine ⟨rfl, ?_⟩
      refine z_ws (ws' := wMod g a h M9) rfl ?_
      rcases hnb with ⟨he2, rfl⟩ | ⟨he2, x42, x52, x62, x72, rfl, hps2⟩
      · refine z_ws (ws' := wMod g a h (sF (sF (sF (sF (sF M 4 x41) 5 x51) 6 x61) 7 x71) 8 ((rnS R (nI 0) (nI (D.1 1) - nI 1) (-9)).1 4 + 1))) rfl ?_
        refine z_istore (lv' := [(0, .ref a), (1, .int (nI 115)), (2, .int (nI ((D.1 0) - 1))), (3, .int (nI (D.1 1))), (4, .int (nI (rnE R (nI 0) ((nI (D.1 1)) - (nI 1)) (-9) - 1))), (5, .int (nI (rnE (rnS R (nI 0) (nI (D.1 1) - nI 1) (-9)) (nI 0) ((nI (D.1 1)) - (nI 1)) (nI (rnE R (nI 0) ((nI (D.1 1)) - (nI 1)) (-9) - 1)) - 1)))]) E dX7_readsItem_146 (by decide) rfl ?_
        refine z_aload_n E dX7_readsItem_148 0 rfl rfl ?_
        refine z_ro0 E (rV E hX (c_X7_isWell g a h (sF (sF (sF (sF (sF M 4 x41) 5 x51) 6 x61) 7 x71) 8 ((rnS R (nI 0) (nI (D.1 1) - nI 1) (-9)).1 4 + 1)) (by show (rnS R (nI 0) (nI (D.1 1) - nI 1) (-9)).1 4 + 1 < 2 ^ 31; have qJ : rdJ (rnS R (nI 0) (nI (D.1 1) - nI 1) (-9)) := (rnS_J hJ); have q1 := qJ.2.2.2; have q2 := qJ.1.2.2.1; omega)) mw_X7_isWell ml_X7_103 dX7_readsItem_149 (Nat.le_of_ble_eq_true rfl) ⟨(Nat.le_of_ble_eq_true rfl), (Nat.le_of_ble_eq_true rfl)⟩ rfl rfl (Nat.le_of_ble_eq_true rfl) 0 rfl rfl) ?_
        refine z_ifB_eq E dX7_readsItem_152 189 (by decide) (fun _ => ?_) (fun h => absurd (of_decide_eq_true h) (Nat.succ_ne_zero _))
        refine z_goto E dX7_readsItem_189 277 (by decide) ?_
        refine z_vret E Er dX7_readsItem_277 ?_
        exact ⟨rfl, _, rfl, ((((((dQ.rf M).F (by omega)).F (by omega)).F (by omega)).F (by omega)).F (by omega)), hps1.2.2.2.2.2.2, it_no (by show spSt R D = _; unfold spSt; rw [if_neg he1, if_pos he2]) (by rw [rnS_0 he2]; rfl)⟩
      · refine z_ws (ws' := wMod g a h (sF (sF (sF (sF M 4 x42) 5 x52) 6 x62) 7 x72)) rfl ?_
        refine z_istore (lv' := [(0, .ref a), (1, .int (nI 115)), (2, .int (nI ((D.1 0) - 1))), (3, .int (nI (D.1 1))), (4, .int (nI (rnE R (nI 0) ((nI (D.1 1)) - (nI 1)) (-9) - 1))), (5, .int (nI (rnE (rnS R (nI 0) (nI (D.1 1) - nI 1) (-9)) (nI 0) ((nI (D.1 1)) - (nI 1)) (nI (rnE R (nI 0) ((nI (D.1 1)) - (nI 1)) (-9) - 1)) - 1)))]) E dX7_readsItem_146 (by decide) rfl ?_
        refine z_aload_n E dX7_readsItem_148 0 rfl rfl ?_
        refine z_ro0 E (rV E hX (c_X7_isWell g a h (sF (sF (sF (sF M 4 x42) 5 x52) 6 x62) 7 x72) (by show M.1 8 < 2 ^ 31; rw [h8]; decide)) mw_X7_isWell ml_X7_103 dX7_readsItem_149 (Nat.le_of_ble_eq_true rfl) ⟨(Nat.le_of_ble_eq_true rfl), (Nat.le_of_ble_eq_true rfl)⟩ rfl rfl (Nat.le_of_ble_eq_true rfl) 0 rfl rfl) ?_
        refine z_ifB_eq E dX7_readsItem_152 189 (by decide) (fun h => absurd h8 (of_decide_eq_false h)) (fun _ => ?_)
        have hr1 := rn_h1 hJ (hD.1.1 1) he1
        have hr2 := rn_h1 (rnS_J hJ) (hD.1.1 1) he2
        refine z_aload_n E dX7_readsItem_155 0 rfl rfl ?_
        refine gt_X7_22 (v := .ref (h 13)) E dX7_readsItem_156 0 rfl rfl ?_
        refine z_bipush (v := (nI 12)) E dX7_readsItem_159 (by decide) ?_
        refine z_iload E dX7_readsItem_161 4 rfl ?_
        refine z_iaddN E dX7_readsItem_163 ?_
        refine z_dup2 E dX7_readsItem_164 rfl rfl ?_
        refine z_ialdN (f := (M.2 13)) E dX7_readsItem_165 5 rfl (by omega) (by decide) ?_
        refine z_iconst (v := (nI 1)) E dX7_readsItem_166 (by decide) ?_
        refine z_iload E dX7_readsItem_167 5 rfl ?_
        refine z_ishlN E dX7_readsItem_169 (by omega) ?_
        refine z_iorN E dX7_readsItem_170 ?_
        refine z_iastN (f := (M.2 13)) (i := (12 + (rnE R (nI 0) ((nI (D.1 1)) - (nI 1)) (-9) - 1))) (x := (((M.2 13) (12 + (rnE R (nI 0) ((nI (D.1 1)) - (nI 1)) (-9) - 1))) ||| (1 <<< (rnE (rnS R (nI 0) (nI (D.1 1) - nI 1) (-9)) (nI 0) ((nI (D.1 1)) - (nI 1)) (nI (rnE R (nI 0) ((nI (D.1 1)) - (nI 1)) (-9) - 1)) - 1)))) (ws' := wMod g a h (sA (sF (sF (sF (sF M 4 x42) 5 x52) 6 x62) 7 x72) 13 (va_up (M.2 13) (12 + (rnE R (nI 0) ((nI (D.1 1)) - (nI 1)) (-9) - 1)) (((M.2 13) (12 + (rnE R (nI 0) ((nI (D.1 1)) - (nI 1)) (-9) - 1))) ||| (1 <<< (rnE (rnS R (nI 0) (nI (D.1 1) - nI 1) (-9)) (nI 0) ((nI (D.1 1)) - (nI 1)) (nI (rnE R (nI 0) ((nI (D.1 1)) - (nI 1)) (-9) - 1)) - 1)))))) E dX7_readsItem_171 5 rfl (by omega) (by decide) rfl ?_
        refine z_aload_n E dX7_readsItem_172 0 rfl rfl ?_
        refine gt_X7_22 (v := .ref (h 13)) E dX7_readsItem_173 0 rfl rfl ?_
        refine z_bipush (v := (nI 12)) E dX7_readsItem_176 (by decide) ?_
        refine z_iload E dX7_readsItem_178 5 rfl ?_
        refine z_iaddN E dX7_readsItem_180 ?_
        refine z_dup2 E dX7_readsItem_181 rfl rfl ?_
        refine z_ialdN (f := (va_up (M.2 13) (12 + (rnE R (nI 0) ((nI (D.1 1)) - (nI 1)) (-9) - 1)) (((M.2 13) (12 + (rnE R (nI 0) ((nI (D.1 1)) - (nI 1)) (-9) - 1))) ||| (1 <<< (rnE (rnS R (nI 0) (nI (D.1 1) - nI 1) (-9)) (nI 0) ((nI (D.1 1)) - (nI 1)) (nI (rnE R (nI 0) ((nI (D.1 1)) - (nI 1)) (-9) - 1)) - 1))))) E dX7_readsItem_182 5 rfl (by omega) (by decide) ?_
        refine z_iconst (v := (nI 1)) E dX7_readsItem_183 (by decide) ?_
        refine z_iload E dX7_readsItem_184 4 rfl ?_
        refine z_ishlN E dX7_readsItem_186 (by omega) ?_
        refine z_iorN E dX7_readsItem_187 ?_
        refine z_iastN (f := (va_up (M.2 13) (12 + (rnE R (nI 0) ((nI (D.1 1)) - (nI 1)) (-9) - 1)) (((M.2 13) (12 + (rnE R (nI 0) ((nI (D.1 1)) - (nI 1)) (-9) - 1))) ||| (1 <<< (rnE (rnS R (nI 0) (nI (D.1 1) - nI 1) (-9)) (nI 0) ((nI (D.1 1)) - (nI 1)) (nI (rnE R (nI 0) ((nI (D.1 1)) - (nI 1)) (-9) - 1)) - 1))))) (i := (12 + (rnE (rnS R (nI 0) (nI (D.1 1) - nI 1) (-9)) (nI 0) ((nI (D.1 1)) - (nI 1)) (nI (rnE R (nI 0) ((nI (D.1 1)) - (nI 1)) (-9) - 1)) - 1))) (x := (((va_up (M.2 13) (12 + (rnE R (nI 0) ((nI (D.1 1)) - (nI 1)) (-9) - 1)) (((M.2 13) (12 + (rnE R (nI 0) ((nI (D.1 1)) - (nI 1)) (-9) - 1))) ||| (1 <<< (rnE (rnS R (nI 0) (nI (D.1 1) - nI 1) (-9)) (nI 0) ((nI (D.1 1)) - (nI 1)) (nI (rnE R (nI 0) ((nI (D.1 1)) - (nI 1)) (-9) - 1)) - 1)))) (12 + (rnE (rnS R (nI 0) (nI (D.1 1) - nI 1) (-9)) (nI 0) ((nI (D.1 1)) - (nI 1)) (nI (rnE R (nI 0) ((nI (D.1 1)) - (nI 1)) (-9) - 1)) - 1))) ||| (1 <<< (rnE R (nI 0) ((nI (D.1 1)) - (nI 1)) (-9) - 1)))) (ws' := wMod g a h (sA (sF (sF (sF (sF M 4 x42) 5 x52) 6 x62) 7 x72) 13 (va_up (va_up (M.2 13) (12 + (rnE R (nI 0) ((nI (D.1 1)) - (nI 1)) (-9) - 1)) (((M.2 13) (12 + (rnE R (nI 0) ((nI (D.1 1)) - (nI 1)) (-9) - 1))) ||| (1 <<< (rnE (rnS R (nI 0) (nI (D.1 1) - nI 1) (-9)) (nI 0) ((nI (D.1 1)) - (nI 1)) (nI (rnE R (nI 0) ((nI (D.1 1)) - (nI 1)) (-9) - 1)) - 1)))) (12 + (rnE (rnS R (nI 0) (nI (D.1 1) - nI 1) (-9)) (nI 0) ((nI (D.1 1)) - (nI 1)) (nI (rnE R (nI 0) ((nI (D.1 1)) - (nI 1)) (-9) - 1)) - 1)) (((va_up (M.2 13) (12 + (rnE R (nI 0) ((nI (D.1 1)) - (nI 1)) (-9) - 1)) (((M.2 13) (12 + (rnE R (nI 0) ((nI (D.1 1)) - (nI 1)) (-9) - 1))) ||| (1 <<< (rnE (rnS R (nI 0) (nI (D.1 1) - nI 1) (-9)) (nI 0) ((nI (D.1 1)) - (nI 1)) (nI (rnE R (nI 0) ((nI (D.1 1)) - (nI 1)) (-9) - 1)) - 1)))) (12 + (rnE (rnS R (nI 0) (nI (D.1 1) - nI 1) (-9)) (nI 0) ((nI (D.1 1)) - (nI 1)) (nI (rnE R (nI 0) ((nI (D.1 1)) - (nI 1)) (-9) - 1)) - 1))) ||| (1 <<< (rnE R (nI 0) ((nI (D.1 1)) - (nI 1)) (-9) - 1)))))) E dX7_readsItem_188 5 rfl (by omega) (by decide) rfl ?_
        refine z_goto E dX7_readsItem_189 277 (by decide) ?_
        refine z_vret E Er dX7_readsItem_277 ?_
        exact ⟨rfl, _, rfl, ((((((dQ.rf M).F (by omega)).F (by omega)).F (by omega)).F (by omega)).A13 (fun k hk => up2 (n := 12) (by omega) (by omega) hk)), hps2.2.2.2.2.2.2, it_yes (by show spSt R D = _; unfold spSt; rw [if_neg he1, if_neg he2]) ⟨h8, hps2, md_str hmd (rn_h1 hJ (hD.1.1 1) he1) (rn_h1 (rnS_J hJ) (hD.1.1 1) he2) rfl rfl rfl rfl, tdR_rn (tdR_rn htd)⟩⟩
  · refine z_aload_n E dX7_readsItem_0 0 rfl rfl ?_
    refine gt_X7_13 (v := .ref (h 9)) E dX7_readsItem_1 0 rfl rfl ?_
    refine z_bipush (v := (nI 6)) E dX7_readsItem_4 (by decide) ?_
    refine z_ialdN (f := (M.2 9)) E dX7_readsItem_6 2 rfl (by decide) (by decide) ?_
    refine z_topi (y := nI (D.1 0)) (congrArg nI (hmd.1 0 (by decide))) ?_
    refine z_iconst (v := (nI 1)) E dX7_readsItem_7 (by decide) ?_
    refine z_isubN E dX7_readsItem_8 (by omega) ?_
    refine z_istore_n (lv' := [(0, .ref a), (1, .int (nI 103)), (2, .int (nI ((D.1 0) - 1)))]) E dX7_readsItem_9 2 rfl (by decide) rfl ?_
    refine z_aload_n E dX7_readsItem_10 0 rfl rfl ?_
    refine gt_X7_13 (v := .ref (h 9)) E dX7_readsItem_11 0 rfl rfl ?_
    refine z_bipush (v := (nI 7)) E dX7_readsItem_14 (by decide) ?_
    refine z_ialdN (f := (M.2 9)) E dX7_readsItem_16 2 rfl (by decide) (by decide) ?_
    refine z_topi (y := nI (D.1 1)) (congrArg nI (hmd.1 1 (by decide))) ?_
    refine z_istore_n (lv' := [(0, .ref a), (1, .int (nI 103)), (2, .int (nI ((D.1 0) - 1))), (3, .int (nI (D.1 1)))]) E dX7_readsItem_17 3 rfl (by decide) rfl ?_
    refine z_iload_n E dX7_readsItem_18 1 rfl rfl ?_
    refine z_bipush (v := (nI 112)) E dX7_readsItem_19 (by decide) ?_
    refine z_icmpN_ne E dX7_readsItem_21 41 (by decide) (by decide) (by decide) (fun _ => ?_) (fun h => absurd h (by decide))
    refine z_iload_n E dX7_readsItem_41 1 rfl rfl ?_
    refine z_bipush (v := (nI 114)) E dX7_readsItem_42 (by decide) ?_
    refine z_icmpN_ne E dX7_readsItem_44 121 (by decide) (by decide) (by decide) (fun _ => ?_) (fun h => absurd h (by decide))
    refine z_iload_n E dX7_readsItem_121 1 rfl rfl ?_
    refine z_bipush (v := (nI 115)) E dX7_readsItem_122 (by decide) ?_
    refine z_icmpN_ne E dX7_readsItem_124 192 (by decide) (by decide) (by decide) (fun _ => ?_) (fun h => absurd h (by decide))
    refine z_iload_n E dX7_readsItem_192 1 rfl rfl ?_
    refine z_bipush (v := (nI 103)) E dX7_readsItem_193 (by decide) ?_
    refine z_icmpN_ne E dX7_readsItem_195 227 (by decide) (by decide) (by decide) (fun h => absurd h (by decide)) (fun _ => ?_)
    refine z_aload_n E dX7_readsItem_198 0 rfl rfl ?_
    refine gt_X7_13 (v := .ref (h 9)) E dX7_readsItem_199 0 rfl rfl ?_
    refine z_bipush (v := (nI 8)) E dX7_readsItem_202 (by decide) ?_
    refine z_aload_n E dX7_readsItem_204 0 rfl rfl ?_
    refine z_iconst (v := (nI 0)) E dX7_readsItem_205 (by decide) ?_
    refine z_iload_n E dX7_readsItem_206 2 rfl rfl ?_
    refine z_q0 E (rV E hX (c_X7_number g a h M (nI 0) (nI ((D.1 0) - 1)) R h8 hps hJ) mw_X7_number ml_X7_120 dX7_readsItem_207 (Nat.le_of_ble_eq_true rfl) ⟨(Nat.le_of_ble_eq_true rfl), (Nat.le_of_ble_eq_true rfl)⟩ rfl rfl (Nat.le_of_ble_eq_true rfl) 0 rfl rfl) (fun r w2 hw => ?_)
    obtain ⟨M9, rfl, rfl, hnb⟩ := hw
    refine ⟨rfl, ?_⟩
    refine z_ws (ws' := wMod g a h M9) rfl ?_
    rcases hnb with ⟨he1, rfl⟩ | ⟨he1, x41, x51, x61, x71, rfl, hps1⟩
    · refine z_ws (ws' := wMod g a h (sF M 8 (R.1 4 + 1))) rfl ?_
      refine z_iastN (f := (M.2 9)) (i := 8) (x := (rnE R (nI 0) (nI ((D.1 0) - 1)) (-9) - 1)) (ws' := wMod g a h (sA (sF M 8 (R.1 4 + 1)) 9 (va_up (M.2 9) 8 (rnE R (nI 0) (nI ((D.1 0) - 1)) (-9) - 1)))) E dX7_readsItem_210 2 rfl (by decide) (by decide) rfl ?_
      refine z_aload_n E dX7_readsItem_211 0 rfl rfl ?_
      refine gt_X7_13 (v := .ref (h 9)) E dX7_readsItem_212 0 rfl rfl ?_
      refine z_bipush (v := (nI 9)) E dX7_readsItem_215 (by decide) ?_
      refine z_aload_n E dX7_readsItem_217 0 rfl rfl ?_
      refine z_iconst (v := (nI 0)) E dX7_readsItem_218 (by decide) ?_
      refine z_iload_n E dX7_readsItem_219 2 rfl rfl ?_
      refine z_ro0 E (rV E hX (c_X7_number_f g a h (sA (sF M 8 (R.1 4 + 1)) 9 (va_up (M.2 9) 8 (rnE R (nI 0) (nI ((D.1 0) - 1)) (-9) - 1))) (nI 0) (nI ((D.1 0) - 1)) (⟨Nat.succ_ne_zero _, by show R.1 4 + 1 < 2 ^ 31; have qJ : rdJ R := hJ; have q1 := qJ.2.2.2; have q2 := qJ.1.2.2.1; omega⟩)) mw_X7_number ml_X7_120 dX7_readsItem_220 (Nat.le_of_ble_eq_true rfl) ⟨(Nat.le_of_ble_eq_true rfl), (Nat.le_of_ble_eq_true rfl)⟩ rfl rfl (Nat.le_of_ble_eq_true rfl) 0 rfl rfl) ?_
      refine z_iastN (f := (va_up (M.2 9) 8 (rnE R (nI 0) (nI ((D.1 0) - 1)) (-9) - 1))) (i := 9) (x := 0) (ws' := wMod g a h (sA (sF M 8 (R.1 4 + 1)) 9 (va_up (va_up (M.2 9) 8 (rnE R (nI 0) (nI ((D.1 0) - 1)) (-9) - 1)) 9 0))) E dX7_readsItem_223 2 rfl (by decide) (by decide) rfl ?_
      refine z_goto E dX7_readsItem_224 264 (by decide) ?_
      refine z_aload_n E dX7_readsItem_264 0 rfl rfl ?_
      refine z_dup E dX7_readsItem_265 rfl ?_
      refine gt_X7_114 (v := .int (nI (M.1 10))) E dX7_readsItem_266 0 rfl rfl ?_
      refine z_iload_n E dX7_readsItem_269 1 rfl rfl ?_
      refine z_se E (rS E hX (c_X7_bitOf g 103 (by decide)) mw_X7_bitOf ms_X7_bitOf ml_X7_117 dX7_readsItem_270 (Nat.le_of_ble_eq_true rfl) ⟨(Nat.le_of_ble_eq_true rfl), (Nat.le_of_ble_eq_true rfl)⟩ rfl rfl (Nat.le_of_ble_eq_true rfl)) ?_
      refine z_iorN E dX7_readsItem_273 ?_
      refine pt_X7_114 (x := nI ((M.1 10) ||| (btF 103))) (ws' := wMod g a h (sA (sF (sF M 8 (R.1 4 + 1)) 10 ((M.1 10) ||| (btF 103))) 9 (va_up (va_up (M.2 9) 8 (rnE R (nI 0) (nI ((D.1 0) - 1)) (-9) - 1)) 9 0))) E dX7_readsItem_274 0 rfl (Nat.le_of_ble_eq_true rfl) rfl ?_
      refine z_vret E Er dX7_readsItem_277 ?_
      exact ⟨rfl, _, rfl, ((((dQ.rf M).F (by omega)).F (by omega)).A9 (fun k hk => up2 (n := 6) (by omega) (by omega) hk)), hps.2.2.2.2.2.2, it_no (by show spGo R D = _; unfold spGo; rw [if_pos he1]) (by rw [rnS_0 he1]; rfl)⟩
    · refine z_ws (ws' := wMod g a h (sF (sF (sF (sF M 4 x41) 5 x51) 6 x61) 7 x71)) rfl ?_
      refine z_iastN (f := (M.2 9)) (i := 8) (x := (rnE R (nI 0) (nI ((D.1 0) - 1)) (-9) - 1)) (ws' := wMod g a h (sA (sF (sF (sF (sF M 4 x41) 5 x51) 6 x61) 7 x71) 9 (va_up (M.2 9) 8 (rnE R (nI 0) (nI ((D.1 0) - 1)) (-9) - 1)))) E dX7_readsItem_210 2 rfl (by decide) (by decide) rfl ?_
      refine z_aload_n E dX7_readsItem_211 0 rfl rfl ?_
      refine gt_X7_13 (v := .ref (h 9)) E dX7_readsItem_212 0 rfl rfl ?_
      refine z_bipush (v := (nI 9)) E dX7_readsItem_215 (by decide) ?_
      refine z_aload_n E dX7_readsItem_217 0 rfl rfl ?_
      refine z_iconst (v := (nI 0)) E dX7_readsItem_218 (by decide) ?_
      refine z_iload_n E dX7_readsItem_219 2 rfl rfl ?_
      refine z_q0 E (rV E hX (c_X7_number g a h (sA (sF (sF (sF (sF M 4 x41) 5 x51) 6 x61) 7 x71) 9 (va_up (M.2 9) 8 (rnE R (nI 0) (nI ((D.1 0) - 1)) (-9) - 1))) (nI 0) (nI ((D.1 0) - 1)) (rnS R (nI 0) (nI (D.1 0 - 1)) (-9)) h8 hps1 (rnS_J hJ)) mw_X7_number ml_X7_120 dX7_readsItem_220 (Nat.le_of_ble_eq_true rfl) ⟨(Nat.le_of_ble_eq_true rfl), (Nat.le_of_ble_eq_true rfl)⟩ rfl rfl (Nat.le_of_ble_eq_true rfl) 0 rfl rfl) (fun r w2 hw => ?_)
      obtain ⟨M9, rfl, rfl, hnb⟩ := hw
      refine ⟨rfl, ?_⟩
      refine z_ws (ws' := wMod g a h M9) rfl ?_
      rcases hnb with ⟨he2, rfl⟩ | ⟨he2, x42, x52, x62, x72, rfl, hps2⟩
      · refine z_ws (ws' := wMod g a h (sA (sF (sF (sF (sF (sF M 4 x41) 5 x51) 6 x61) 7 x71) 8 ((rnS R (nI 0) (nI (D.1 0 - 1)) (-9)).1 4 + 1)) 9 (va_up (M.2 9) 8 (rnE R (nI 0) (nI ((D.1 0) - 1)) (-9) - 1)))) rfl ?_
        refine z_iastN (f := (va_up (M.2 9) 8 (rnE R (nI 0) (nI ((D.1 0) - 1)) (-9) - 1))) (i := 9) (x := (rnE (rnS R (nI 0) (nI (D.1 0 - 1)) (-9)) (nI 0) (nI ((D.1 0) - 1)) (-9) - 1)) (ws' := wMod g a h (sA (sF (sF (sF (sF (sF M 4 x41) 5 x51) 6 x61) 7 x71) 8 ((rnS R (nI 0) (nI (D.1 0 - 1)) (-9)).1 4 + 1)) 9 (va_up (va_up (M.2 9) 8 (rnE R (nI 0) (nI ((D.1 0) - 1)) (-9) - 1)) 9 (rnE (rnS R (nI 0) (nI (D.1 0 - 1)) (-9)) (nI 0) (nI ((D.1 0) - 1)) (-9) - 1)))) E dX7_readsItem_223 2 rfl (by decide) (by decide) rfl ?_
        refine z_goto E dX7_readsItem_224 264 (by decide) ?_
        refine z_aload_n E dX7_readsItem_264 0 rfl rfl ?_
        refine z_dup E dX7_readsItem_265 rfl ?_
        refine gt_X7_114 (v := .int (nI (M.1 10))) E dX7_readsItem_266 0 rfl rfl ?_
        refine z_iload_n E dX7_readsItem_269 1 rfl rfl ?_
        refine z_se E (rS E hX (c_X7_bitOf g 103 (by decide)) mw_X7_bitOf ms_X7_bitOf ml_X7_117 dX7_readsItem_270 (Nat.le_of_ble_eq_true rfl) ⟨(Nat.le_of_ble_eq_true rfl), (Nat.le_of_ble_eq_true rfl)⟩ rfl rfl (Nat.le_of_ble_eq_true rfl)) ?_
        refine z_iorN E dX7_readsItem_273 ?_
        refine pt_X7_114 (x := nI ((M.1 10) ||| (btF 103))) (ws' := wMod g a h (sA (sF (sF (sF (sF (sF (sF M 4 x41) 5 x51) 6 x61) 7 x71) 8 ((rnS R (nI 0) (nI (D.1 0 - 1)) (-9)).1 4 + 1)) 10 ((M.1 10) ||| (btF 103))) 9 (va_up (va_up (M.2 9) 8 (rnE R (nI 0) (nI ((D.1 0) - 1)) (-9) - 1)) 9 (rnE (rnS R (nI 0) (nI (D.1 0 - 1)) (-9)) (nI 0) (nI ((D.1 0) - 1)) (-9) - 1)))) E dX7_readsItem_274 0 rfl (Nat.le_of_ble_eq_true rfl) rfl ?_
        refine z_vret E Er dX7_readsItem_277 ?_
        exact ⟨rfl, _, rfl, ((((((((dQ.rf M).F (by omega)).F (by omega)).F (by omega)).F (by omega)).F (by omega)).F (by omega)).A9 (fun k hk => up2 (n := 6) (by omega) (by omega) hk)), hps1.2.2.2.2.2.2, it_no (by show spGo R D = _; unfold spGo; rw [if_neg he1, if_pos he2]) (by rw [rnS_0 he2]; rfl)⟩
      · refine z_ws (ws' := wMod g a h (sA (sF (sF (sF (sF M 4 x42) 5 x52) 6 x62) 7 x72) 9 (va_up (M.2 9) 8 (rnE R (nI 0) (nI ((D.1 0) - 1)) (-9) - 1)))) rfl ?_
        refine z_iastN (f := (va_up (M.2 9) 8 (rnE R (nI 0) (nI ((D.1 0) - 1)) (-9) - 1))) (i := 9) (x := (rnE (rnS R (nI 0) (nI (D.1 0 - 1)) (-9)) (nI 0) (nI ((D.1 0) - 1)) (-9) - 1)) (ws' := wMod g a h (sA (sF (sF (sF (sF M 4 x42) 5 x52) 6 x62) 7 x72) 9 (va_up (va_up (M.2 9) 8 (rnE R (nI 0) (nI ((D.1 0) - 1)) (-9) - 1)) 9 (rnE (rnS R (nI 0) (nI (D.1 0 - 1)) (-9)) (nI 0) (nI ((D.1 0) - 1)) (-9) - 1)))) E dX7_readsItem_223 2 rfl (by decide) (by decide) rfl ?_
        refine z_goto E dX7_readsItem_224 264 (by decide) ?_
        refine z_aload_n E dX7_readsItem_264 0 rfl rfl ?_
        refine z_dup E dX7_readsItem_265 rfl ?_
        refine gt_X7_114 (v := .int (nI (M.1 10))) E dX7_readsItem_266 0 rfl rfl ?_
        refine z_iload_n E dX7_readsItem_269 1 rfl rfl ?_
        refine z_se E (rS E hX (c_X7_bitOf g 103 (by decide)) mw_X7_bitOf ms_X7_bitOf ml_X7_117 dX7_readsItem_270 (Nat.le_of_ble_eq_true rfl) ⟨(Nat.le_of_ble_eq_true rfl), (Nat.le_of_ble_eq_true rfl)⟩ rfl rfl (Nat.le_of_ble_eq_true rfl)) ?_
        refine z_iorN E dX7_readsItem_273 ?_
        refine pt_X7_114 (x := nI ((M.1 10) ||| (btF 103))) (ws' := wMod g a h (sA (sF (sF (sF (sF (sF M 4 x42) 5 x52) 6 x62) 7 x72) 10 ((M.1 10) ||| (btF 103))) 9 (va_up (va_up (M.2 9) 8 (rnE R (nI 0) (nI ((D.1 0) - 1)) (-9) - 1)) 9 (rnE (rnS R (nI 0) (nI (D.1 0 - 1)) (-9)) (nI 0) (nI ((D.1 0) - 1)) (-9) - 1)))) E dX7_readsItem_274 0 rfl (Nat.le_of_ble_eq_true rfl) rfl ?_
        refine z_vret E Er dX7_readsItem_277 ?_
        exact ⟨rfl, _, rfl, (((((((dQ.rf M).F (by omega)).F (by omega)).F (by omega)).F (by omega)).F (by omega)).A9 (fun k hk => up2 (n := 6) (by omega) (by omega) hk)), hps2.2.2.2.2.2.2, it_yes (R' := sF (rnS (rnS R (nI 0) (nI (D.1 0 - 1)) (-9)) (nI 0) (nI (D.1 0 - 1)) (-9)) 6 1) (by show spGo R D = _; unfold spGo; rw [if_neg he1, if_neg he2]) ⟨h8, hps2, md_fld (M := sA M 9 (va_up (M.2 9) 8 ((rnE R (nI 0) (nI (D.1 0 - 1)) (-9)) - 1))) (k := 3) (md_fld (k := 2) hmd (by decide) rfl rfl rfl rfl) (by decide) rfl rfl rfl rfl, td_6 (tdR_rn (tdR_rn htd))⟩⟩
  · refine z_aload_n E dX7_readsItem_0 0 rfl rfl ?_
    refine gt_X7_13 (v := .ref (h 9)) E dX7_readsItem_1 0 rfl rfl ?_
    refine z_bipush (v := (nI 6)) E dX7_readsItem_4 (by decide) ?_
    refine z_ialdN (f := (M.2 9)) E dX7_readsItem_6 2 rfl (by decide) (by decide) ?_
    refine z_topi (y := nI (D.1 0)) (congrArg nI (hmd.1 0 (by decide))) ?_
    refine z_iconst (v := (nI 1)) E dX7_readsItem_7 (by decide) ?_
    refine z_isubN E dX7_readsItem_8 (by omega) ?_
    refine z_istore_n (lv' := [(0, .ref a), (1, .int (nI 110)), (2, .int (nI ((D.1 0) - 1)))]) E dX7_readsItem_9 2 rfl (by decide) rfl ?_
    refine z_aload_n E dX7_readsItem_10 0 rfl rfl ?_
    refine gt_X7_13 (v := .ref (h 9)) E dX7_readsItem_11 0 rfl rfl ?_
    refine z_bipush (v := (nI 7)) E dX7_readsItem_14 (by decide) ?_
    refine z_ialdN (f := (M.2 9)) E dX7_readsItem_16 2 rfl (by decide) (by decide) ?_
    refine z_topi (y := nI (D.1 1)) (congrArg nI (hmd.1 1 (by decide))) ?_
    refine z_istore_n (lv' := [(0, .ref a), (1, .int (nI 110)), (2, .int (nI ((D.1 0) - 1))), (3, .int (nI (D.1 1)))]) E dX7_readsItem_17 3 rfl (by decide) rfl ?_
    refine z_iload_n E dX7_readsItem_18 1 rfl rfl ?_
    refine z_bipush (v := (nI 112)) E dX7_readsItem_19 (by decide) ?_
    refine z_icmpN_ne E dX7_readsItem_21 41 (by decide) (by decide) (by decide) (fun _ => ?_) (fun h => absurd h (by decide))
    refine z_iload_n E dX7_readsItem_41 1 rfl rfl ?_
    refine z_bipush (v := (nI 114)) E dX7_readsItem_42 (by decide) ?_
    refine z_icmpN_ne E dX7_readsItem_44 121 (by decide) (by decide) (by decide) (fun _ => ?_) (fun h => absurd h (by decide))
    refine z_iload_n E dX7_readsItem_121 1 rfl rfl ?_
    refine z_bipush (v := (nI 115)) E dX7_readsItem_122 (by decide) ?_
    refine z_icmpN_ne E dX7_readsItem_124 192 (by decide) (by decide) (by decide) (fun _ => ?_) (fun h => absurd h (by decide))
    refine z_iload_n E dX7_readsItem_192 1 rfl rfl ?_
    refine z_bipush (v := (nI 103)) E dX7_readsItem_193 (by decide) ?_
    refine z_icmpN_ne E dX7_readsItem_195 227 (by decide) (by decide) (by decide) (fun _ => ?_) (fun h => absurd h (by decide))
    refine z_iload_n E dX7_readsItem_227 1 rfl rfl ?_
    refine z_bipush (v := (nI 110)) E dX7_readsItem_228 (by decide) ?_
    refine z_icmpN_ne E dX7_readsItem_230 250 (by decide) (by decide) (by decide) (fun h => absurd h (by decide)) (fun _ => ?_)
    refine z_aload_n E dX7_readsItem_233 0 rfl rfl ?_
    refine gt_X7_13 (v := .ref (h 9)) E dX7_readsItem_234 0 rfl rfl ?_
    refine z_bipush (v := (nI 10)) E dX7_readsItem_237 (by decide) ?_
    refine z_aload_n E dX7_readsItem_239 0 rfl rfl ?_
    refine z_iconst (v := (nI 0)) E dX7_readsItem_240 (by decide) ?_
    refine z_bipush (v := (nI 20)) E dX7_readsItem_241 (by decide) ?_
    refine z_q0 E (rV E hX (c_X7_number g a h M (nI 0) (nI 20) R h8 hps hJ) mw_X7_number ml_X7_120 dX7_readsItem_243 (Nat.le_of_ble_eq_true rfl) ⟨(Nat.le_of_ble_eq_true rfl), (Nat.le_of_ble_eq_true rfl)⟩ rfl rfl (Nat.le_of_ble_eq_true rfl) 0 rfl rfl) (fun r w2 hw => ?_)
    obtain ⟨M9, rfl, rfl, hnb⟩ := hw
    refine ⟨rfl, ?_⟩
    refine z_ws (ws' := wMod g a h M9) rfl ?_
    rcases hnb with ⟨he1, rfl⟩ | ⟨he1, x41, x51, x61, x71, rfl, hps1⟩
    · refine z_ws (ws' := wMod g a h (sF M 8 (R.1 4 + 1))) rfl ?_
      refine z_iastN (f := (M.2 9)) (i := 10) (x := (rnE R (nI 0) (nI 20) (-9) - 1)) (ws' := wMod g a h (sA (sF M 8 (R.1 4 + 1)) 9 (va_up (M.2 9) 10 (rnE R (nI 0) (nI 20) (-9) - 1)))) E dX7_readsItem_246 2 rfl (by decide) (by decide) rfl ?_
      refine z_goto E dX7_readsItem_247 264 (by decide) ?_
      refine z_aload_n E dX7_readsItem_264 0 rfl rfl ?_
      refine z_dup E dX7_readsItem_265 rfl ?_
      refine gt_X7_114 (v := .int (nI (M.1 10))) E dX7_readsItem_266 0 rfl rfl ?_
      refine z_iload_n E dX7_readsItem_269 1 rfl rfl ?_
      refine z_se E (rS E hX (c_X7_bitOf g 110 (by decide)) mw_X7_bitOf ms_X7_bitOf ml_X7_117 dX7_readsItem_270 (Nat.le_of_ble_eq_true rfl) ⟨(Nat.le_of_ble_eq_true rfl), (Nat.le_of_ble_eq_true rfl)⟩ rfl rfl (Nat.le_of_ble_eq_true rfl)) ?_
      refine z_iorN E dX7_readsItem_273 ?_
      refine pt_X7_114 (x := nI ((M.1 10) ||| (btF 110))) (ws' := wMod g a h (sA (sF (sF M 8 (R.1 4 + 1)) 10 ((M.1 10) ||| (btF 110))) 9 (va_up (M.2 9) 10 (rnE R (nI 0) (nI 20) (-9) - 1)))) E dX7_readsItem_274 0 rfl (Nat.le_of_ble_eq_true rfl) rfl ?_
      refine z_vret E Er dX7_readsItem_277 ?_
      exact ⟨rfl, _, rfl, ((((dQ.rf M).F (by omega)).F (by omega)).A9 (fun k hk => up1 (n := 6) (by omega) hk)), hps.2.2.2.2.2.2, it_no (by show spNe R D = _; unfold spNe; rw [if_pos he1]) (by rw [rnS_0 he1]; rfl)⟩
    · refine z_ws (ws' := wMod g a h (sF (sF (sF (sF M 4 x41) 5 x51) 6 x61) 7 x71)) rfl ?_
      refine z_iastN (f := (M.2 9)) (i := 10) (x := (rnE R (nI 0) (nI 20) (-9) - 1)) (ws' := wMod g a h (sA (sF (sF (sF (sF M 4 x41) 5 x51) 6 x61) 7 x71) 9 (va_up (M.2 9) 10 (rnE R (nI 0) (nI 20) (-9) - 1)))) E dX7_readsItem_246 2 rfl (by decide) (by decide) rfl ?_
      refine z_goto E dX7_readsItem_247 264 (by decide) ?_
      refine z_aload_n E dX7_readsItem_264 0 rfl rfl ?_
      refine z_dup E dX7_readsItem_265 rfl ?_
      refine gt_X7_114 (v := .int (nI (M.1 10))) E dX7_readsItem_266 0 rfl rfl ?_
      refine z_iload_n E dX7_readsItem_269 1 rfl rfl ?_
      refine z_se E (rS E hX (c_X7_bitOf g 110 (by decide)) mw_X7_bitOf ms_X7_bitOf ml_X7_117 dX7_readsItem_270 (Nat.le_of_ble_eq_true rfl) ⟨(Nat.le_of_ble_eq_true rfl), (Nat.le_of_ble_eq_true rfl)⟩ rfl rfl (Nat.le_of_ble_eq_true rfl)) ?_
      refine z_iorN E dX7_readsItem_273 ?_
      refine pt_X7_114 (x := nI ((M.1 10) ||| (btF 110))) (ws' := wMod g a h (sA (sF (sF (sF (sF (sF M 4 x41) 5 x51) 6 x61) 7 x71) 10 ((M.1 10) ||| (btF 110))) 9 (va_up (M.2 9) 10 (rnE R (nI 0) (nI 20) (-9) - 1)))) E dX7_readsItem_274 0 rfl (Nat.le_of_ble_eq_true rfl) rfl ?_
      refine z_vret E Er dX7_readsItem_277 ?_
      exact ⟨rfl, _, rfl, (((((((dQ.rf M).F (by omega)).F (by omega)).F (by omega)).F (by omega)).F (by omega)).A9 (fun k hk => up1 (n := 6) (by omega) hk)), hps1.2.2.2.2.2.2, it_yes (R' := sF (rnS R (nI 0) (nI 20) (-9)) 7 1) (by show spNe R D = _; unfold spNe; rw [if_neg he1]) ⟨h8, hps1, md_fld (k := 4) hmd (by decide) rfl rfl rfl rfl, td_7 (tdR_rn htd)⟩⟩
  · refine z_aload_n E dX7_readsItem_0 0 rfl rfl ?_
    refine gt_X7_13 (v := .ref (h 9)) E dX7_readsItem_1 0 rfl rfl ?_
    refine z_bipush (v := (nI 6)) E dX7_readsItem_4 (by decide) ?_
    refine z_ialdN (f := (M.2 9)) E dX7_readsItem_6 2 rfl (by decide) (by decide) ?_
    refine z_topi (y := nI (D.1 0)) (congrArg nI (hmd.1 0 (by decide))) ?_
    refine z_iconst (v := (nI 1)) E dX7_readsItem_7 (by decide) ?_
    refine z_isubN E dX7_readsItem_8 (by omega) ?_
    refine z_istore_n (lv' := [(0, .ref a), (1, .int (nI 108)), (2, .int (nI ((D.1 0) - 1)))]) E dX7_readsItem_9 2 rfl (by decide) rfl ?_
    refine z_aload_n E dX7_readsItem_10 0 rfl rfl ?_
    refine gt_X7_13 (v := .ref (h 9)) E dX7_readsItem_11 0 rfl rfl ?_
    refine z_bipush (v := (nI 7)) E dX7_readsItem_14 (by decide) ?_
    refine z_ialdN (f := (M.2 9)) E dX7_readsItem_16 2 rfl (by decide) (by decide) ?_
    refine z_topi (y := nI (D.1 1)) (congrArg nI (hmd.1 1 (by decide))) ?_
    refine z_istore_n (lv' := [(0, .ref a), (1, .int (nI 108)), (2, .int (nI ((D.1 0) - 1))), (3, .int (nI (D.1 1)))]) E dX7_readsItem_17 3 rfl (by decide) rfl ?_
    refine z_iload_n E dX7_readsItem_18 1 rfl rfl ?_
    refine z_bipush (v := (nI 112)) E dX7_readsItem_19 (by decide) ?_
    refine z_icmpN_ne E dX7_readsItem_21 41 (by decide) (by decide) (by decide) (fun _ => ?_) (fun h => absurd h (by decide))
    refine z_iload_n E dX7_readsItem_41 1 rfl rfl ?_
    refine z_bipush (v := (nI 114)) E dX7_readsItem_42 (by decide) ?_
    refine z_icmpN_ne E dX7_readsItem_44 121 (by decide) (by decide) (by decide) (fun _ => ?_) (fun h => absurd h (by decide))
    refine z_iload_n E dX7_readsItem_121 1 rfl rfl ?_
    refine z_bipush (v := (nI 115)) E dX7_readsItem_122 (by decide) ?_
    refine z_icmpN_ne E dX7_readsItem_124 192 (by decide) (by decide) (by decide) (fun _ => ?_) (fun h => absurd h (by decide))
    refine z_iload_n E dX7_readsItem_192 1 rfl rfl ?_
    refine z_bipush (v := (nI 103)) E dX7_readsItem_193 (by decide) ?_
    refine z_icmpN_ne E dX7_readsItem_195 227 (by decide) (by decide) (by decide) (fun _ => ?_) (fun h => absurd h (by decide))
    refine z_iload_n E dX7_readsItem_227 1 rfl rfl ?_
    refine z_bipush (v := (nI 110)) E dX7_readsItem_228 (by decide) ?_
    refine z_icmpN_ne E dX7_readsItem_230 250 (by decide) (by decide) (by decide) (fun _ => ?_) (fun h => absurd h (by decide))
    refine z_aload_n E dX7_readsItem_250 0 rfl rfl ?_
    refine gt_X7_13 (v := .ref (h 9)) E dX7_readsItem_251 0 rfl rfl ?_
    refine z_bipush (v := (nI 11)) E dX7_readsItem_254 (by decide) ?_
    refine z_aload_n E dX7_readsItem_256 0 rfl rfl ?_
    refine z_iconst (v := (nI 0)) E dX7_readsItem_257 (by decide) ?_
    refine z_bipush (v := (nI 9)) E dX7_readsItem_258 (by decide) ?_
    refine z_q0 E (rV E hX (c_X7_number g a h M (nI 0) (nI 9) R h8 hps hJ) mw_X7_number ml_X7_120 dX7_readsItem_260 (Nat.le_of_ble_eq_true rfl) ⟨(Nat.le_of_ble_eq_true rfl), (Nat.le_of_ble_eq_true rfl)⟩ rfl rfl (Nat.le_of_ble_eq_true rfl) 0 rfl rfl) (fun r w2 hw => ?_)
    obtain ⟨M9, rfl, rfl, hnb⟩ := hw
    refine ⟨rfl, ?_⟩
    refine z_ws (ws' := wMod g a h M9) rfl ?_
    rcases hnb with ⟨he1, rfl⟩ | ⟨he1, x41, x51, x61, x71, rfl, hps1⟩
    · refine z_ws (ws' := wMod g a h (sF M 8 (R.1 4 + 1))) rfl ?_
      refine z_iastN (f := (M.2 9)) (i := 11) (x := (rnE R (nI 0) (nI 9) (-9) - 1)) (ws' := wMod g a h (sA (sF M 8 (R.1 4 + 1)) 9 (va_up (M.2 9) 11 (rnE R (nI 0) (nI 9) (-9) - 1)))) E dX7_readsItem_263 2 rfl (by decide) (by decide) rfl ?_
      refine z_aload_n E dX7_readsItem_264 0 rfl rfl ?_
      refine z_dup E dX7_readsItem_265 rfl ?_
      refine gt_X7_114 (v := .int (nI (M.1 10))) E dX7_readsItem_266 0 rfl rfl ?_
      refine z_iload_n E dX7_readsItem_269 1 rfl rfl ?_
      refine z_se E (rS E hX (c_X7_bitOf g 108 (by decide)) mw_X7_bitOf ms_X7_bitOf ml_X7_117 dX7_readsItem_270 (Nat.le_of_ble_eq_true rfl) ⟨(Nat.le_of_ble_eq_true rfl), (Nat.le_of_ble_eq_true rfl)⟩ rfl rfl (Nat.le_of_ble_eq_true rfl)) ?_
      refine z_iorN E dX7_readsItem_273 ?_
      refine pt_X7_114 (x := nI ((M.1 10) ||| (btF 108))) (ws' := wMod g a h (sA (sF (sF M 8 (R.1 4 + 1)) 10 ((M.1 10) ||| (btF 108))) 9 (va_up (M.2 9) 11 (rnE R (nI 0) (nI 9) (-9) - 1)))) E dX7_readsItem_274 0 rfl (Nat.le_of_ble_eq_true rfl) rfl ?_
      refine z_vret E Er dX7_readsItem_277 ?_
      exact ⟨rfl, _, rfl, ((((dQ.rf M).F (by omega)).F (by omega)).A9 (fun k hk => up1 (n := 6) (by omega) hk)), hps.2.2.2.2.2.2, it_no (by show spLo R D = _; unfold spLo; rw [if_pos he1]) (by rw [rnS_0 he1]; rfl)⟩
    · refine z_ws (ws' := wMod g a h (sF (sF (sF (sF M 4 x41) 5 x51) 6 x61) 7 x71)) rfl ?_
      refine z_iastN (f := (M.2 9)) (i := 11) (x := (rnE R (nI 0) (nI 9) (-9) - 1)) (ws' := wMod g a h (sA (sF (sF (sF (sF M 4 x41) 5 x51) 6 x61) 7 x71) 9 (va_up (M.2 9) 11 (rnE R (nI 0) (nI 9) (-9) - 1)))) E dX7_readsItem_263 2 rfl (by decide) (by decide) rfl ?_
      refine z_aload_n E dX7_readsItem_264 0 rfl rfl ?_
      refine z_dup E dX7_readsItem_265 rfl ?_
      refine gt_X7_114 (v := .int (nI (M.1 10))) E dX7_readsItem_266 0 rfl rfl ?_
      refine z_iload_n E dX7_readsItem_269 1 rfl rfl ?_
      refine z_se E (rS E hX (c_X7_bitOf g 108 (by decide)) mw_X7_bitOf ms_X7_bitOf ml_X7_117 dX7_readsItem_270 (Nat.le_of_ble_eq_true rfl) ⟨(Nat.le_of_ble_eq_true rfl), (Nat.le_of_ble_eq_true rfl)⟩ rfl rfl (Nat.le_of_ble_eq_true rfl)) ?_
      refine z_iorN E dX7_readsItem_273 ?_
      refine pt_X7_114 (x := nI ((M.1 10) ||| (btF 108))) (ws' := wMod g a h (sA (sF (sF (sF (sF (sF M 4 x41) 5 x51) 6 x61) 7 x71) 10 ((M.1 10) ||| (btF 108))) 9 (va_up (M.2 9) 11 (rnE R (nI 0) (nI 9) (-9) - 1)))) E dX7_readsItem_274 0 rfl (Nat.le_of_ble_eq_true rfl) rfl ?_
      refine z_vret E Er dX7_readsItem_277 ?_
      exact ⟨rfl, _, rfl, (((((((dQ.rf M).F (by omega)).F (by omega)).F (by omega)).F (by omega)).F (by omega)).A9 (fun k hk => up1 (n := 6) (by omega) hk)), hps1.2.2.2.2.2.2, it_yes (R' := sF (rnS R (nI 0) (nI 9) (-9)) 8 1) (by show spLo R D = _; unfold spLo; rw [if_neg he1]) ⟨h8, hps1, md_fld (k := 5) hmd (by decide) rfl rfl rfl rfl, td_8 (tdR_rn htd)⟩⟩
