theorem opn_tb {T : NS} (P : NS) {j : Nat} (hR : T.1 1 ≤ 12) (hj : j < T.1 1) : (opn T P).testBit j = !(P.1 4).testBit j := by
  unfold opn
  have e : (4294967295).testBit j = true := by
    rw [show 4294967295 = 2 ^ 32 - 1 from rfl, Nat.testBit_two_pow_sub_one]
    exact decide_eq_true (by omega)
  rw [Nat.testBit_and, Nat.testBit_xor, e, Nat.one_shiftLeft, Nat.testBit_two_pow_sub_one, decide_eq_true hj]
  simp
theorem can_opn {T P : NS} {j z : Nat} (hR : T.1 1 ≤ 12) (hj : j < T.1 1) : canT T P j z = ((opn T P).testBit j && meetsT T j z) := by unfold canT; rw [opn_tb P hR hj]
theorem mrP_tk {P M M2 : NS} {x0 x1 x2 x3 : Nat} (h : mrP P M) (e : M2.2 14 = va_up (va_up (va_up (va_up (M.2 14) 2 x2) 3 x3) 0 x0) 1 x1) : mrP (sF (sF (sF (sF P 0 x0) 1 x1) 2 x2) 3 x3) M2 := by
  refine ⟨fun k hk => ?_, fun r hr => ?_⟩
  · rw [e]
    rcases (show k = 0 ∨ k = 1 ∨ k = 2 ∨ k = 3 ∨ k = 4 by omega) with rfl | rfl | rfl | rfl | rfl
    · rfl
    · rfl
    · rfl
    · rfl
    · exact h.1 4 (by decide)
  · rw [e]
    unfold va_up
    rw [if_neg (by omega), if_neg (by omega), if_neg (by omega), if_neg (by omega)]
    exact h.2 r hr
theorem mrP_jm {P M M2 : NS} {j x : Nat} (h : mrP P M) (e : M2.2 14 = va_up (M.2 14) (5 + j) x) : mrP (sA P 5 (va_up (P.2 5) j x)) M2 := by
  refine ⟨fun k hk => ?_, fun r hr => ?_⟩
  · rw [e]
    unfold va_up
    rw [if_neg (by omega)]
    exact h.1 k hk
  · rw [e]
    show va_up (M.2 14) (5 + j) x (5 + r) = va_up (P.2 5) j x r
    unfold va_up
    by_cases q : r = j
    · rw [if_pos (by omega), if_pos q]
    · rw [if_neg (by omega), if_neg q]
      exact h.2 r hr
theorem mrP_sh {P M M2 : NS} {x : Nat} (h : mrP P M) (e : M2.2 14 = va_up (M.2 14) 4 x) : mrP (sF P 4 x) M2 := by
  refine ⟨fun k hk => ?_, fun r hr => ?_⟩
  · rw [e]
    show va_up (M.2 14) 4 x k = va_up P.1 4 x k
    unfold va_up
    by_cases q : k = 4
    · rw [if_pos q, if_pos q]
    · rw [if_neg q, if_neg q]
      exact h.1 k hk
  · rw [e]
    unfold va_up
    rw [if_neg (by omega)]
    exact h.2 r hr
theorem sh_bit {x j : Nat} (hj : j < 12) (hx : x < 4096) (b : Bool) (h : x.testBit j = !b) : (x &&& (1 <<< j ^^^ 4294967295)) ||| (cond b 1 0) <<< j = x ^^^ 1 <<< j := by
  apply Nat.eq_of_testBit_eq
  intro i
  have e : (4294967295).testBit i = decide (i < 32) := by
    rw [show 4294967295 = 2 ^ 32 - 1 from rfl, Nat.testBit_two_pow_sub_one]
  have e2 : ((cond b 1 0) <<< j).testBit i = (b && decide (j = i)) := by
    cases b
    · show (0 <<< j).testBit i = _
      simp
    · show (1 <<< j).testBit i = _
      rw [Nat.one_shiftLeft, Nat.testBit_two_pow]
      simp
  rw [Nat.testBit_or, Nat.testBit_and, Nat.testBit_xor, Nat.testBit_xor, e, e2, Nat.one_shiftLeft, Nat.testBit_two_pow]
  by_cases q : j = i
  · subst q
    rw [h, decide_eq_true (show j < 32 by omega)]
    cases b <;> simp
  · rw [decide_eq_false q]
    by_cases q2 : i < 32
    · rw [decide_eq_true q2]
      cases x.testBit i <;> cases b <;> rfl
    · have : x.testBit i = false := Nat.testBit_lt_two_pow (Nat.lt_of_lt_of_le hx (show 2 ^ 12 ≤ 2 ^ i from Nat.pow_le_pow_right (by decide) (by omega)))
      rw [this]
      cases b <;> simp

theorem cT_le {T P : NS} (hT : tdI T) (hP : pnI T P) (r : Nat) : cT T P r ≤ 100000 := by
  have e8 := hT.2.2.2.2.2.2.2.1 r
  have e5 := hP.2.2.2.2.2.2 r
  unfold cT
  omega

set_option maxHeartbeats 4000000 in
set_option maxRecDepth 100000 in
theorem c_X7_takes (g : GC) (a : Nat) (h : Nat → Nat) (M : NS) (r : Int32) (T : NS) (P : NS) (S : NS) (U : Nat → NS) (hT : tdI T) (hM : mrT T M) (hP : pnI T P) (hN : mrP P M) (hS1 : S.1 1 < 10) (hS2 : S.1 2 ≤ 10) (hU : mrU S U M) : Ct g yX7_takes cX7_takes 3 (some .int) 2 0 0 [.ref a, .int r] (wMod g a h M) (QI (fun r_ w_ => ∃ M2 : NS, r_ = (if hasR T r = true then (if tkC T P r = true then nI (tkM T P r.toNatClampNeg) else -2) else -1) ∧ w_ = wMod g a h M2 ∧ (mQ M M2 ∧ mrU (if tkC T P r = true then rmS S else S) (if tkC T P r = true then va_up U (S.1 1) P else U) M2 ∧ mrP (if tkC T P r = true then tkP T P r.toNatClampNeg else P) M2))) := by
  refine Ct.of (by decide) (Nat.le_of_ble_eq_true rfl) ?_
  intro X E Er hX _ hnm
  have E : Ob g X cX7_takes 3 RX7 := E
  have hR := hT.2.2.1
  have hb := hT.2.1.2
  have hs4 := hP.s4 hT
  have hp0 := hP.2.1
  have hp1 := hP.2.2.1
  have hp2 := hP.2.2.2.1
  have hp3 := hP.2.2.2.2.1
  have h4 := hT.2.2.2.2.2.1
  have hop := opn_lt P hR
  have hcl := fun (r : Nat) (_ : r < T.1 1) => cT_le hT hP r
  refine z_lve (lv' := [(0, .ref a), (1, .int r)]) rfl ?_
  refine z_aload_n E dX7_takes_0 0 rfl rfl ?_
  refine z_iconst (v := (nI 0)) E dX7_takes_1 (by decide) ?_
  refine pt_X7_69 (x := nI 0) (ws' := wMod g a h (sF M 0 0)) E dX7_takes_2 0 rfl (Nat.le_of_ble_eq_true rfl) rfl ?_
  refine z_aload_n E dX7_takes_5 0 rfl rfl ?_
  refine z_iload_n E dX7_takes_6 1 rfl rfl ?_
  refine z_ro0 E (rV E hX (c_X7_isRoad g a h (sF M 0 0) r T hT hM) mw_X7_isRoad ml_X7_143 dX7_takes_7 (Nat.le_of_ble_eq_true rfl) ⟨(Nat.le_of_ble_eq_true rfl), (Nat.le_of_ble_eq_true rfl)⟩ rfl rfl (Nat.le_of_ble_eq_true rfl) 0 rfl rfl) ?_
  refine z_ifB_ne E dX7_takes_10 15 (by decide) (fun c1 => ?_) (fun c1 => ?_)
  · obtain ⟨j2, hj2, rfl⟩ := hasR_nI (hT.1.1 1) c1
    refine z_aload_n E dX7_takes_15 0 rfl rfl ?_
    refine z_rwv0 (w2 := wMod g a h (sA (sF (sF M 0 0) 25 (opn T P)) 24 (fun r => if r < T.1 1 then cT T P r else M.2 24 r))) E (rV E hX (c_X7_asNow g a h (sF M 0 0) T P hT hM hP hN) mw_X7_asNow ml_X7_166 dX7_takes_16 (Nat.le_of_ble_eq_true rfl) ⟨(Nat.le_of_ble_eq_true rfl), (Nat.le_of_ble_eq_true rfl)⟩ rfl rfl (Nat.le_of_ble_eq_true rfl) 0 rfl rfl) rfl ?_
    refine z_aload_n E dX7_takes_19 0 rfl rfl ?_
    refine z_aload_n E dX7_takes_20 0 rfl rfl ?_
    refine gt_X7_25 (v := .ref (h 14)) E dX7_takes_21 0 rfl rfl ?_
    refine z_iconst (v := (nI 1)) E dX7_takes_24 (by decide) ?_
    refine z_ialdN (f := (M.2 14)) E dX7_takes_25 6 rfl (by decide) (by decide) ?_
    refine z_topi (y := nI (P.1 1)) (congrArg nI (hN.1 1 (by decide))) ?_
    refine z_iload_n E dX7_takes_26 1 rfl rfl ?_
    refine z_ro0 E (rV E hX (c_X7_cost g a h (sA (sF (sF M 0 0) 25 (opn T P)) 24 (fun r => if r < T.1 1 then cT T P r else M.2 24 r)) (P.1 1) j2 T (cT T P) hT hM (fun r hr => if_pos hr) (fun r _ => cT_le hT hP r) (by omega) (by omega)) mw_X7_cost ml_X7_169 dX7_takes_27 (Nat.le_of_ble_eq_true rfl) ⟨(Nat.le_of_ble_eq_true rfl), (Nat.le_of_ble_eq_true rfl)⟩ rfl rfl (Nat.le_of_ble_eq_true rfl) 0 rfl rfl) ?_
    refine z_istore_n (lv' := [(0, .ref a), (1, .int (nI j2)), (2, .int (nI ((cT T P) j2 + nvT T (P.1 1) j2)))]) E dX7_takes_30 2 rfl (by decide) rfl ?_
    have ec := cT_le hT hP j2
    have env := nvT_le T (P.1 1) j2
    refine z_aload_n E dX7_takes_31 0 rfl rfl ?_
    refine gt_X7_163 (v := .int (nI (opn T P))) E dX7_takes_32 0 rfl rfl ?_
    refine z_iload_n E dX7_takes_35 1 rfl rfl ?_
    refine z_ishrN E dX7_takes_36 (by omega) (by omega) ?_
    refine z_iconst (v := (nI 1)) E dX7_takes_37 (by decide) ?_
    refine z_iandN E dX7_takes_38 ?_
    refine z_topi (tb_bI (opn T P) j2) ?_
    refine z_ifB_eq E dX7_takes_39 70 (by decide) (fun c2 => ?_) (fun c2 => ?_)
    · refine z_bipush (v := (-2)) E dX7_takes_70 (by decide) ?_
      refine z_iret E Er dX7_takes_72 ?_
      exact ⟨_, rfl, _, by rw [if_pos c1, if_neg (tk_no1 (by omega) (by rw [can_opn hR hj2, c2]; rfl))], rfl, ((((mQ.rf M).F (by omega)).F (by omega)).A (by omega)), by rw [if_neg (tk_no1 (by omega) (by rw [can_opn hR hj2, c2]; rfl)), if_neg (tk_no1 (by omega) (by rw [can_opn hR hj2, c2]; rfl))]; exact hU, by rw [if_neg (tk_no1 (by omega) (by rw [can_opn hR hj2, c2]; rfl))]; exact hN⟩
    · refine z_aload_n E dX7_takes_42 0 rfl rfl ?_
      refine z_iload_n E dX7_takes_43 1 rfl rfl ?_
      refine z_aload_n E dX7_takes_44 0 rfl rfl ?_
      refine gt_X7_25 (v := .ref (h 14)) E dX7_takes_45 0 rfl rfl ?_
      refine z_iconst (v := (nI 0)) E dX7_takes_48 (by decide) ?_
      refine z_ialdN (f := (M.2 14)) E dX7_takes_49 6 rfl (by decide) (by decide) ?_
      refine z_topi (y := nI (P.1 0)) (congrArg nI (hN.1 0 (by decide))) ?_
      refine z_ro0 E (rV E hX (c_X7_isAt g a h (sA (sF (sF M 0 0) 25 (opn T P)) 24 (fun r => if r < T.1 1 then cT T P r else M.2 24 r)) j2 (P.1 0) T hT hM (by omega) (hP.1.1 _)) mw_X7_isAt ml_X7_146 dX7_takes_50 (Nat.le_of_ble_eq_true rfl) ⟨(Nat.le_of_ble_eq_true rfl), (Nat.le_of_ble_eq_true rfl)⟩ rfl rfl (Nat.le_of_ble_eq_true rfl) 0 rfl rfl) ?_
      refine z_ifB_eq E dX7_takes_53 70 (by decide) (fun c3 => ?_) (fun c3 => ?_)
      · refine z_bipush (v := (-2)) E dX7_takes_70 (by decide) ?_
        refine z_iret E Er dX7_takes_72 ?_
        exact ⟨_, rfl, _, by rw [if_pos c1, if_neg (tk_no1 (by omega) (by rw [can_opn hR hj2, c3]; simp))], rfl, ((((mQ.rf M).F (by omega)).F (by omega)).A (by omega)), by rw [if_neg (tk_no1 (by omega) (by rw [can_opn hR hj2, c3]; simp)), if_neg (tk_no1 (by omega) (by rw [can_opn hR hj2, c3]; simp))]; exact hU, by rw [if_neg (tk_no1 (by omega) (by rw [can_opn hR hj2, c3]; simp))]; exact hN⟩
      · refine z_aload_n E dX7_takes_56 0 rfl rfl ?_
        refine gt_X7_25 (v := .ref (h 14)) E dX7_takes_57 0 rfl rfl ?_
        refine z_iconst (v := (nI 2)) E dX7_takes_60 (by decide) ?_
        refine z_ialdN (f := (M.2 14)) E dX7_takes_61 6 rfl (by decide) (by decide) ?_
        refine z_topi (y := nI (P.1 2)) (congrArg nI (hN.1 2 (by decide))) ?_
        refine z_iload_n E dX7_takes_62 2 rfl rfl ?_
        refine z_iaddN E dX7_takes_63 ?_
        refine z_sipush (v := (nI 9999)) E dX7_takes_64 (by decide) ?_
        refine z_icmpN_le E dX7_takes_67 73 (by decide) (by omega) (by decide) (fun c4 => ?_) (fun c4 => ?_)
        · have hyes := tk_yes (by omega) c1 (by rw [can_opn hR hj2, c2, c3]; rfl) c4
          refine z_aload_n E dX7_takes_73 0 rfl rfl ?_
          refine z_qv0 E (rV E hX (c_X7_notes g a h (sA (sF (sF M 0 0) 25 (opn T P)) 24 (fun r => if r < T.1 1 then cT T P r else M.2 24 r)) P S U hN hS1 hS2 hU) mw_X7_notes ml_X7_172 dX7_takes_74 (Nat.le_of_ble_eq_true rfl) ⟨(Nat.le_of_ble_eq_true rfl), (Nat.le_of_ble_eq_true rfl)⟩ rfl rfl (Nat.le_of_ble_eq_true rfl) 0 rfl rfl) (fun w2 hw => ?_)
          obtain ⟨M9, rfl, ⟨n9, f9, rfl, hU9⟩⟩ := hw
          refine ⟨rfl, ?_⟩
          refine z_ws (ws' := wMod g a h (sA (sA (sF (sF (sF M 0 0) 18 n9) 25 (opn T P)) 17 f9) 24 (fun r => if r < T.1 1 then cT T P r else M.2 24 r))) rfl ?_
          refine z_aload_n E dX7_takes_77 0 rfl rfl ?_
          refine gt_X7_25 (v := .ref (h 14)) E dX7_takes_78 0 rfl rfl ?_
          refine z_iconst (v := (nI 2)) E dX7_takes_81 (by decide) ?_
          refine z_dup2 E dX7_takes_82 rfl rfl ?_
          refine z_ialdN (f := (M.2 14)) E dX7_takes_83 6 rfl (by decide) (by decide) ?_
          refine z_topi (y := nI (P.1 2)) (congrArg nI (hN.1 2 (by decide))) ?_
          refine z_iload_n E dX7_takes_84 2 rfl rfl ?_
          refine z_iaddN E dX7_takes_85 ?_
          refine z_iastN (f := (M.2 14)) (i := 2) (x := ((P.1 2) + ((cT T P) j2 + nvT T (P.1 1) j2))) (ws' := wMod g a h (sA (sA (sA (sF (sF (sF M 0 0) 18 n9) 25 (opn T P)) 14 (va_up (M.2 14) 2 ((P.1 2) + ((cT T P) j2 + nvT T (P.1 1) j2)))) 17 f9) 24 (fun r => if r < T.1 1 then cT T P r else M.2 24 r))) E dX7_takes_86 6 rfl (by decide) (by decide) rfl ?_
          refine z_aload_n E dX7_takes_87 0 rfl rfl ?_
          refine gt_X7_25 (v := .ref (h 14)) E dX7_takes_88 0 rfl rfl ?_
          refine z_iconst (v := (nI 3)) E dX7_takes_91 (by decide) ?_
          refine z_dup2 E dX7_takes_92 rfl rfl ?_
          refine z_ialdN (f := (va_up (M.2 14) 2 ((P.1 2) + ((cT T P) j2 + nvT T (P.1 1) j2)))) E dX7_takes_93 6 rfl (by decide) (by decide) ?_
          refine z_topi (y := nI (P.1 3)) (congrArg nI (hN.1 3 (by decide))) ?_
          refine z_aload_n E dX7_takes_94 0 rfl rfl ?_
          refine z_aload_n E dX7_takes_95 0 rfl rfl ?_
          refine gt_X7_25 (v := .ref (h 14)) E dX7_takes_96 0 rfl rfl ?_
          refine z_iconst (v := (nI 1)) E dX7_takes_99 (by decide) ?_
          refine z_ialdN (f := (va_up (M.2 14) 2 ((P.1 2) + ((cT T P) j2 + nvT T (P.1 1) j2)))) E dX7_takes_100 6 rfl (by decide) (by decide) ?_
          refine z_topi (y := nI (P.1 1)) (congrArg nI (hN.1 1 (by decide))) ?_
          refine z_iload_n E dX7_takes_101 1 rfl rfl ?_
          refine z_ro0 E (rV E hX (c_X7_isTurn g a h (sA (sA (sA (sF (sF (sF M 0 0) 18 n9) 25 (opn T P)) 14 (va_up (M.2 14) 2 ((P.1 2) + ((cT T P) j2 + nvT T (P.1 1) j2)))) 17 f9) 24 (fun r => if r < T.1 1 then cT T P r else M.2 24 r)) (P.1 1) j2 T hT hM (by omega) (by omega)) mw_X7_isTurn ml_X7_160 dX7_takes_102 (Nat.le_of_ble_eq_true rfl) ⟨(Nat.le_of_ble_eq_true rfl), (Nat.le_of_ble_eq_true rfl)⟩ rfl rfl (Nat.le_of_ble_eq_true rfl) 0 rfl rfl) ?_
          refine z_ifB_eq E dX7_takes_105 112 (by decide) (fun c5 => ?_) (fun c5 => ?_)
          · refine z_iconst (v := (nI 0)) E dX7_takes_112 (by decide) ?_
            refine z_iaddN E dX7_takes_113 ?_
            refine z_iastN (f := (va_up (M.2 14) 2 ((P.1 2) + ((cT T P) j2 + nvT T (P.1 1) j2)))) (i := 3) (x := ((P.1 3) + 0)) (ws' := wMod g a h (sA (sA (sA (sF (sF (sF M 0 0) 18 n9) 25 (opn T P)) 14 (va_up (va_up (M.2 14) 2 ((P.1 2) + ((cT T P) j2 + nvT T (P.1 1) j2))) 3 ((P.1 3) + 0))) 17 f9) 24 (fun r => if r < T.1 1 then cT T P r else M.2 24 r))) E dX7_takes_114 6 rfl (by decide) (by decide) rfl ?_
            refine z_aload_n E dX7_takes_115 0 rfl rfl ?_
            refine gt_X7_25 (v := .ref (h 14)) E dX7_takes_116 0 rfl rfl ?_
            refine z_iconst (v := (nI 0)) E dX7_takes_119 (by decide) ?_
            refine z_aload_n E dX7_takes_120 0 rfl rfl ?_
            refine z_iload_n E dX7_takes_121 1 rfl rfl ?_
            refine z_aload_n E dX7_takes_122 0 rfl rfl ?_
            refine gt_X7_25 (v := .ref (h 14)) E dX7_takes_123 0 rfl rfl ?_
            refine z_iconst (v := (nI 0)) E dX7_takes_126 (by decide) ?_
            refine z_ialdN (f := (va_up (va_up (M.2 14) 2 ((P.1 2) + ((cT T P) j2 + nvT T (P.1 1) j2))) 3 ((P.1 3) + 0))) E dX7_takes_127 6 rfl (by decide) (by decide) ?_
            refine z_topi (y := nI (P.1 0)) (congrArg nI (hN.1 0 (by decide))) ?_
            refine z_ro0 E (rV E hX (c_X7_otherEnd g a h (sA (sA (sA (sF (sF (sF M 0 0) 18 n9) 25 (opn T P)) 14 (va_up (va_up (M.2 14) 2 ((P.1 2) + ((cT T P) j2 + nvT T (P.1 1) j2))) 3 ((P.1 3) + 0))) 17 f9) 24 (fun r => if r < T.1 1 then cT T P r else M.2 24 r)) j2 (P.1 0) T hT hM (by omega) (hP.1.1 _)) mw_X7_otherEnd ml_X7_175 dX7_takes_128 (Nat.le_of_ble_eq_true rfl) ⟨(Nat.le_of_ble_eq_true rfl), (Nat.le_of_ble_eq_true rfl)⟩ rfl rfl (Nat.le_of_ble_eq_true rfl) 0 rfl rfl) ?_
            refine z_iastN (f := (va_up (va_up (M.2 14) 2 ((P.1 2) + ((cT T P) j2 + nvT T (P.1 1) j2))) 3 ((P.1 3) + 0))) (i := 0) (x := (otherT T j2 (P.1 0))) (ws' := wMod g a h (sA (sA (sA (sF (sF (sF M 0 0) 18 n9) 25 (opn T P)) 14 (va_up (va_up (va_up (M.2 14) 2 ((P.1 2) + ((cT T P) j2 + nvT T (P.1 1) j2))) 3 ((P.1 3) + 0)) 0 (otherT T j2 (P.1 0)))) 17 f9) 24 (fun r => if r < T.1 1 then cT T P r else M.2 24 r))) E dX7_takes_131 6 rfl (by decide) (by decide) rfl ?_
            refine z_aload_n E dX7_takes_132 0 rfl rfl ?_
            refine gt_X7_25 (v := .ref (h 14)) E dX7_takes_133 0 rfl rfl ?_
            refine z_iconst (v := (nI 1)) E dX7_takes_136 (by decide) ?_
            refine z_iload_n E dX7_takes_137 1 rfl rfl ?_
            refine z_iconst (v := (nI 1)) E dX7_takes_138 (by decide) ?_
            refine z_iaddN E dX7_takes_139 ?_
            refine z_iastN (f := (va_up (va_up (va_up (M.2 14) 2 ((P.1 2) + ((cT T P) j2 + nvT T (P.1 1) j2))) 3 ((P.1 3) + 0)) 0 (otherT T j2 (P.1 0)))) (i := 1) (x := (j2 + 1)) (ws' := wMod g a h (sA (sA (sA (sF (sF (sF M 0 0) 18 n9) 25 (opn T P)) 14 (va_up (va_up (va_up (va_up (M.2 14) 2 ((P.1 2) + ((cT T P) j2 + nvT T (P.1 1) j2))) 3 ((P.1 3) + 0)) 0 (otherT T j2 (P.1 0))) 1 (j2 + 1))) 17 f9) 24 (fun r => if r < T.1 1 then cT T P r else M.2 24 r))) E dX7_takes_140 6 rfl (by decide) (by decide) rfl ?_
            refine z_iload_n E dX7_takes_141 2 rfl rfl ?_
            refine z_iret E Er dX7_takes_142 ?_
            exact ⟨_, rfl, _, by rw [if_pos c1, if_pos hyes, nI_clamp (by omega)]; rfl, rfl, ((((((mQ.rf M).F (by omega)).F (by omega)).F (by omega)).A (by omega)).A (by omega)).A (by omega), by rw [if_pos hyes, if_pos hyes]; exact hU9, by rw [if_pos hyes, nI_clamp (by omega)]; unfold tkP; rw [if_neg (by rw [c5]; decide)]; exact mrP_tk hN rfl⟩
          · refine z_iconst (v := (nI 1)) E dX7_takes_108 (by decide) ?_
            refine z_goto E dX7_takes_109 113 (by decide) ?_
            refine z_iaddN E dX7_takes_113 ?_
            refine z_iastN (f := (va_up (M.2 14) 2 ((P.1 2) + ((cT T P) j2 + nvT T (P.1 1) j2)))) (i := 3) (x := ((P.1 3) + 1)) (ws' := wMod g a h (sA (sA (sA (sF (sF (sF M 0 0) 18 n9) 25 (opn T P)) 14 (va_up (va_up (M.2 14) 2 ((P.1 2) + ((cT T P) j2 + nvT T (P.1 1) j2))) 3 ((P.1 3) + 1))) 17 f9) 24 (fun r => if r < T.1 1 then cT T P r else M.2 24 r))) E dX7_takes_114 6 rfl (by decide) (by decide) rfl ?_
            refine z_aload_n E dX7_takes_115 0 rfl rfl ?_
            refine gt_X7_25 (v := .ref (h 14)) E dX7_takes_116 0 rfl rfl ?_
            refine z_iconst (v := (nI 0)) E dX7_takes_119 (by decide) ?_
            refine z_aload_n E dX7_takes_120 0 rfl rfl ?_
            refine z_iload_n E dX7_takes_121 1 rfl rfl ?_
            refine z_aload_n E dX7_takes_122 0 rfl rfl ?_
            refine gt_X7_25 (v := .ref (h 14)) E dX7_takes_123 0 rfl rfl ?_
            refine z_iconst (v := (nI 0)) E dX7_takes_126 (by decide) ?_
            refine z_ialdN (f := (va_up (va_up (M.2 14) 2 ((P.1 2) + ((cT T P) j2 + nvT T (P.1 1) j2))) 3 ((P.1 3) + 1))) E dX7_takes_127 6 rfl (by decide) (by decide) ?_
            refine z_topi (y := nI (P.1 0)) (congrArg nI (hN.1 0 (by decide))) ?_
            refine z_ro0 E (rV E hX (c_X7_otherEnd g a h (sA (sA (sA (sF (sF (sF M 0 0) 18 n9) 25 (opn T P)) 14 (va_up (va_up (M.2 14) 2 ((P.1 2) + ((cT T P) j2 + nvT T (P.1 1) j2))) 3 ((P.1 3) + 1))) 17 f9) 24 (fun r => if r < T.1 1 then cT T P r else M.2 24 r)) j2 (P.1 0) T hT hM (by omega) (hP.1.1 _)) mw_X7_otherEnd ml_X7_175 dX7_takes_128 (Nat.le_of_ble_eq_true rfl) ⟨(Nat.le_of_ble_eq_true rfl), (Nat.le_of_ble_eq_true rfl)⟩ rfl rfl (Nat.le_of_ble_eq_true rfl) 0 rfl rfl) ?_
            refine z_iastN (f := (va_up (va_up (M.2 14) 2 ((P.1 2) + ((cT T P) j2 + nvT T (P.1 1) j2))) 3 ((P.1 3) + 1))) (i := 0) (x := (otherT T j2 (P.1 0))) (ws' := wMod g a h (sA (sA (sA (sF (sF (sF M 0 0) 18 n9) 25 (opn T P)) 14 (va_up (va_up (va_up (M.2 14) 2 ((P.1 2) + ((cT T P) j2 + nvT T (P.1 1) j2))) 3 ((P.1 3) + 1)) 0 (otherT T j2 (P.1 0)))) 17 f9) 24 (fun r => if r < T.1 1 then cT T P r else M.2 24 r))) E dX7_takes_131 6 rfl (by decide) (by decide) rfl ?_
            refine z_aload_n E dX7_takes_132 0 rfl rfl ?_
            refine gt_X7_25 (v := .ref (h 14)) E dX7_takes_133 0 rfl rfl ?_
            refine z_iconst (v := (nI 1)) E dX7_takes_136 (by decide) ?_
            refine z_iload_n E dX7_takes_137 1 rfl rfl ?_
            refine z_iconst (v := (nI 1)) E dX7_takes_138 (by decide) ?_
            refine z_iaddN E dX7_takes_139 ?_
            refine z_iastN (f := (va_up (va_up (va_up (M.2 14) 2 ((P.1 2) + ((cT T P) j2 + nvT T (P.1 1) j2))) 3 ((P.1 3) + 1)) 0 (otherT T j2 (P.1 0)))) (i := 1) (x := (j2 + 1)) (ws' := wMod g a h (sA (sA (sA (sF (sF (sF M 0 0) 18 n9) 25 (opn T P)) 14 (va_up (va_up (va_up (va_up (M.2 14) 2 ((P.1 2) + ((cT T P) j2 + nvT T (P.1 1) j2))) 3 ((P.1 3) + 1)) 0 (otherT T j2 (P.1 0))) 1 (j2 + 1))) 17 f9) 24 (fun r => if r < T.1 1 then cT T P r else M.2 24 r))) E dX7_takes_140 6 rfl (by decide) (by decide) rfl ?_
            refine z_iload_n E dX7_takes_141 2 rfl rfl ?_
            refine z_iret E Er dX7_takes_142 ?_
            exact ⟨_, rfl, _, by rw [if_pos c1, if_pos hyes, nI_clamp (by omega)]; rfl, rfl, ((((((mQ.rf M).F (by omega)).F (by omega)).F (by omega)).A (by omega)).A (by omega)).A (by omega), by rw [if_pos hyes, if_pos hyes]; exact hU9, by rw [if_pos hyes, nI_clamp (by omega)]; unfold tkP; rw [if_pos c5]; exact mrP_tk hN rfl⟩
        · refine z_bipush (v := (-2)) E dX7_takes_70 (by decide) ?_
          refine z_iret E Er dX7_takes_72 ?_
          exact ⟨_, rfl, _, by rw [if_pos c1, if_neg (tk_no2 (by omega) c4)], rfl, ((((mQ.rf M).F (by omega)).F (by omega)).A (by omega)), by rw [if_neg (tk_no2 (by omega) c4), if_neg (tk_no2 (by omega) c4)]; exact hU, by rw [if_neg (tk_no2 (by omega) c4)]; exact hN⟩
  · refine z_iconst (v := (-1)) E dX7_takes_13 (by decide) ?_
    refine z_iret E Er dX7_takes_14 ?_
    exact ⟨_, rfl, _, by rw [if_neg (show ¬ hasR T r = true by rw [c1]; decide)], rfl, ((mQ.rf M).F (by omega)), by rw [if_neg (tk_no0 c1), if_neg (tk_no0 c1)]; exact hU, by rw [if_neg (tk_no0 c1)]; exact hN⟩

set_option maxHeartbeats 4000000 in
set_option maxRecDepth 100000 in
theorem c_X7_jams (g : GC) (a : Nat) (h : Nat → Nat) (M : NS) (r : Int32) (n : Int32) (T : NS) (P : NS) (S : NS) (U : Nat → NS) (hT : tdI T) (hM : mrT T M) (hP : pnI T P) (hN : mrP P M) (hS1 : S.1 1 < 10) (hS2 : S.1 2 ≤ 10) (hU : mrU S U M) : Ct g yX7_jams cX7_jams 4 (some .int) 2 0 0 [.ref a, .int r, .int n] (wMod g a h M) (QI (fun r_ w_ => ∃ M2 : NS, r_ = (if (hasR T r && wi n (nI 0) (nI 60)) = true then nI (P.2 5 r.toNatClampNeg) else -1) ∧ w_ = wMod g a h M2 ∧ (mQ M M2 ∧ mrU (if (hasR T r && wi n (nI 0) (nI 60)) = true then rmS S else S) (if (hasR T r && wi n (nI 0) (nI 60)) = true then va_up U (S.1 1) P else U) M2 ∧ mrP (if (hasR T r && wi n (nI 0) (nI 60)) = true then sA P 5 (va_up (P.2 5) r.toNatClampNeg n.toNatClampNeg) else P) M2))) := by
  refine Ct.of (by decide) (Nat.le_of_ble_eq_true rfl) ?_
  intro X E Er hX _ hnm
  have E : Ob g X cX7_jams 4 RX7 := E
  have hR := hT.2.2.1
  have hb := hT.2.1.2
  have hs4 := hP.s4 hT
  have hp0 := hP.2.1
  have hp1 := hP.2.2.1
  have hp2 := hP.2.2.2.1
  have hp3 := hP.2.2.2.2.1
  have h4 := hT.2.2.2.2.2.1
  have hop := opn_lt P hR
  have hcl := fun (r : Nat) (_ : r < T.1 1) => cT_le hT hP r
  refine z_lve (lv' := [(0, .ref a), (1, .int r), (2, .int n)]) rfl ?_
  refine z_aload_n E dX7_jams_0 0 rfl rfl ?_
  refine z_iconst (v := (nI 0)) E dX7_jams_1 (by decide) ?_
  refine pt_X7_69 (x := nI 0) (ws' := wMod g a h (sF M 0 0)) E dX7_jams_2 0 rfl (Nat.le_of_ble_eq_true rfl) rfl ?_
  refine z_aload_n E dX7_jams_5 0 rfl rfl ?_
  refine z_iload_n E dX7_jams_6 1 rfl rfl ?_
  refine z_ro0 E (rV E hX (c_X7_isRoad g a h (sF M 0 0) r T hT hM) mw_X7_isRoad ml_X7_143 dX7_jams_7 (Nat.le_of_ble_eq_true rfl) ⟨(Nat.le_of_ble_eq_true rfl), (Nat.le_of_ble_eq_true rfl)⟩ rfl rfl (Nat.le_of_ble_eq_true rfl) 0 rfl rfl) ?_
  refine z_ifB_eq E dX7_jams_10 23 (by decide) (fun c1 => ?_) (fun c1 => ?_)
  · refine z_iconst (v := (-1)) E dX7_jams_23 (by decide) ?_
    refine z_iret E Er dX7_jams_24 ?_
    exact ⟨_, rfl, _, by rw [if_neg (show ¬ (hasR T r && wi n (nI 0) (nI 60)) = true by rw [c1]; simp)], rfl, ((mQ.rf M).F (by omega)), by rw [if_neg (show ¬ (hasR T r && wi n (nI 0) (nI 60)) = true by rw [c1]; simp), if_neg (show ¬ (hasR T r && wi n (nI 0) (nI 60)) = true by rw [c1]; simp)]; exact hU, by rw [if_neg (show ¬ (hasR T r && wi n (nI 0) (nI 60)) = true by rw [c1]; simp)]; exact hN⟩
  · refine z_iload_n E dX7_jams_13 2 rfl rfl ?_
    refine z_iconst (v := (nI 0)) E dX7_jams_14 (by decide) ?_
    refine z_bipush (v := (nI 60)) E dX7_jams_15 (by decide) ?_
    refine z_se E (rS E hX (c_X7_in g n (nI 0) (nI 60)) mw_X7_in ms_X7_in ml_X7_73 dX7_jams_17 (Nat.le_of_ble_eq_true rfl) ⟨(Nat.le_of_ble_eq_true rfl), (Nat.le_of_ble_eq_true rfl)⟩ rfl rfl (Nat.le_of_ble_eq_true rfl)) ?_
    refine z_ifB_ne E dX7_jams_20 25 (by decide) (fun c2 => ?_) (fun c2 => ?_)
    · obtain ⟨j2, hj2, rfl⟩ := hasR_nI (hT.1.1 1) c1
      obtain ⟨n2, -, hn2, rfl⟩ := wi_nI (by decide) (by decide) c2
      refine z_aload_n E dX7_jams_25 0 rfl rfl ?_
      refine z_qv0 E (rV E hX (c_X7_notes g a h (sF M 0 0) P S U hN hS1 hS2 hU) mw_X7_notes ml_X7_172 dX7_jams_26 (Nat.le_of_ble_eq_true rfl) ⟨(Nat.le_of_ble_eq_true rfl), (Nat.le_of_ble_eq_true rfl)⟩ rfl rfl (Nat.le_of_ble_eq_true rfl) 0 rfl rfl) (fun w2 hw => ?_)
      obtain ⟨M9, rfl, ⟨n9, f9, rfl, hU9⟩⟩ := hw
      refine ⟨rfl, ?_⟩
      refine z_ws (ws' := wMod g a h (sA (sF (sF M 0 0) 18 n9) 17 f9)) rfl ?_
      refine z_aload_n E dX7_jams_29 0 rfl rfl ?_
      refine gt_X7_25 (v := .ref (h 14)) E dX7_jams_30 0 rfl rfl ?_
      refine z_iconst (v := (nI 5)) E dX7_jams_33 (by decide) ?_
      refine z_iload_n E dX7_jams_34 1 rfl rfl ?_
      refine z_iaddN E dX7_jams_35 ?_
      refine z_ialdN (f := (M.2 14)) E dX7_jams_36 6 rfl (by omega) (by decide) ?_
      refine z_topi (y := nI ((P.2 5) j2)) (congrArg nI (hN.2 j2 (by omega))) ?_
      refine z_istore_n (lv' := [(0, .ref a), (1, .int (nI j2)), (2, .int (nI n2)), (3, .int (nI ((P.2 5) j2)))]) E dX7_jams_37 3 rfl (by decide) rfl ?_
      refine z_aload_n E dX7_jams_38 0 rfl rfl ?_
      refine gt_X7_25 (v := .ref (h 14)) E dX7_jams_39 0 rfl rfl ?_
      refine z_iconst (v := (nI 5)) E dX7_jams_42 (by decide) ?_
      refine z_iload_n E dX7_jams_43 1 rfl rfl ?_
      refine z_iaddN E dX7_jams_44 ?_
      refine z_iload_n E dX7_jams_45 2 rfl rfl ?_
      refine z_iastN (f := (M.2 14)) (i := (5 + j2)) (x := n2) (ws' := wMod g a h (sA (sA (sF (sF M 0 0) 18 n9) 14 (va_up (M.2 14) (5 + j2) n2)) 17 f9)) E dX7_jams_46 6 rfl (by omega) (by decide) rfl ?_
      refine z_iload_n E dX7_jams_47 3 rfl rfl ?_
      refine z_iret E Er dX7_jams_48 ?_
      exact ⟨_, rfl, _, by rw [if_pos (show (hasR T (nI j2) && wi (nI n2) (nI 0) (nI 60)) = true by rw [c1, c2]; rfl), nI_clamp (by omega)], rfl, ((((mQ.rf M).F (by omega)).F (by omega)).A (by omega)).A (by omega), by rw [if_pos (show (hasR T (nI j2) && wi (nI n2) (nI 0) (nI 60)) = true by rw [c1, c2]; rfl), if_pos (show (hasR T (nI j2) && wi (nI n2) (nI 0) (nI 60)) = true by rw [c1, c2]; rfl)]; exact hU9, by rw [if_pos (show (hasR T (nI j2) && wi (nI n2) (nI 0) (nI 60)) = true by rw [c1, c2]; rfl), nI_clamp (by omega), nI_clamp (by omega)]; exact mrP_jm hN rfl⟩
    · refine z_iconst (v := (-1)) E dX7_jams_23 (by decide) ?_
      refine z_iret E Er dX7_jams_24 ?_
      exact ⟨_, rfl, _, by rw [if_neg (show ¬ (hasR T r && wi n (nI 0) (nI 60)) = true by rw [c2]; simp)], rfl, ((mQ.rf M).F (by omega)), by rw [if_neg (show ¬ (hasR T r && wi n (nI 0) (nI 60)) = true by rw [c2]; simp), if_neg (show ¬ (hasR T r && wi n (nI 0) (nI 60)) = true by rw [c2]; simp)]; exact hU, by rw [if_neg (show ¬ (hasR T r && wi n (nI 0) (nI 60)) = true by rw [c2]; simp)]; exact hN⟩

set_option maxHeartbeats 4000000 in
set_option maxRecDepth 100000 in
theorem c_X7_shuts (g : GC) (a : Nat) (h : Nat → Nat) (M : NS) (r : Int32) (n : Int32) (T : NS) (P : NS) (S : NS) (U : Nat → NS) (hT : tdI T) (hM : mrT T M) (hP : pnI T P) (hN : mrP P M) (hS1 : S.1 1 < 10) (hS2 : S.1 2 ≤ 10) (hU : mrU S U M) : Ct g yX7_shuts cX7_shuts 3 (some .int) 2 0 0 [.ref a, .int r, .int n] (wMod g a h M) (QI (fun r_ w_ => ∃ M2 : NS, r_ = (if (hasR T r && wi n (nI 0) (nI 1)) = true then (if shC T P r n = true then nI (pc12 (P.1 4 ^^^ 1 <<< r.toNatClampNeg)) else -2) else -1) ∧ w_ = wMod g a h M2 ∧ (mQ M M2 ∧ mrU (if shC T P r n = true then rmS S else S) (if shC T P r n = true then va_up U (S.1 1) P else U) M2 ∧ mrP (if shC T P r n = true then sF P 4 (P.1 4 ^^^ 1 <<< r.toNatClampNeg) else P) M2))) := by
  refine Ct.of (by decide) (Nat.le_of_ble_eq_true rfl) ?_
  intro X E Er hX _ hnm
  have E : Ob g X cX7_shuts 3 RX7 := E
  have hR := hT.2.2.1
  have hb := hT.2.1.2
  have hs4 := hP.s4 hT
  have hp0 := hP.2.1
  have hp1 := hP.2.2.1
  have hp2 := hP.2.2.2.1
  have hp3 := hP.2.2.2.2.1
  have h4 := hT.2.2.2.2.2.1
  have hop := opn_lt P hR
  have hcl := fun (r : Nat) (_ : r < T.1 1) => cT_le hT hP r
  refine z_lve (lv' := [(0, .ref a), (1, .int r), (2, .int n)]) rfl ?_
  refine z_aload_n E dX7_shuts_0 0 rfl rfl ?_
  refine z_iconst (v := (nI 0)) E dX7_shuts_1 (by decide) ?_
  refine pt_X7_69 (x := nI 0) (ws' := wMod g a h (sF M 0 0)) E dX7_shuts_2 0 rfl (Nat.le_of_ble_eq_true rfl) rfl ?_
  refine z_aload_n E dX7_shuts_5 0 rfl rfl ?_
  refine z_iload_n E dX7_shuts_6 1 rfl rfl ?_
  refine z_ro0 E (rV E hX (c_X7_isRoad g a h (sF M 0 0) r T hT hM) mw_X7_isRoad ml_X7_143 dX7_shuts_7 (Nat.le_of_ble_eq_true rfl) ⟨(Nat.le_of_ble_eq_true rfl), (Nat.le_of_ble_eq_true rfl)⟩ rfl rfl (Nat.le_of_ble_eq_true rfl) 0 rfl rfl) ?_
  refine z_ifB_eq E dX7_shuts_10 22 (by decide) (fun c1 => ?_) (fun c1 => ?_)
  · refine z_iconst (v := (-1)) E dX7_shuts_22 (by decide) ?_
    refine z_iret E Er dX7_shuts_23 ?_
    exact ⟨_, rfl, _, by rw [if_neg (show ¬ (hasR T r && wi n (nI 0) (nI 1)) = true by rw [c1]; simp)], rfl, ((mQ.rf M).F (by omega)), by rw [if_neg (show ¬ shC T P r n = true by unfold shC; rw [c1]; simp), if_neg (show ¬ shC T P r n = true by unfold shC; rw [c1]; simp)]; exact hU, by rw [if_neg (show ¬ shC T P r n = true by unfold shC; rw [c1]; simp)]; exact hN⟩
  · refine z_iload_n E dX7_shuts_13 2 rfl rfl ?_
    refine z_iconst (v := (nI 0)) E dX7_shuts_14 (by decide) ?_
    refine z_iconst (v := (nI 1)) E dX7_shuts_15 (by decide) ?_
    refine z_se E (rS E hX (c_X7_in g n (nI 0) (nI 1)) mw_X7_in ms_X7_in ml_X7_73 dX7_shuts_16 (Nat.le_of_ble_eq_true rfl) ⟨(Nat.le_of_ble_eq_true rfl), (Nat.le_of_ble_eq_true rfl)⟩ rfl rfl (Nat.le_of_ble_eq_true rfl)) ?_
    refine z_ifB_ne E dX7_shuts_19 24 (by decide) (fun c2 => ?_) (fun c2 => ?_)
    · obtain ⟨j2, hj2, rfl⟩ := hasR_nI (hT.1.1 1) c1
      obtain ⟨n2, -, hn2, rfl⟩ := wi_nI (by decide) (by decide) c2
      rcases (show n2 = 0 ∨ n2 = 1 by omega) with rfl | rfl
      · refine z_aload_n E dX7_shuts_24 0 rfl rfl ?_
        refine gt_X7_25 (v := .ref (h 14)) E dX7_shuts_25 0 rfl rfl ?_
        refine z_iconst (v := (nI 4)) E dX7_shuts_28 (by decide) ?_
        refine z_ialdN (f := (M.2 14)) E dX7_shuts_29 6 rfl (by decide) (by decide) ?_
        refine z_topi (y := nI (P.1 4)) (congrArg nI (hN.1 4 (by decide))) ?_
        refine z_iload_n E dX7_shuts_30 1 rfl rfl ?_
        refine z_ishrN E dX7_shuts_31 (hP.1.1 _) (by omega) ?_
        refine z_iconst (v := (nI 1)) E dX7_shuts_32 (by decide) ?_
        refine z_iandN E dX7_shuts_33 ?_
        refine z_topi (tb_bI (P.1 4) j2) ?_
        refine z_iload_n E dX7_shuts_34 2 rfl rfl ?_
        refine z_icmpB0_ne E dX7_shuts_35 41 (by decide) (fun c3 => ?_) (fun c3 => ?_)
        · refine z_aload_n E dX7_shuts_41 0 rfl rfl ?_
          refine z_qv0 E (rV E hX (c_X7_notes g a h (sF M 0 0) P S U hN hS1 hS2 hU) mw_X7_notes ml_X7_172 dX7_shuts_42 (Nat.le_of_ble_eq_true rfl) ⟨(Nat.le_of_ble_eq_true rfl), (Nat.le_of_ble_eq_true rfl)⟩ rfl rfl (Nat.le_of_ble_eq_true rfl) 0 rfl rfl) (fun w2 hw => ?_)
          obtain ⟨M9, rfl, ⟨n9, f9, rfl, hU9⟩⟩ := hw
          refine ⟨rfl, ?_⟩
          refine z_ws (ws' := wMod g a h (sA (sF (sF M 0 0) 18 n9) 17 f9)) rfl ?_
          refine z_aload_n E dX7_shuts_45 0 rfl rfl ?_
          refine gt_X7_25 (v := .ref (h 14)) E dX7_shuts_46 0 rfl rfl ?_
          refine z_iconst (v := (nI 4)) E dX7_shuts_49 (by decide) ?_
          refine z_aload_n E dX7_shuts_50 0 rfl rfl ?_
          refine gt_X7_25 (v := .ref (h 14)) E dX7_shuts_51 0 rfl rfl ?_
          refine z_iconst (v := (nI 4)) E dX7_shuts_54 (by decide) ?_
          refine z_ialdN (f := (M.2 14)) E dX7_shuts_55 6 rfl (by decide) (by decide) ?_
          refine z_topi (y := nI (P.1 4)) (congrArg nI (hN.1 4 (by decide))) ?_
          refine z_iconst (v := (nI 1)) E dX7_shuts_56 (by decide) ?_
          refine z_iload_n E dX7_shuts_57 1 rfl rfl ?_
          refine z_ishlN E dX7_shuts_58 (by omega) ?_
          refine z_iconst (v := (-1)) E dX7_shuts_59 (by decide) ?_
          refine z_topi (y := nI 4294967295) rfl ?_
          refine z_ixorN E dX7_shuts_60 ?_
          refine z_iandN E dX7_shuts_61 ?_
          refine z_iload_n E dX7_shuts_62 2 rfl rfl ?_
          refine z_iload_n E dX7_shuts_63 1 rfl rfl ?_
          refine z_ishlN E dX7_shuts_64 (by omega) ?_
          refine z_iorN E dX7_shuts_65 ?_
          refine z_iastN (f := (M.2 14)) (i := 4) (x := (((P.1 4) &&& ((1 <<< j2) ^^^ 4294967295)) ||| (0 <<< j2))) (ws' := wMod g a h (sA (sA (sF (sF M 0 0) 18 n9) 14 (va_up (M.2 14) 4 (((P.1 4) &&& ((1 <<< j2) ^^^ 4294967295)) ||| (0 <<< j2)))) 17 f9)) E dX7_shuts_66 6 rfl (by decide) (by decide) rfl ?_
          refine z_aload_n E dX7_shuts_67 0 rfl rfl ?_
          refine gt_X7_25 (v := .ref (h 14)) E dX7_shuts_68 0 rfl rfl ?_
          refine z_iconst (v := (nI 4)) E dX7_shuts_71 (by decide) ?_
          refine z_ialdN (f := (va_up (M.2 14) 4 (((P.1 4) &&& ((1 <<< j2) ^^^ 4294967295)) ||| (0 <<< j2)))) E dX7_shuts_72 6 rfl (by decide) (by decide) ?_
          refine z_se E (rS E hX (c_X7_ones g ((va_up (M.2 14) 4 (((P.1 4) &&& ((1 <<< j2) ^^^ 4294967295)) ||| (0 <<< j2))) 4) (by have e := sh_bit (j := j2) (by omega) hs4 false c3; have e2 := xor12 (j := j2) hs4 (by omega); rw [← e] at e2; exact Nat.lt_trans e2 (by decide))) mw_X7_ones ms_X7_ones ml_X7_178 dX7_shuts_73 (Nat.le_of_ble_eq_true rfl) ⟨(Nat.le_of_ble_eq_true rfl), (Nat.le_of_ble_eq_true rfl)⟩ rfl rfl (Nat.le_of_ble_eq_true rfl)) ?_
          refine z_iret E Er dX7_shuts_76 ?_
          exact ⟨_, rfl, _, by rw [if_pos (show (hasR T (nI j2) && wi (nI 0) (nI 0) (nI 1)) = true by rw [c1, c2]; rfl), if_pos (show shC T P (nI j2) (nI 0) = true by unfold shC; rw [c1, c2, nI_clamp (by omega), c3]; decide), nI_clamp (by omega)]; exact congrArg (fun z => nI (pc12 z)) (sh_bit (by omega) hs4 false c3), rfl, ((((mQ.rf M).F (by omega)).F (by omega)).A (by omega)).A (by omega), by rw [if_pos (show shC T P (nI j2) (nI 0) = true by unfold shC; rw [c1, c2, nI_clamp (by omega), c3]; decide), if_pos (show shC T P (nI j2) (nI 0) = true by unfold shC; rw [c1, c2, nI_clamp (by omega), c3]; decide)]; exact hU9, by rw [if_pos (show shC T P (nI j2) (nI 0) = true by unfold shC; rw [c1, c2, nI_clamp (by omega), c3]; decide), nI_clamp (by omega), ← sh_bit (by omega) hs4 false c3]; exact mrP_sh hN rfl⟩
        · refine z_bipush (v := (-2)) E dX7_shuts_38 (by decide) ?_
          refine z_iret E Er dX7_shuts_40 ?_
          exact ⟨_, rfl, _, by rw [if_pos (show (hasR T (nI j2) && wi (nI 0) (nI 0) (nI 1)) = true by rw [c1, c2]; rfl), if_neg (show ¬ shC T P (nI j2) (nI 0) = true by unfold shC; rw [c1, c2, nI_clamp (by omega), c3]; decide)], rfl, ((mQ.rf M).F (by omega)), by rw [if_neg (show ¬ shC T P (nI j2) (nI 0) = true by unfold shC; rw [c1, c2, nI_clamp (by omega), c3]; decide), if_neg (show ¬ shC T P (nI j2) (nI 0) = true by unfold shC; rw [c1, c2, nI_clamp (by omega), c3]; decide)]; exact hU, by rw [if_neg (show ¬ shC T P (nI j2) (nI 0) = true by unfold shC; rw [c1, c2, nI_clamp (by omega), c3]; decide)]; exact hN⟩
      · refine z_aload_n E dX7_shuts_24 0 rfl rfl ?_
        refine gt_X7_25 (v := .ref (h 14)) E dX7_shuts_25 0 rfl rfl ?_
        refine z_iconst (v := (nI 4)) E dX7_shuts_28 (by decide) ?_
        refine z_ialdN (f := (M.2 14)) E dX7_shuts_29 6 rfl (by decide) (by decide) ?_
        refine z_topi (y := nI (P.1 4)) (congrArg nI (hN.1 4 (by decide))) ?_
        refine z_iload_n E dX7_shuts_30 1 rfl rfl ?_
        refine z_ishrN E dX7_shuts_31 (hP.1.1 _) (by omega) ?_
        refine z_iconst (v := (nI 1)) E dX7_shuts_32 (by decide) ?_
        refine z_iandN E dX7_shuts_33 ?_
        refine z_topi (tb_bI (P.1 4) j2) ?_
        refine z_iload_n E dX7_shuts_34 2 rfl rfl ?_
        refine z_icmpB1_ne E dX7_shuts_35 41 (by decide) (fun c3 => ?_) (fun c3 => ?_)
        · refine z_aload_n E dX7_shuts_41 0 rfl rfl ?_
          refine z_qv0 E (rV E hX (c_X7_notes g a h (sF M 0 0) P S U hN hS1 hS2 hU) mw_X7_notes ml_X7_172 dX7_shuts_42 (Nat.le_of_ble_eq_true rfl) ⟨(Nat.le_of_ble_eq_true rfl), (Nat.le_of_ble_eq_true rfl)⟩ rfl rfl (Nat.le_of_ble_eq_true rfl) 0 rfl rfl) (fun w2 hw => ?_)
          obtain ⟨M9, rfl, ⟨n9, f9, rfl, hU9⟩⟩ := hw
          refine ⟨rfl, ?_⟩
          refine z_ws (ws' := wMod g a h (sA (sF (sF M 0 0) 18 n9) 17 f9)) rfl ?_
          refine z_aload_n E dX7_shuts_45 0 rfl rfl ?_
          refine gt_X7_25 (v := .ref (h 14)) E dX7_shuts_46 0 rfl rfl ?_
          refine z_iconst (v := (nI 4)) E dX7_shuts_49 (by decide) ?_
          refine z_aload_n E dX7_shuts_50 0 rfl rfl ?_
          refine gt_X7_25 (v := .ref (h 14)) E dX7_shuts_51 0 rfl rfl ?_
          refine z_iconst (v := (nI 4)) E dX7_shuts_54 (by decide) ?_
          refine z_ialdN (f := (M.2 14)) E dX7_shuts_55 6 rfl (by decide) (by decide) ?_
          refine z_topi (y := nI (P.1 4)) (congrArg nI (hN.1 4 (by decide))) ?_
          refine z_iconst (v := (nI 1)) E dX7_shuts_56 (by decide) ?_
          refine z_iload_n E dX7_shuts_57 1 rfl rfl ?_
          refine z_ishlN E dX7_shuts_58 (by omega) ?_
          refine z_iconst (v := (-1)) E dX7_shuts_59 (by decide) ?_
          refine z_topi (y := nI 4294967295) rfl ?_
          refine z_ixorN E dX7_shuts_60 ?_
          refine z_iandN E dX7_shuts_61 ?_
          refine z_iload_n E dX7_shuts_62 2 rfl rfl ?_
          refine z_iload_n E dX7_shuts_63 1 rfl rfl ?_
          refine z_ishlN E dX7_shuts_64 (by omega) ?_
          refine z_iorN E dX7_shuts_65 ?_
          refine z_iastN (f := (M.2 14)) (i := 4) (x := (((P.1 4) &&& ((1 <<< j2) ^^^ 4294967295)) ||| (1 <<< j2))) (ws' := wMod g a h (sA (sA (sF (sF M 0 0) 18 n9) 14 (va_up (M.2 14) 4 (((P.1 4) &&& ((1 <<< j2) ^^^ 4294967295)) ||| (1 <<< j2)))) 17 f9)) E dX7_shuts_66 6 rfl (by decide) (by decide) rfl ?_
          refine z_aload_n E dX7_shuts_67 0 rfl rfl ?_
          refine gt_X7_25 (v := .ref (h 14)) E dX7_shuts_68 0 rfl rfl ?_
          refine z_iconst (v := (nI 4)) E dX7_shuts_71 (by decide) ?_
          refine z_ialdN (f := (va_up (M.2 14) 4 (((P.1 4) &&& ((1 <<< j2) ^^^ 4294967295)) ||| (1 <<< j2)))) E dX7_shuts_72 6 rfl (by decide) (by decide) ?_
          refine z_se E (rS E hX (c_X7_ones g ((va_up (M.2 14) 4 (((P.1 4) &&& ((1 <<< j2) ^^^ 4294967295)) ||| (1 <<< j2))) 4) (by have e := sh_bit (j := j2) (by omega) hs4 true c3; have e2 := xor12 (j := j2) hs4 (by omega); rw [← e] at e2; exact Nat.lt_trans e2 (by decide))) mw_X7_ones ms_X7_ones ml_X7_178 dX7_shuts_73 (Nat.le_of_ble_eq_true rfl) ⟨(Nat.le_of_ble_eq_true rfl), (Nat.le_of_ble_eq_true rfl)⟩ rfl rfl (Nat.le_of_ble_eq_true rfl)) ?_
          refine z_iret E Er dX7_shuts_76 ?_
          exact ⟨_, rfl, _, by rw [if_pos (show (hasR T (nI j2) && wi (nI 1) (nI 0) (nI 1)) = true by rw [c1, c2]; rfl), if_pos (show shC T P (nI j2) (nI 1) = true by unfold shC; rw [c1, c2, nI_clamp (by omega), c3]; decide), nI_clamp (by omega)]; exact congrArg (fun z => nI (pc12 z)) (sh_bit (by omega) hs4 true c3), rfl, ((((mQ.rf M).F (by omega)).F (by omega)).A (by omega)).A (by omega), by rw [if_pos (show shC T P (nI j2) (nI 1) = true by unfold shC; rw [c1, c2, nI_clamp (by omega), c3]; decide), if_pos (show shC T P (nI j2) (nI 1) = true by unfold shC; rw [c1, c2, nI_clamp (by omega), c3]; decide)]; exact hU9, by rw [if_pos (show shC T P (nI j2) (nI 1) = true by unfold shC; rw [c1, c2, nI_clamp (by omega), c3]; decide), nI_clamp (by omega), ← sh_bit (by omega) hs4 true c3]; exact mrP_sh hN rfl⟩
        · refine z_bipush (v := (-2)) E dX7_shuts_38 (by decide) ?_
          refine z_iret E Er dX7_shuts_40 ?_
          exact ⟨_, rfl, _, by rw [if_pos (show (hasR T (nI j2) && wi (nI 1) (nI 0) (nI 1)) = true by rw [c1, c2]; rfl), if_neg (show ¬ shC T P (nI j2) (nI 1) = true by unfold shC; rw [c1, c2, nI_clamp (by omega), c3]; decide)], rfl, ((mQ.rf M).F (by omega)), by rw [if_neg (show ¬ shC T P (nI j2) (nI 1) = true by unfold shC; rw [c1, c2, nI_clamp (by omega), c3]; decide), if_neg (show ¬ shC T P (nI j2) (nI 1) = true by unfold shC; rw [c1, c2, nI_clamp (by omega), c3]; decide)]; exact hU, by rw [if_neg (show ¬ shC T P (nI j2) (nI 1) = true by unfold shC; rw [c1, c2, nI_clamp (by omega), c3]; decide)]; exact hN⟩
    · refine z_iconst (v := (-1)) E dX7_shuts_22 (by decide) ?_
      refine z_iret E Er dX7_shuts_23 ?_
      exact ⟨_, rfl, _, by rw [if_neg (show ¬ (hasR T r && wi n (nI 0) (nI 1)) = true by rw [c2]; simp)], rfl, ((mQ.rf M).F (by omega)), by rw [if_neg (show ¬ shC T P r n = true by unfold shC; rw [c2]; simp), if_neg (show ¬ shC T P r n = true by unfold shC; rw [c2]; simp)]; exact hU, by rw [if_neg (show ¬ shC T P r n = true by unfold shC; rw [c2]; simp)]; exact hN⟩
