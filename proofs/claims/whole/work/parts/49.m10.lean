set_option maxHeartbeats 4000000 in
set_option maxRecDepth 100000 in
theorem l_mhis (g : GC) (a : Nat) (h : Nat → Nat) (M : NS) (n2 : Nat) (T : NS) (P : NS) (W : NS) (hT : tdI T) (hM : mrT T M) (hP : pnI T P) (hN : mrP P M) (hW2 : mrW W M) (hW : tvI T W) (X : XC) (E : Ob g X cX7_his 7 RX7) (hX : X.2.2.1 = zR 5 0 0) (f26 : Nat → Nat) (K : ∀ (i : Nat) (z : Nat) (b : Nat) (m : Nat), ((i, z, b, m) = hsS T P W (W.1 8)) → Z g X 7 0 0 (wMod g a h (sA (sA (sF (sF M 0 0) 25 (opn T P)) 24 (fun r => if r < T.1 1 then cT T P r else M.2 24 r)) 26 f26)) [(0, .ref a), (1, .int (nI n2)), (2, .int (nI z)), (3, .int (nI b)), (4, .int (nI m)), (5, .int (nI i))] [] 132) : ∀ (n : Nat) (i : Nat) (z : Nat) (b : Nat) (m : Nat), (i ≤ W.1 8) → ((i, z, b, m) = hsS T P W i) → (W.1 8 < i + n) → Z g X 7 0 0 (wMod g a h (sA (sA (sF (sF M 0 0) 25 (opn T P)) 24 (fun r => if r < T.1 1 then cT T P r else M.2 24 r)) 26 f26)) [(0, .ref a), (1, .int (nI n2)), (2, .int (nI z)), (3, .int (nI b)), (4, .int (nI m)), (5, .int (nI i))] [] 44 := by
  intro n
  induction n with
  | zero =>
    intro i z b m hi hs hf
    have hl := hsS_lt hT hP hW i hi
    rw [← hs] at hl
    dsimp only at hl
    have hw8 := hW.1
    have hR := hT.2.2.1
    have hb := hT.2.1.2
    have hs4 := hP.s4 hT
    have hp0 := hP.2.1
    have hp1 := hP.2.2.1
    have h4 := hT.2.2.2.2.2.1
    have hop := opn_lt P hR
    have hc1 := cT_1 P hT
    have hg3 := hT.2.2.2.2.1
    have hg2 := hT.2.2.2.1
    have hcl := fun (r : Nat) (_ : r < T.1 1) => cT_le hT hP r
    exfalso; omega
  | succ n ih =>
    intro i z b m hi hs hf
    have hl := hsS_lt hT hP hW i hi
    rw [← hs] at hl
    dsimp only at hl
    have hw8 := hW.1
    have hR := hT.2.2.1
    have hb := hT.2.1.2
    have hs4 := hP.s4 hT
    have hp0 := hP.2.1
    have hp1 := hP.2.2.1
    have h4 := hT.2.2.2.2.2.1
    have hop := opn_lt P hR
    have hc1 := cT_1 P hT
    have hg3 := hT.2.2.2.2.1
    have hg2 := hT.2.2.2.1
    have hcl := fun (r : Nat) (_ : r < T.1 1) => cT_le hT hP r
    refine z_iload E dX7_his_44 5 rfl ?_
    refine z_aload_n E dX7_his_46 0 rfl rfl ?_
    refine gt_X7_134 (v := .int (nI (M.1 20))) E dX7_his_47 0 rfl rfl ?_
    refine z_topi (y := nI (W.1 8)) (congrArg nI (hW2.1)) ?_
    refine z_icmpN_ge E dX7_his_50 132 (by decide) (by omega) (by omega) (fun c1 => ?_) (fun c1 => ?_)
    · exact K i z b m (by rw [hs, show i = W.1 8 by omega])
    · have h7 := hW.2.2.1 i c1
      refine z_aload_n E dX7_his_53 0 rfl rfl ?_
      refine gt_X7_163 (v := .int (nI (opn T P))) E dX7_his_54 0 rfl rfl ?_
      refine z_aload_n E dX7_his_57 0 rfl rfl ?_
      refine gt_X7_38 (v := .ref (h 19)) E dX7_his_58 0 rfl rfl ?_
      refine z_iload E dX7_his_61 5 rfl ?_
      refine z_ialdN (f := (M.2 19)) E dX7_his_63 10 rfl (by omega) (by decide) ?_
      refine z_topi (y := nI ((W.2 7) i)) (congrArg nI (hW2.2.1 i (by omega))) ?_
      refine z_ishrN E dX7_his_64 (by omega) (by omega) ?_
      refine z_iconst (v := (nI 1)) E dX7_his_65 (by decide) ?_
      refine z_iandN E dX7_his_66 ?_
      refine z_topi (tb_bI (opn T P) ((W.2 7) i)) ?_
      refine z_iconst (v := (nI 1)) E dX7_his_67 (by decide) ?_
      refine z_icmpB1_ne E dX7_his_68 132 (by decide) (fun c2 => ?_) (fun c2 => ?_)
      · exact K i z b m (by rw [hs]; exact (hsS_stop (by rw [hsS_s, if_neg (by rw [← hs]; dsimp only; rw [can_opn hR (hW.2.2.1 i c1), c2]; simp)]) _ (by omega)).symm)
      · refine z_aload_n E dX7_his_71 0 rfl rfl ?_
        refine z_aload_n E dX7_his_72 0 rfl rfl ?_
        refine gt_X7_38 (v := .ref (h 19)) E dX7_his_73 0 rfl rfl ?_
        refine z_iload E dX7_his_76 5 rfl ?_
        refine z_ialdN (f := (M.2 19)) E dX7_his_78 10 rfl (by omega) (by decide) ?_
        refine z_topi (y := nI ((W.2 7) i)) (congrArg nI (hW2.2.1 i (by omega))) ?_
        refine z_iload_n E dX7_his_79 2 rfl rfl ?_
        refine z_ro0 E (rV E hX (c_X7_isAt g a h (sA (sA (sF (sF M 0 0) 25 (opn T P)) 24 (fun r => if r < T.1 1 then cT T P r else M.2 24 r)) 26 f26) ((W.2 7) i) z T hT hM (by omega) (by omega)) mw_X7_isAt ml_X7_146 dX7_his_80 (Nat.le_of_ble_eq_true rfl) ⟨(Nat.le_of_ble_eq_true rfl), (Nat.le_of_ble_eq_true rfl)⟩ rfl rfl (Nat.le_of_ble_eq_true rfl) 0 rfl rfl) ?_
        refine z_ifB_eq E dX7_his_83 132 (by decide) (fun c3 => ?_) (fun c3 => ?_)
        · exact K i z b m (by rw [hs]; exact (hsS_stop (by rw [hsS_s, if_neg (by rw [← hs]; dsimp only; rw [can_opn hR (hW.2.2.1 i c1), c3]; simp)]) _ (by omega)).symm)
        · refine z_iload E dX7_his_86 4 rfl ?_
          refine z_aload_n E dX7_his_88 0 rfl rfl ?_
          refine z_iload_n E dX7_his_89 3 rfl rfl ?_
          refine z_aload_n E dX7_his_90 0 rfl rfl ?_
          refine gt_X7_38 (v := .ref (h 19)) E dX7_his_91 0 rfl rfl ?_
          refine z_iload E dX7_his_94 5 rfl ?_
          refine z_ialdN (f := (M.2 19)) E dX7_his_96 10 rfl (by omega) (by decide) ?_
          refine z_topi (y := nI ((W.2 7) i)) (congrArg nI (hW2.2.1 i (by omega))) ?_
          refine z_ro0 E (rV E hX (c_X7_cost g a h (sA (sA (sF (sF M 0 0) 25 (opn T P)) 24 (fun r => if r < T.1 1 then cT T P r else M.2 24 r)) 26 f26) b ((W.2 7) i) T (cT T P) hT hM (fun r hr => if_pos hr) (fun r _ => cT_le hT hP r) (by omega) (by omega)) mw_X7_cost ml_X7_169 dX7_his_97 (Nat.le_of_ble_eq_true rfl) ⟨(Nat.le_of_ble_eq_true rfl), (Nat.le_of_ble_eq_true rfl)⟩ rfl rfl (Nat.le_of_ble_eq_true rfl) 0 rfl rfl) ?_
          refine z_iaddN E dX7_his_100 ?_
          refine z_istore (lv' := [(0, .ref a), (1, .int (nI n2)), (2, .int (nI z)), (3, .int (nI b)), (4, .int (nI (m + ((cT T P) ((W.2 7) i) + nvT T b ((W.2 7) i))))), (5, .int (nI i))]) E dX7_his_101 (by decide) rfl ?_
          refine z_aload_n E dX7_his_103 0 rfl rfl ?_
          refine z_aload_n E dX7_his_104 0 rfl rfl ?_
          refine gt_X7_38 (v := .ref (h 19)) E dX7_his_105 0 rfl rfl ?_
          refine z_iload E dX7_his_108 5 rfl ?_
          refine z_ialdN (f := (M.2 19)) E dX7_his_110 10 rfl (by omega) (by decide) ?_
          refine z_topi (y := nI ((W.2 7) i)) (congrArg nI (hW2.2.1 i (by omega))) ?_
          refine z_iload_n E dX7_his_111 2 rfl rfl ?_
          refine z_ro0 E (rV E hX (c_X7_otherEnd g a h (sA (sA (sF (sF M 0 0) 25 (opn T P)) 24 (fun r => if r < T.1 1 then cT T P r else M.2 24 r)) 26 f26) ((W.2 7) i) z T hT hM (by omega) (by omega)) mw_X7_otherEnd ml_X7_175 dX7_his_112 (Nat.le_of_ble_eq_true rfl) ⟨(Nat.le_of_ble_eq_true rfl), (Nat.le_of_ble_eq_true rfl)⟩ rfl rfl (Nat.le_of_ble_eq_true rfl) 0 rfl rfl) ?_
          refine z_istore_n (lv' := [(0, .ref a), (1, .int (nI n2)), (2, .int (nI (otherT T ((W.2 7) i) z))), (3, .int (nI b)), (4, .int (nI (m + ((cT T P) ((W.2 7) i) + nvT T b ((W.2 7) i))))), (5, .int (nI i))]) E dX7_his_115 2 rfl (by decide) rfl ?_
          refine z_aload_n E dX7_his_116 0 rfl rfl ?_
          refine gt_X7_38 (v := .ref (h 19)) E dX7_his_117 0 rfl rfl ?_
          refine z_iload E dX7_his_120 5 rfl ?_
          refine z_ialdN (f := (M.2 19)) E dX7_his_122 10 rfl (by omega) (by decide) ?_
          refine z_topi (y := nI ((W.2 7) i)) (congrArg nI (hW2.2.1 i (by omega))) ?_
          refine z_iconst (v := (nI 1)) E dX7_his_123 (by decide) ?_
          refine z_iaddN E dX7_his_124 ?_
          refine z_istore_n (lv' := [(0, .ref a), (1, .int (nI n2)), (2, .int (nI (otherT T ((W.2 7) i) z))), (3, .int (nI (((W.2 7) i) + 1))), (4, .int (nI (m + ((cT T P) ((W.2 7) i) + nvT T b ((W.2 7) i))))), (5, .int (nI i))]) E dX7_his_125 3 rfl (by decide) rfl ?_
          refine z_iincN (lv' := [(0, .ref a), (1, .int (nI n2)), (2, .int (nI (otherT T ((W.2 7) i) z))), (3, .int (nI (((W.2 7) i) + 1))), (4, .int (nI (m + ((cT T P) ((W.2 7) i) + nvT T b ((W.2 7) i))))), (5, .int (nI (i + 1)))]) E dX7_his_126 5 rfl (by decide) rfl ?_
          refine z_goto E dX7_his_129 44 (by decide) ?_
          exact ih (i + 1) (otherT T ((W.2 7) i) z) (((W.2 7) i) + 1) (m + ((cT T P) ((W.2 7) i) + nvT T b ((W.2 7) i))) (by omega) (by rw [hsS_s, ← hs]; dsimp only; rw [if_pos ⟨rfl, by rw [can_opn hR h7, c2, c3]; rfl⟩]; rfl) (by omega)

set_option maxHeartbeats 4000000 in
set_option maxRecDepth 100000 in
theorem c_X7_his (g : GC) (a : Nat) (h : Nat → Nat) (M : NS) (n : Int32) (T : NS) (P : NS) (W : NS) (hT : tdI T) (hM : mrT T M) (hP : pnI T P) (hN : mrP P M) (hW2 : mrW W M) (hW : tvI T W) : Ct g yX7_his cX7_his 7 (some .int) 5 0 0 [.ref a, .int n] (wMod g a h M) (QI (fun r_ w_ => ∃ M2 : NS, r_ = (hisV T P W n) ∧ w_ = wMod g a h M2 ∧ mS M M2)) := by
  refine Ct.of (by decide) (Nat.le_of_ble_eq_true rfl) ?_
  intro X E Er hX _ hnm
  have E : Ob g X cX7_his 7 RX7 := E
  have hR := hT.2.2.1
  have hb := hT.2.1.2
  have hs4 := hP.s4 hT
  have hp0 := hP.2.1
  have hp1 := hP.2.2.1
  have h4 := hT.2.2.2.2.2.1
  have hop := opn_lt P hR
  have hc1 := cT_1 P hT
  have hg3 := hT.2.2.2.2.1
  have hg2 := hT.2.2.2.1
  have hcl := fun (r : Nat) (_ : r < T.1 1) => cT_le hT hP r
  refine z_lve (lv' := [(0, .ref a), (1, .int n)]) rfl ?_
  refine z_aload_n E dX7_his_0 0 rfl rfl ?_
  refine z_iconst (v := (nI 0)) E dX7_his_1 (by decide) ?_
  refine pt_X7_69 (x := nI 0) (ws' := wMod g a h (sF M 0 0)) E dX7_his_2 0 rfl (Nat.le_of_ble_eq_true rfl) rfl ?_
  refine z_iload_n E dX7_his_5 1 rfl rfl ?_
  refine z_iconst (v := (nI 0)) E dX7_his_6 (by decide) ?_
  refine z_iconst (v := (nI 1)) E dX7_his_7 (by decide) ?_
  refine z_se E (rS E hX (c_X7_in g n (nI 0) (nI 1)) mw_X7_in ms_X7_in ml_X7_73 dX7_his_8 (Nat.le_of_ble_eq_true rfl) ⟨(Nat.le_of_ble_eq_true rfl), (Nat.le_of_ble_eq_true rfl)⟩ rfl rfl (Nat.le_of_ble_eq_true rfl)) ?_
  refine z_ifB_ne E dX7_his_11 16 (by decide) (fun c1 => ?_) (fun c1 => ?_)
  · obtain ⟨n2, -, hn2, rfl⟩ := wi_nI (by decide) (by decide) c1
    refine z_aload_n E dX7_his_16 0 rfl rfl ?_
    refine z_rwv0 (w2 := wMod g a h (sA (sF (sF M 0 0) 25 (opn T P)) 24 (fun r => if r < T.1 1 then cT T P r else M.2 24 r))) E (rV E hX (c_X7_asNow g a h (sF M 0 0) T P hT hM hP hN) mw_X7_asNow ml_X7_166 dX7_his_17 (Nat.le_of_ble_eq_true rfl) ⟨(Nat.le_of_ble_eq_true rfl), (Nat.le_of_ble_eq_true rfl)⟩ rfl rfl (Nat.le_of_ble_eq_true rfl) 0 rfl rfl) rfl ?_
    refine z_aload_n E dX7_his_20 0 rfl rfl ?_
    refine z_qv0 E (rV E hX (c_X7_measures g a h (sA (sF (sF M 0 0) 25 (opn T P)) 24 (fun r => if r < T.1 1 then cT T P r else M.2 24 r)) T (cT T P) (opn T P) hT hM (fun r hr => if_pos hr) (fun r _ => cT_le hT hP r) hc1 rfl (by omega)) mw_X7_measures ml_X7_195 dX7_his_21 (Nat.le_of_ble_eq_true rfl) ⟨(Nat.le_of_ble_eq_true rfl), (Nat.le_of_ble_eq_true rfl)⟩ rfl rfl (Nat.le_of_ble_eq_true rfl) 0 rfl rfl) (fun w2 hw => ?_)
    obtain ⟨M9, rfl, ⟨f26, rfl, hf26⟩⟩ := hw
    refine ⟨rfl, ?_⟩
    refine z_ws (ws' := wMod g a h (sA (sA (sF (sF M 0 0) 25 (opn T P)) 24 (fun r => if r < T.1 1 then cT T P r else M.2 24 r)) 26 f26)) rfl ?_
    refine z_aload_n E dX7_his_24 0 rfl rfl ?_
    refine gt_X7_25 (v := .ref (h 14)) E dX7_his_25 0 rfl rfl ?_
    refine z_iconst (v := (nI 0)) E dX7_his_28 (by decide) ?_
    refine z_ialdN (f := (M.2 14)) E dX7_his_29 6 rfl (by decide) (by decide) ?_
    refine z_topi (y := nI (P.1 0)) (congrArg nI (hN.1 0 (by decide))) ?_
    refine z_istore_n (lv' := [(0, .ref a), (1, .int (nI n2)), (2, .int (nI (P.1 0)))]) E dX7_his_30 2 rfl (by decide) rfl ?_
    refine z_aload_n E dX7_his_31 0 rfl rfl ?_
    refine gt_X7_25 (v := .ref (h 14)) E dX7_his_32 0 rfl rfl ?_
    refine z_iconst (v := (nI 1)) E dX7_his_35 (by decide) ?_
    refine z_ialdN (f := (M.2 14)) E dX7_his_36 6 rfl (by decide) (by decide) ?_
    refine z_topi (y := nI (P.1 1)) (congrArg nI (hN.1 1 (by decide))) ?_
    refine z_istore_n (lv' := [(0, .ref a), (1, .int (nI n2)), (2, .int (nI (P.1 0))), (3, .int (nI (P.1 1)))]) E dX7_his_37 3 rfl (by decide) rfl ?_
    refine z_iconst (v := (nI 0)) E dX7_his_38 (by decide) ?_
    refine z_istore (lv' := [(0, .ref a), (1, .int (nI n2)), (2, .int (nI (P.1 0))), (3, .int (nI (P.1 1))), (4, .int (nI 0))]) E dX7_his_39 (by decide) rfl ?_
    refine z_iconst (v := (nI 0)) E dX7_his_41 (by decide) ?_
    refine z_istore (lv' := [(0, .ref a), (1, .int (nI n2)), (2, .int (nI (P.1 0))), (3, .int (nI (P.1 1))), (4, .int (nI 0)), (5, .int (nI 0))]) E dX7_his_42 (by decide) rfl ?_
    refine l_mhis g a h M n2 T P W hT hM hP hN hW2 hW X E hX f26 (fun i z b m hs => ?_) (W.1 8 + 1) 0 (P.1 0) (P.1 1) 0 (by omega) rfl (by omega)
    have hl := hsS_lt hT hP hW (W.1 8) (Nat.le_refl _)
    rw [← hs] at hl
    dsimp only at hl
    have hw8 := hW.1
    refine z_aload_n E dX7_his_132 0 rfl rfl ?_
    refine z_iload_n E dX7_his_133 2 rfl rfl ?_
    refine z_iload_n E dX7_his_134 3 rfl rfl ?_
    refine z_ro0 E (rV E hX (c_X7_farFrom g a h (sA (sA (sF (sF M 0 0) 25 (opn T P)) 24 (fun r => if r < T.1 1 then cT T P r else M.2 24 r)) 26 f26) z b T (cT T P) (opn T P) (LF T (cT T P) (opn T P)) hT hM (fun r hr => if_pos hr) (fun r _ => cT_le hT hP r) rfl (by omega) hf26 (fun k hk => LF_le hk) (by omega) (by omega)) mw_X7_farFrom ml_X7_186 dX7_his_135 (Nat.le_of_ble_eq_true rfl) ⟨(Nat.le_of_ble_eq_true rfl), (Nat.le_of_ble_eq_true rfl)⟩ rfl rfl (Nat.le_of_ble_eq_true rfl) 0 rfl rfl) ?_
    refine z_topi (y := nI (farV T (cT T P) (opn T P) b z)) rfl ?_
    have hfl := farV_le T (cT T P) (opn T P) b z
    refine z_istore (lv' := [(0, .ref a), (1, .int (nI n2)), (2, .int (nI z)), (3, .int (nI b)), (4, .int (nI m)), (5, .int (nI i)), (6, .int (nI (farV T (cT T P) (opn T P) b z)))]) E dX7_his_138 (by decide) rfl ?_
    refine z_iload_n E dX7_his_140 1 rfl rfl ?_
    refine z_iconst (v := (nI 1)) E dX7_his_141 (by decide) ?_
    refine z_icmpN_ne E dX7_his_142 150 (by decide) (by omega) (by decide) (fun c2 => ?_) (fun c2 => ?_)
    · refine z_iload E dX7_his_150 6 rfl ?_
      refine z_ldc (v := nI 1000000) E dX7_his_152 kc_X7_181 ?_
      refine z_icmpN_ne E dX7_his_154 162 (by decide) (by omega) (by decide) (fun c3 => ?_) (fun c3 => ?_)
      · refine z_iload E dX7_his_162 4 rfl ?_
        refine z_iload E dX7_his_164 6 rfl ?_
        refine z_iaddN E dX7_his_166 ?_
        refine z_iret E Er dX7_his_167 ?_
        exact ⟨_, rfl, _, by rw [hisV, if_pos c1, if_neg (fun q => c2 ((nI_injI (by omega) (by decide)).mp q)), ← hs]; dsimp only; rw [if_neg (fun q => c3 (mfV_0.mp q)), (mfV_n (fun q => c3 (mfV_0.mp q))).1, Nat.add_sub_cancel], rfl, (((((mS.rf M).F (by omega)).F (by omega)).A (by omega)).A (by omega))⟩
      · refine z_bipush (v := (-9)) E dX7_his_157 (by decide) ?_
        refine z_goto E dX7_his_159 167 (by decide) ?_
        refine z_iret E Er dX7_his_167 ?_
        exact ⟨_, rfl, _, by rw [hisV, if_pos c1, if_neg (fun q => c2 ((nI_injI (by omega) (by decide)).mp q)), ← hs]; dsimp only; rw [if_pos (mfV_0.mpr c3)], rfl, (((((mS.rf M).F (by omega)).F (by omega)).A (by omega)).A (by omega))⟩
    · refine z_iload E dX7_his_145 5 rfl ?_
      refine z_goto E dX7_his_147 167 (by decide) ?_
      refine z_iret E Er dX7_his_167 ?_
      exact ⟨_, rfl, _, by rw [hisV, if_pos c1, if_pos (by rw [c2]), ← hs], rfl, (((((mS.rf M).F (by omega)).F (by omega)).A (by omega)).A (by omega))⟩
  · refine z_iconst (v := (-1)) E dX7_his_14 (by decide) ?_
    refine z_iret E Er dX7_his_15 ?_
    exact ⟨_, rfl, _, by rw [hisV, if_neg (show ¬ wi n (nI 0) (nI 1) = true by rw [c1]; decide)], rfl, ((mS.rf M).F (by omega))⟩

/-- the reference's longest, one more (0: none yet) -/
noncomputable def wsY (T P : NS) (i : Nat) : Nat := if (wsF T P i).1 = 0 then 0 else if (wsF T P i).2 = 0 then 1000001 else (wsF T P i).2
theorem wsF_n0 {T P : NS} : ∀ i, (wsF T P i).1 = 0 → (wsF T P i).2 ≠ 0
  | 0, _ => by show (1 : Nat) ≠ 0; decide
  | i + 1, h => by
    have ih := wsF_n0 (T := T) (P := P) i
    rw [wsF_s] at h ⊢
    split at h
    · rename_i q
      rw [if_pos q]; exact ih h
    · rename_i q
      rw [if_neg q]
      split at h
      · rename_i q2
        rw [if_pos q2]
        split at h
        · cases h
        · rename_i q3
          rw [if_neg q3]; exact q
      · rename_i q2
        rw [if_neg q2]; exact q
theorem wsY_le (T P : NS) (i : Nat) : wsY T P i ≤ 1000001 := by
  have := (wsF_le T P i).2
  unfold wsY
  split
  · omega
  · split <;> omega
theorem ws_no {T P : NS} {i : Nat} (h : (opn T P).testBit i = false) : wsF T P (i + 1) = wsF T P i := by
  rw [wsF_s]
  split
  · rfl
  · rw [if_neg (by rw [h]; decide)]
theorem ws_keep {T P : NS} {i : Nat} (h : (opn T P).testBit i = true) (hf : farV T (cT T P) (offR (opn T P) i) (P.1 1) (P.1 0) + 1 ≤ wsY T P i) : wsF T P (i + 1) = wsF T P i := by
  rw [wsF_s]
  by_cases q : (wsF T P i).2 = 0
  · rw [if_pos q]
  · rw [if_neg q, if_pos h]
    unfold wsY at hf
    by_cases q1 : (wsF T P i).1 = 0
    · rw [if_pos q1] at hf; omega
    · rw [if_neg q1, if_neg q] at hf
      have h2 := (wsF_le T P i).2
      have hm : mfV T (cT T P) (offR (opn T P) i) (P.1 1) (P.1 0) ≠ 0 := fun e => by have := mfV_0.mp e; omega
      have := (mfV_n hm).1
      rw [if_neg (by omega)]
theorem ws_new {T P : NS} {i : Nat} (h : (opn T P).testBit i = true) (hf : wsY T P i ≤ farV T (cT T P) (offR (opn T P) i) (P.1 1) (P.1 0)) : (wsF T P (i + 1)).1 = i + 1 ∧ wsY T P (i + 1) = farV T (cT T P) (offR (opn T P) i) (P.1 1) (P.1 0) + 1 := by
  have hl := farV_le T (cT T P) (offR (opn T P) i) (P.1 1) (P.1 0)
  have e : wsF T P (i + 1) = (i + 1, mfV T (cT T P) (offR (opn T P) i) (P.1 1) (P.1 0)) := by
    rw [wsF_s]
    have hq : (wsF T P i).2 ≠ 0 := by
      intro q
      unfold wsY at hf
      by_cases q1 : (wsF T P i).1 = 0
      · exact wsF_n0 i q1 q
      · rw [if_neg q1, if_pos q] at hf; omega
    rw [if_neg hq, if_pos h]
    by_cases q1 : (wsF T P i).1 = 0
    · rw [if_pos (Or.inl q1)]
    · unfold wsY at hf
      rw [if_neg q1, if_neg hq] at hf
      by_cases hm : mfV T (cT T P) (offR (opn T P) i) (P.1 1) (P.1 0) = 0
      · rw [if_pos (Or.inr (Or.inl hm))]
      · have := (mfV_n hm).1
        rw [if_pos (Or.inr (Or.inr (by omega)))]
  refine ⟨by rw [e], ?_⟩
  unfold wsY
  rw [e]
  dsimp only
  rw [if_neg (by omega)]
  by_cases hm : mfV T (cT T P) (offR (opn T P) i) (P.1 1) (P.1 0) = 0
  · rw [if_pos hm, mfV_0.mp hm]
  · rw [if_neg hm, (mfV_n hm).1]
theorem wsY_cg {T P : NS} {i j : Nat} (h : wsF T P j = wsF T P i) : wsY T P j = wsY T P i := by unfold wsY; rw [h]

set_option maxHeartbeats 4000000 in
set_option maxRecDepth 100000 in
theorem l_mworst (g : GC) (a : Nat) (h : Nat → Nat) (M : NS) (n2 : Nat) (T : NS) (P : NS) (hT : tdI T) (hM : mrT T M) (hP : pnI T P) (hN : mrP P M) (X : XC) (E : Ob g X cX7_worst 7 RX7) (hX : X.2.2.1 = zR 5 0 0) (K : ∀ (z : Nat) (y : Nat) (o9 : Nat) (f9 : Nat → Nat), (z = (wsF T P (T.1 1)).1) → (y = wsY T P (T.1 1)) → Z g X 7 0 0 (wMod g a h (sA (sA (sF (sF M 0 0) 25 o9) 24 (fun r => if r < T.1 1 then cT T P r else M.2 24 r)) 26 f9)) [(0, .ref a), (1, .int (nI n2)), (2, .int (cm z)), (3, .int (pm y))] [] 151) : ∀ (n : Nat) (i : Nat) (z : Nat) (y : Nat) (o9 : Nat) (f9 : Nat → Nat), (i ≤ T.1 1) → (z = (wsF T P i).1) → (y = wsY T P i) → (T.1 1 < i + n) → Z g X 7 0 0 (wMod g a h (sA (sA (sF (sF M 0 0) 25 o9) 24 (fun r => if r < T.1 1 then cT T P r else M.2 24 r)) 26 f9)) [(0, .ref a), (1, .int (nI n2)), (2, .int (cm z)), (3, .int (pm y)), (4, .int (nI (opn T P))), (5, .int (nI i))] [] 62 := by
  intro n
  induction n with
  | zero =>
    intro i z y o9 f9 hi hz hy hf
    have hR := hT.2.2.1
    have hb := hT.2.1.2
    have hs4 := hP.s4 hT
    have hp0 := hP.2.1
    have hp1 := hP.2.2.1
    have h4 := hT.2.2.2.2.2.1
    have hop := opn_lt P hR
    have hc1 := cT_1 P hT
    have hg3 := hT.2.2.2.2.1
    have hg2 := hT.2.2.2.1
    have hcl := fun (r : Nat) (_ : r < T.1 1) => cT_le hT hP r
    have hyl := wsY_le T P i
    have hzl := (wsF_le T P i).1
    exfalso; omega
  | succ n ih =>
    intro i z y o9 f9 hi hz hy hf
    have hR := hT.2.2.1
    have hb := hT.2.1.2
    have hs4 := hP.s4 hT
    have hp0 := hP.2.1
    have hp1 := hP.2.2.1
    have h4 := hT.2.2.2.2.2.1
    have hop := opn_lt P hR
    have hc1 := cT_1 P hT
    have hg3 := hT.2.2.2.2.1
    have hg2 := hT.2.2.2.1
    have hcl := fun (r : Nat) (_ : r < T.1 1) => cT_le hT hP r
    have hyl := wsY_le T P i
    have hzl := (wsF_le T P i).1
    refine z_iload E dX7_worst_62 5 rfl ?_
    refine z_aload_n E dX7_worst_64 0 rfl rfl ?_
    refine gt_X7_13 (v := .ref (h 9)) E dX7_worst_65 0 rfl rfl ?_
    refine z_iconst (v := (nI 1)) E dX7_worst_68 (by decide) ?_
    refine z_ialdN (f := (M.2 9)) E dX7_worst_69 2 rfl (by decide) (by decide) ?_
    refine z_topi (y := nI (T.1 1)) (congrArg nI (hM.1 1 (by decide))) ?_
    refine z_icmpN_ge E dX7_worst_70 151 (by decide) (by omega) (hT.1.1 _) (fun c1 => ?_) (fun c1 => ?_)
    · refine z_lv [0, 1, 2, 3] rfl ?_; exact K z y o9 f9 (by rw [hz, show i = T.1 1 by omega]) (by rw [hy, show i = T.1 1 by omega])
    · refine z_iload E dX7_worst_73 4 rfl ?_
      refine z_iload E dX7_worst_75 5 rfl ?_
      refine z_ishrN E dX7_worst_77 (by omega) (by omega) ?_
      refine z_iconst (v := (nI 1)) E dX7_worst_78 (by decide) ?_
      refine z_iandN E dX7_worst_79 ?_
      refine z_topi (tb_bI (opn T P) i) ?_
      refine z_iconst (v := (nI 1)) E dX7_worst_80 (by decide) ?_
      refine z_icmpB1_ne E dX7_worst_81 145 (by decide) (fun c2 => ?_) (fun c2 => ?_)
      · refine z_iincN (lv' := [(0, .ref a), (1, .int (nI n2)), (2, .int (cm z)), (3, .int (pm y)), (4, .int (nI (opn T P))), (5, .int (nI (i + 1)))]) E dX7_worst_145 5 rfl (by decide) rfl ?_
        refine z_goto E dX7_worst_148 62 (by decide) ?_
        exact ih (i + 1) z y o9 f9 (by omega) (by rw [ws_no c2]; exact hz) (by rw [wsY_cg (ws_no c2)]; exact hy) (by omega)
      · refine z_aload_n E dX7_worst_84 0 rfl rfl ?_
        refine z_iload E dX7_worst_85 4 rfl ?_
        refine z_iconst (v := (nI 1)) E dX7_worst_87 (by decide) ?_
        refine z_iload E dX7_worst_88 5 rfl ?_
        refine z_ishlN E dX7_worst_90 (by omega) ?_
        refine z_iconst (v := (-1)) E dX7_worst_91 (by decide) ?_
        refine z_topi (y := nI 4294967295) rfl ?_
        refine z_ixorN E dX7_worst_92 ?_
        refine z_iandN E dX7_worst_93 ?_
        refine z_topi (y := nI (offR (opn T P) i)) rfl ?_
        refine pt_X7_163 (x := nI (offR (opn T P) i)) (ws' := wMod g a h (sA (sA (sF (sF M 0 0) 25 (offR (opn T P) i)) 24 (fun r => if r < T.1 1 then cT T P r else M.2 24 r)) 26 f9)) E dX7_worst_94 0 rfl (Nat.le_of_ble_eq_true rfl) rfl ?_
        refine z_aload_n E dX7_worst_97 0 rfl rfl ?_
        refine z_qv0 E (rV E hX (c_X7_measures g a h (sA (sA (sF (sF M 0 0) 25 (offR (opn T P) i)) 24 (fun r => if r < T.1 1 then cT T P r else M.2 24 r)) 26 f9) T (cT T P) (offR (opn T P) i) hT hM (fun r hr => if_pos hr) (fun r _ => cT_le hT hP r) hc1 rfl (Nat.lt_of_le_of_lt (offR_le (opn T P) i) (by omega))) mw_X7_measures ml_X7_195 dX7_worst_98 (Nat.le_of_ble_eq_true rfl) ⟨(Nat.le_of_ble_eq_true rfl), (Nat.le_of_ble_eq_true rfl)⟩ rfl rfl (Nat.le_of_ble_eq_true rfl) 0 rfl rfl) (fun w2 hw => ?_)
        obtain ⟨M9, rfl, ⟨f8, rfl, hf8⟩⟩ := hw
        refine ⟨rfl, ?_⟩
        refine z_ws (ws' := wMod g a h (sA (sA (sF (sF M 0 0) 25 (offR (opn T P) i)) 24 (fun r => if r < T.1 1 then cT T P r else M.2 24 r)) 26 f8)) rfl ?_
        refine z_aload_n E dX7_worst_101 0 rfl rfl ?_
        refine z_aload_n E dX7_worst_102 0 rfl rfl ?_
        refine gt_X7_25 (v := .ref (h 14)) E dX7_worst_103 0 rfl rfl ?_
        refine z_iconst (v := (nI 0)) E dX7_worst_106 (by decide) ?_
        refine z_ialdN (f := (M.2 14)) E dX7_worst_107 6 rfl (by decide) (by decide) ?_
        refine z_topi (y := nI (P.1 0)) (congrArg nI (hN.1 0 (by decide))) ?_
        refine z_aload_n E dX7_worst_108 0 rfl rfl ?_
        refine gt_X7_25 (v := .ref (h 14)) E dX7_worst_109 0 rfl rfl ?_
        refine z_iconst (v := (nI 1)) E dX7_worst_112 (by decide) ?_
        refine z_ialdN (f := (M.2 14)) E dX7_worst_113 6 rfl (by decide) (by decide) ?_
        refine z_topi (y := nI (P.1 1)) (congrArg nI (hN.1 1 (by decide))) ?_
        refine z_ro0 E (rV E hX (c_X7_farFrom g a h (sA (sA (sF (sF M 0 0) 25 (offR (opn T P) i)) 24 (fun r => if r < T.1 1 then cT T P r else M.2 24 r)) 26 f8) (P.1 0) (P.1 1) T (cT T P) (offR (opn T P) i) (LF T (cT T P) (offR (opn T P) i)) hT hM (fun r hr => if_pos hr) (fun r _ => cT_le hT hP r) rfl (Nat.lt_of_le_of_lt (offR_le (opn T P) i) (by omega)) hf8 (fun k hk => LF_le hk) (by omega) (by omega)) mw_X7_farFrom ml_X7_186 dX7_worst_114 (Nat.le_of_ble_eq_true rfl) ⟨(Nat.le_of_ble_eq_true rfl), (Nat.le_of_ble_eq_true rfl)⟩ rfl rfl (Nat.le_of_ble_eq_true rfl) 0 rfl rfl) ?_
        refine z_topi (y := nI (farV T (cT T P) (offR (opn T P) i) (P.1 1) (P.1 0))) rfl ?_
        have hfl := farV_le T (cT T P) (offR (opn T P) i) (P.1 1) (P.1 0)
        refine z_istore (lv' := [(0, .ref a), (1, .int (nI n2)), (2, .int (cm z)), (3, .int (pm y)), (4, .int (nI (opn T P))), (5, .int (nI i)), (6, .int (nI (farV T (cT T P) (offR (opn T P) i) (P.1 1) (P.1 0))))]) E dX7_worst_117 (by decide) rfl ?_
        refine z_iload E dX7_worst_119 6 rfl ?_
        refine z_iload_n E dX7_worst_121 3 rfl rfl ?_
        refine z_icmpNP_le E dX7_worst_122 130 (by decide) (by omega) (by omega) (fun c3 => ?_) (fun c3 => ?_)
        · refine z_iload_n E dX7_worst_130 2 rfl rfl ?_
          refine z_istore_n (lv' := [(0, .ref a), (1, .int (nI n2)), (2, .int (cm z)), (3, .int (pm y)), (4, .int (nI (opn T P))), (5, .int (nI i)), (6, .int (nI (farV T (cT T P) (offR (opn T P) i) (P.1 1) (P.1 0))))]) E dX7_worst_131 2 rfl (by decide) rfl ?_
          refine z_iload E dX7_worst_132 6 rfl ?_
          refine z_iload_n E dX7_worst_134 3 rfl rfl ?_
          refine z_icmpNP_le E dX7_worst_135 143 (by decide) (by omega) (by omega) (fun _ => ?_) (fun h => absurd c3 (by omega))
          refine z_iload_n E dX7_worst_143 3 rfl rfl ?_
          refine z_istore_n (lv' := [(0, .ref a), (1, .int (nI n2)), (2, .int (cm z)), (3, .int (pm y)), (4, .int (nI (opn T P))), (5, .int (nI i)), (6, .int (nI (farV T (cT T P) (offR (opn T P) i) (P.1 1) (P.1 0))))]) E dX7_worst_144 3 rfl (by decide) rfl ?_
          refine z_iincN (lv' := [(0, .ref a), (1, .int (nI n2)), (2, .int (cm z)), (3, .int (pm y)), (4, .int (nI (opn T P))), (5, .int (nI (i + 1))), (6, .int (nI (farV T (cT T P) (offR (opn T P) i) (P.1 1) (P.1 0))))]) E dX7_worst_145 5 rfl (by decide) rfl ?_
          refine z_goto E dX7_worst_148 62 (by decide) ?_
          refine z_lv [0, 1, 2, 3, 4, 5] rfl ?_; exact ih (i + 1) z y (offR (opn T P) i) f8 (by omega) (by rw [ws_keep c2 (hy ▸ c3)]; exact hz) (by rw [wsY_cg (ws_keep c2 (hy ▸ c3))]; exact hy) (by omega)
        · refine z_iload E dX7_worst_125 5 rfl ?_
          refine z_goto E dX7_worst_127 131 (by decide) ?_
          refine z_istore_n (lv' := [(0, .ref a), (1, .int (nI n2)), (2, .int (nI i)), (3, .int (pm y)), (4, .int (nI (opn T P))), (5, .int (nI i)), (6, .int (nI (farV T (cT T P) (offR (opn T P) i) (P.1 1) (P.1 0))))]) E dX7_worst_131 2 rfl (by decide) rfl ?_
          refine z_iload E dX7_worst_132 6 rfl ?_
          refine z_iload_n E dX7_worst_134 3 rfl rfl ?_
          refine z_icmpNP_le E dX7_worst_135 143 (by decide) (by omega) (by omega) (fun h => absurd c3 (by omega)) (fun _ => ?_)
          refine z_iload E dX7_worst_138 6 rfl ?_
          refine z_goto E dX7_worst_140 144 (by decide) ?_
          refine z_istore_n (lv' := [(0, .ref a), (1, .int (nI n2)), (2, .int (nI i)), (3, .int (nI (farV T (cT T P) (offR (opn T P) i) (P.1 1) (P.1 0)))), (4, .int (nI (opn T P))), (5, .int (nI i)), (6, .int (nI (farV T (cT T P) (offR (opn T P) i) (P.1 1) (P.1 0))))]) E dX7_worst_144 3 rfl (by decide) rfl ?_
          refine z_iincN (lv' := [(0, .ref a), (1, .int (nI n2)), (2, .int (nI i)), (3, .int (nI (farV T (cT T P) (offR (opn T P) i) (P.1 1) (P.1 0)))), (4, .int (nI (opn T P))), (5, .int (nI (i + 1))), (6, .int (nI (farV T (cT T P) (offR (opn T P) i) (P.1 1) (P.1 0))))]) E dX7_worst_145 5 rfl (by decide) rfl ?_
          refine z_goto E dX7_worst_148 62 (by decide) ?_
          refine z_lv [0, 1, 2, 3, 4, 5] rfl ?_; exact ih (i + 1) (i + 1) ((farV T (cT T P) (offR (opn T P) i) (P.1 1) (P.1 0)) + 1) (offR (opn T P) i) f8 (by omega) ((ws_new c2 (hy ▸ c3)).1.symm) ((ws_new c2 (hy ▸ c3)).2.symm) (by omega)

set_option maxHeartbeats 4000000 in
set_option maxRecDepth 100000 in
theorem c_X7_worst (g : GC) (a : Nat) (h : Nat → Nat) (M : NS) (n : Int32) (T : NS) (P : NS) (hT : tdI T) (hM : mrT T M) (hP : pnI T P) (hN : mrP P M) : Ct g yX7_worst cX7_worst 7 (some .int) 5 0 0 [.ref a, .int n] (wMod g a h M) (QI (fun r_ w_ => ∃ M2 : NS, r_ = (wstV T P n) ∧ w_ = wMod g a h M2 ∧ mS M M2)) := by
  refine Ct.of (by decide) (Nat.le_of_ble_eq_true rfl) ?_
  intro X E Er hX _ hnm
  have E : Ob g X cX7_worst 7 RX7 := E
  have hR := hT.2.2.1
  have hb := hT.2.1.2
  have hs4 := hP.s4 hT
  have hp0 := hP.2.1
  have hp1 := hP.2.2.1
  have h4 := hT.2.2.2.2.2.1
  have hop := opn_lt P hR
  have hc1 := cT_1 P hT
  have hg3 := hT.2.2.2.2.1
  have hg2 := hT.2.2.2.1
  have hcl := fun (r : Nat) (_ : r < T.1 1) => cT_le hT hP r
  refine z_lve (lv' := [(0, .ref a), (1, .int n)]) rfl ?_
  refine z_aload_n E dX7_worst_0 0 rfl rfl ?_
  refine z_iconst (v := (nI 0)) E dX7_worst_1 (by decide) ?_
  refine pt_X7_69 (x := nI 0) (ws' := wMod g a h (sF M 0 0)) E dX7_worst_2 0 rfl (Nat.le_of_ble_eq_true rfl) rfl ?_
  refine z_iload_n E dX7_worst_5 1 rfl rfl ?_
  refine z_iconst (v := (nI 0)) E dX7_worst_6 (by decide) ?_
  refine z_iconst (v := (nI 1)) E dX7_worst_7 (by decide) ?_
  refine z_se E (rS E hX (c_X7_in g n (nI 0) (nI 1)) mw_X7_in ms_X7_in ml_X7_73 dX7_worst_8 (Nat.le_of_ble_eq_true rfl) ⟨(Nat.le_of_ble_eq_true rfl), (Nat.le_of_ble_eq_true rfl)⟩ rfl rfl (Nat.le_of_ble_eq_true rfl)) ?_
  refine z_ifB_ne E dX7_worst_11 16 (by decide) (fun c1 => ?_) (fun c1 => ?_)
  · obtain ⟨n2, -, hn2, rfl⟩ := wi_nI (by decide) (by decide) c1
    refine z_aload_n E dX7_worst_16 0 rfl rfl ?_
    refine z_rwv0 (w2 := wMod g a h (sA (sF (sF M 0 0) 25 (opn T P)) 24 (fun r => if r < T.1 1 then cT T P r else M.2 24 r))) E (rV E hX (c_X7_asNow g a h (sF M 0 0) T P hT hM hP hN) mw_X7_asNow ml_X7_166 dX7_worst_17 (Nat.le_of_ble_eq_true rfl) ⟨(Nat.le_of_ble_eq_true rfl), (Nat.le_of_ble_eq_true rfl)⟩ rfl rfl (Nat.le_of_ble_eq_true rfl) 0 rfl rfl) rfl ?_
    refine z_aload_n E dX7_worst_20 0 rfl rfl ?_
    refine z_qv0 E (rV E hX (c_X7_measures g a h (sA (sF (sF M 0 0) 25 (opn T P)) 24 (fun r => if r < T.1 1 then cT T P r else M.2 24 r)) T (cT T P) (opn T P) hT hM (fun r hr => if_pos hr) (fun r _ => cT_le hT hP r) hc1 rfl (by omega)) mw_X7_measures ml_X7_195 dX7_worst_21 (Nat.le_of_ble_eq_true rfl) ⟨(Nat.le_of_ble_eq_true rfl), (Nat.le_of_ble_eq_true rfl)⟩ rfl rfl (Nat.le_of_ble_eq_true rfl) 0 rfl rfl) (fun w2 hw => ?_)
    obtain ⟨M9, rfl, ⟨f26, rfl, hf26⟩⟩ := hw
    refine ⟨rfl, ?_⟩
    refine z_ws (ws' := wMod g a h (sA (sA (sF (sF M 0 0) 25 (opn T P)) 24 (fun r => if r < T.1 1 then cT T P r else M.2 24 r)) 26 f26)) rfl ?_
    refine z_bipush (v := (-9)) E dX7_worst_24 (by decide) ?_
    refine z_istore_n (lv' := [(0, .ref a), (1, .int (nI n2)), (2, .int (-9))]) E dX7_worst_26 2 rfl (by decide) rfl ?_
    refine z_iconst (v := (-1)) E dX7_worst_27 (by decide) ?_
    refine z_istore_n (lv' := [(0, .ref a), (1, .int (nI n2)), (2, .int (-9)), (3, .int (-1))]) E dX7_worst_28 3 rfl (by decide) rfl ?_
    refine z_aload_n E dX7_worst_29 0 rfl rfl ?_
    refine gt_X7_163 (v := .int (nI (opn T P))) E dX7_worst_30 0 rfl rfl ?_
    refine z_istore (lv' := [(0, .ref a), (1, .int (nI n2)), (2, .int (-9)), (3, .int (-1)), (4, .int (nI (opn T P)))]) E dX7_worst_33 (by decide) rfl ?_
    refine z_aload_n E dX7_worst_35 0 rfl rfl ?_
    refine z_aload_n E dX7_worst_36 0 rfl rfl ?_
    refine gt_X7_25 (v := .ref (h 14)) E dX7_worst_37 0 rfl rfl ?_
    refine z_iconst (v := (nI 0)) E dX7_worst_40 (by decide) ?_
    refine z_ialdN (f := (M.2 14)) E dX7_worst_41 6 rfl (by decide) (by decide) ?_
    refine z_topi (y := nI (P.1 0)) (congrArg nI (hN.1 0 (by decide))) ?_
    refine z_aload_n E dX7_worst_42 0 rfl rfl ?_
    refine gt_X7_25 (v := .ref (h 14)) E dX7_worst_43 0 rfl rfl ?_
    refine z_iconst (v := (nI 1)) E dX7_worst_46 (by decide) ?_
    refine z_ialdN (f := (M.2 14)) E dX7_worst_47 6 rfl (by decide) (by decide) ?_
    refine z_topi (y := nI (P.1 1)) (congrArg nI (hN.1 1 (by decide))) ?_
    refine z_ro0 E (rV E hX (c_X7_farFrom g a h (sA (sA (sF (sF M 0 0) 25 (opn T P)) 24 (fun r => if r < T.1 1 then cT T P r else M.2 24 r)) 26 f26) (P.1 0) (P.1 1) T (cT T P) (opn T P) (LF T (cT T P) (opn T P)) hT hM (fun r hr => if_pos hr) (fun r _ => cT_le hT hP r) rfl (by omega) hf26 (fun k hk => LF_le hk) (by omega) (by omega)) mw_X7_farFrom ml_X7_186 dX7_worst_48 (Nat.le_of_ble_eq_true rfl) ⟨(Nat.le_of_ble_eq_true rfl), (Nat.le_of_ble_eq_true rfl)⟩ rfl rfl (Nat.le_of_ble_eq_true rfl) 0 rfl rfl) ?_
    refine z_topi (y := nI (farV T (cT T P) (opn T P) (P.1 1) (P.1 0))) rfl ?_
    have hfl := farV_le T (cT T P) (opn T P) (P.1 1) (P.1 0)
    refine z_ldc (v := nI 1000000) E dX7_worst_51 kc_X7_181 ?_
    refine z_icmpN_ne E dX7_worst_53 59 (by decide) (by omega) (by decide) (fun c2 => ?_) (fun c2 => ?_)
    · refine z_iconst (v := (nI 0)) E dX7_worst_59 (by decide) ?_
      refine z_istore (lv' := [(0, .ref a), (1, .int (nI n2)), (2, .int (-9)), (3, .int (-1)), (4, .int (nI (opn T P))), (5, .int (nI 0))]) E dX7_worst_60 (by decide) rfl ?_
      refine l_mworst g a h M n2 T P hT hM hP hN X E hX (fun z y o9 f9 hz hy => ?_) (T.1 1 + 1) 0 0 0 (opn T P) f26 (by omega) rfl (by unfold wsY; exact (if_pos rfl).symm) (by omega)
      have hzl := (wsF_le T P (T.1 1))
      have hyl := wsY_le T P (T.1 1)
      refine z_iload_n E dX7_worst_151 2 rfl rfl ?_
      refine z_bipush (v := (-9)) E dX7_worst_152 (by decide) ?_
      refine z_icmpC_eq E dX7_worst_154 161 (by decide) (by omega) (fun c3 => ?_) (fun c3 => ?_)
      · refine z_iload_n E dX7_worst_161 2 rfl rfl ?_
        refine z_goto E dX7_worst_162 177 (by decide) ?_
        refine z_iret E Er dX7_worst_177 ?_
        exact ⟨_, rfl, _, by rw [wstV, if_pos c1, if_neg c2, if_pos (Or.inl (hz ▸ c3)), hz], rfl, (((((mS.rf M).F (by omega)).F (by omega)).A (by omega)).A (by omega))⟩
      · refine z_iload_n E dX7_worst_157 1 rfl rfl ?_
        refine z_ifN_ne E dX7_worst_158 165 (by decide) (by omega) (fun c4 => ?_) (fun c4 => ?_)
        · have hyd : y = if (wsF T P (T.1 1)).2 = 0 then 1000001 else (wsF T P (T.1 1)).2 := by rw [hy]; unfold wsY; rw [if_neg (hz ▸ c3)]
          have hy0 : y ≠ 0 := by rw [hyd]; split; decide; assumption
          refine z_lve (lv' := [(0, .ref a), (1, .int (nI n2)), (2, .int (cm z)), (3, .int (nI (y - 1)))]) (by rw [pm_pos hy0]) ?_
          refine z_iload_n E dX7_worst_165 3 rfl rfl ?_
          refine z_ldc (v := nI 1000000) E dX7_worst_166 kc_X7_181 ?_
          refine z_icmpN_ne E dX7_worst_168 176 (by decide) (by omega) (by decide) (fun c5 => ?_) (fun c5 => ?_)
          · have hw0 : (wsF T P (T.1 1)).2 ≠ 0 := fun e => by rw [if_pos e] at hyd; omega
            have hyw : y = (wsF T P (T.1 1)).2 := by rw [hyd, if_neg hw0]
            refine z_iload_n E dX7_worst_176 3 rfl rfl ?_
            refine z_iret E Er dX7_worst_177 ?_
            exact ⟨_, rfl, _, by rw [wstV, if_pos c1, if_neg c2, if_neg (fun q => q.elim (hz ▸ c3) (fun q => c4 ((nI_injI (by omega) (by decide)).mp q))), if_neg hw0, hyw]; exact (cm_pos hw0).symm, rfl, (((((mS.rf M).F (by omega)).F (by omega)).A (by omega)).A (by omega))⟩
          · have hw0 : (wsF T P (T.1 1)).2 = 0 := by split at hyd; assumption; omega
            refine z_bipush (v := (-5)) E dX7_worst_171 (by decide) ?_
            refine z_goto E dX7_worst_173 177 (by decide) ?_
            refine z_iret E Er dX7_worst_177 ?_
            exact ⟨_, rfl, _, by rw [wstV, if_pos c1, if_neg c2, if_neg (fun q => q.elim (hz ▸ c3) (fun q => c4 ((nI_injI (by omega) (by decide)).mp q))), if_pos hw0], rfl, (((((mS.rf M).F (by omega)).F (by omega)).A (by omega)).A (by omega))⟩
        · refine z_iload_n E dX7_worst_161 2 rfl rfl ?_
          refine z_goto E dX7_worst_162 177 (by decide) ?_
          refine z_iret E Er dX7_worst_177 ?_
          exact ⟨_, rfl, _, by rw [wstV, if_pos c1, if_neg c2, if_pos (Or.inr (by rw [c4])), hz], rfl, (((((mS.rf M).F (by omega)).F (by omega)).A (by omega)).A (by omega))⟩
    · refine z_bipush (v := (-9)) E dX7_worst_56 (by decide) ?_
      refine z_iret E Er dX7_worst_58 ?_
      exact ⟨_, rfl, _, by rw [wstV, if_pos c1, if_pos c2], rfl, (((((mS.rf M).F (by omega)).F (by omega)).A (by omega)).A (by omega))⟩
  · refine z_iconst (v := (-1)) E dX7_worst_14 (by decide) ?_
    refine z_iret E Er dX7_worst_15 ?_
    exact ⟨_, rfl, _, by rw [wstV, if_neg (show ¬ wi n (nI 0) (nI 1) = true by rw [c1]; decide)], rfl, ((mS.rf M).F (by omega))⟩

theorem up_cg {R i x r : Nat} {c f : Nat → Nat} (hr : r < R) : va_up (fun r => if r < R then c r else f r) i x r = va_up c i x r := by
  unfold va_up
  split
  · rfl
  · exact if_pos hr
theorem cT_small {T P : NS} (hT : tdI T) (hP : pnI T P) (r : Nat) : cT T P r ≤ 120 := by
  have e8 := hT.2.2.2.2.2.2.2.1 r
  have e5 := hP.2.2.2.2.2.2 r
  unfold cT
  omega

set_option maxHeartbeats 4000000 in
set_option maxRecDepth 100000 in
theorem l_mwhich (g : GC) (a : Nat) (h : Nat → Nat) (M : NS) (j2 : Nat) (v2 : Nat) (T : NS) (P : NS) (hT : tdI T) (hM : mrT T M) (hP : pnI T P) (hN : mrP P M) (hj2 : j2 ≤ 60) (hv2 : v2 ≤ 999) (X : XC) (E : Ob g X cX7_which 5 RX7) (hX : X.2.2.1 = zR 5 0 0) (K : ∀ (z : Nat) (o9 : Nat) (f8 : Nat → Nat) (f9 : Nat → Nat), (z = wcF T P j2 v2 (T.1 1)) → Z g X 5 0 0 (wMod g a h (sA (sA (sF (sF M 0 0) 25 o9) 24 f8) 26 f9)) [(0, .ref a), (1, .int (nI j2)), (2, .int (nI v2)), (3, .int (nI z))] [] 95) : ∀ (n : Nat) (i : Nat) (z : Nat) (o9 : Nat) (f8 : Nat → Nat) (f9 : Nat → Nat), (i ≤ T.1 1) → (z = wcF T P j2 v2 i) → (T.1 1 < i + n) → Z g X 5 0 0 (wMod g a h (sA (sA (sF (sF M 0 0) 25 o9) 24 f8) 26 f9)) [(0, .ref a), (1, .int (nI j2)), (2, .int (nI v2)), (3, .int (nI z)), (4, .int (nI i))] [] 33 := by
  intro n
  induction n with
  | zero =>
    intro i z o9 f8 f9 hi hz hf
    have hR := hT.2.2.1
    have hb := hT.2.1.2
    have hs4 := hP.s4 hT
    have hp0 := hP.2.1
    have hp1 := hP.2.2.1
    have h4 := hT.2.2.2.2.2.1
    have hop := opn_lt P hR
    have hc1 := cT_1 P hT
    have hg3 := hT.2.2.2.2.1
    have hg2 := hT.2.2.2.1
    have hcl := fun (r : Nat) (_ : r < T.1 1) => cT_le hT hP r
    exfalso; omega
  | succ n ih =>
    intro i z o9 f8 f9 hi hz hf
    have hR := hT.2.2.1
    have hb := hT.2.1.2
    have hs4 := hP.s4 hT
    have hp0 := hP.2.1
    have hp1 := hP.2.2.1
    have h4 := hT.2.2.2.2.2.1
    have hop := opn_lt P hR
    have hc1 := cT_1 P hT
    have hg3 := hT.2.2.2.2.1
    have hg2 := hT.2.2.2.1
    have hcl := fun (r : Nat) (_ : r < T.1 1) => cT_le hT hP r
    refine z_iload E dX7_which_33 4 rfl ?_
    refine z_aload_n E dX7_which_35 0 rfl rfl ?_
    refine gt_X7_13 (v := .ref (h 9)) E dX7_which_36 0 rfl rfl ?_
    refine z_iconst (v := (nI 1)) E dX7_which_39 (by decide) ?_
    refine z_ialdN (f := (M.2 9)) E dX7_which_40 2 rfl (by decide) (by decide) ?_
    refine z_topi (y := nI (T.1 1)) (congrArg nI (hM.1 1 (by decide))) ?_
    refine z_icmpN_ge E dX7_which_41 95 (by decide) (by omega) (hT.1.1 _) (fun c1 => ?_) (fun c1 => ?_)
    · refine z_lv [0, 1, 2, 3] rfl ?_; exact K z o9 f8 f9 (by rw [hz, show i = T.1 1 by omega])
    · refine z_aload_n E dX7_which_44 0 rfl rfl ?_
      refine z_rwv0 (w2 := wMod g a h (sA (sA (sF (sF M 0 0) 25 (opn T P)) 24 (fun r => if r < T.1 1 then cT T P r else f8 r)) 26 f9)) E (rV E hX (c_X7_asNow g a h (sA (sA (sF (sF M 0 0) 25 o9) 24 f8) 26 f9) T P hT hM hP hN) mw_X7_asNow ml_X7_166 dX7_which_45 (Nat.le_of_ble_eq_true rfl) ⟨(Nat.le_of_ble_eq_true rfl), (Nat.le_of_ble_eq_true rfl)⟩ rfl rfl (Nat.le_of_ble_eq_true rfl) 0 rfl rfl) rfl ?_
      refine z_aload_n E dX7_which_48 0 rfl rfl ?_
      refine gt_X7_47 (v := .ref (h 24)) E dX7_which_49 0 rfl rfl ?_
      refine z_iload E dX7_which_52 4 rfl ?_
      refine z_dup2 E dX7_which_54 rfl rfl ?_
      refine z_ialdN (f := (fun r => if r < T.1 1 then cT T P r else f8 r)) E dX7_which_55 13 rfl (by omega) (by decide) ?_
      refine z_topi (y := nI (cT T P i)) (congrArg nI (if_pos (by omega))) ?_
      refine z_iload_n E dX7_which_56 1 rfl rfl ?_
      refine z_iaddN E dX7_which_57 ?_
      refine z_iastN (f := (fun r => if r < T.1 1 then cT T P r else f8 r)) (i := i) (x := ((cT T P i) + j2)) (ws' := wMod g a h (sA (sA (sF (sF M 0 0) 25 (opn T P)) 24 (va_up (fun r => if r < T.1 1 then cT T P r else f8 r) i ((cT T P i) + j2))) 26 f9)) E dX7_which_58 13 rfl (by omega) (by decide) rfl ?_
      refine z_aload_n E dX7_which_59 0 rfl rfl ?_
      refine z_qv0 E (rV E hX (c_X7_measures g a h (sA (sA (sF (sF M 0 0) 25 (opn T P)) 24 (va_up (fun r => if r < T.1 1 then cT T P r else f8 r) i ((cT T P i) + j2))) 26 f9) T (va_up (cT T P) i (cT T P i + j2)) (opn T P) hT hM (fun r hr => up_cg hr) (fun r _ => by have e1 := cT_small hT hP r; have e2 := cT_small hT hP i; unfold va_up; split <;> omega) (up_1 hT i j2) rfl (by omega)) mw_X7_measures ml_X7_195 dX7_which_60 (Nat.le_of_ble_eq_true rfl) ⟨(Nat.le_of_ble_eq_true rfl), (Nat.le_of_ble_eq_true rfl)⟩ rfl rfl (Nat.le_of_ble_eq_true rfl) 0 rfl rfl) (fun w2 hw => ?_)
      obtain ⟨M9, rfl, ⟨f7, rfl, hf7⟩⟩ := hw
      refine ⟨rfl, ?_⟩
      refine z_ws (ws' := wMod g a h (sA (sA (sF (sF M 0 0) 25 (opn T P)) 24 (va_up (fun r => if r < T.1 1 then cT T P r else f8 r) i ((cT T P i) + j2))) 26 f7)) rfl ?_
      refine z_iload_n E dX7_which_63 3 rfl rfl ?_
      refine z_aload_n E dX7_which_64 0 rfl rfl ?_
      refine z_aload_n E dX7_which_65 0 rfl rfl ?_
      refine gt_X7_13 (v := .ref (h 9)) E dX7_which_66 0 rfl rfl ?_
      refine z_iconst (v := (nI 2)) E dX7_which_69 (by decide) ?_
      refine z_ialdN (f := (M.2 9)) E dX7_which_70 2 rfl (by decide) (by decide) ?_
      refine z_topi (y := nI (T.1 2)) (congrArg nI (hM.1 2 (by decide))) ?_
      refine z_iconst (v := (nI 0)) E dX7_which_71 (by decide) ?_
      refine z_ro0 E (rV E hX (c_X7_farFrom g a h (sA (sA (sF (sF M 0 0) 25 (opn T P)) 24 (va_up (fun r => if r < T.1 1 then cT T P r else f8 r) i ((cT T P i) + j2))) 26 f7) (T.1 2) 0 T (va_up (cT T P) i (cT T P i + j2)) (opn T P) (LF T (va_up (cT T P) i (cT T P i + j2)) (opn T P)) hT hM (fun r hr => up_cg hr) (fun r _ => by have e1 := cT_small hT hP r; have e2 := cT_small hT hP i; unfold va_up; split <;> omega) rfl (by omega) hf7 (fun k hk => LF_le hk) (by omega) (by omega)) mw_X7_farFrom ml_X7_186 dX7_which_72 (Nat.le_of_ble_eq_true rfl) ⟨(Nat.le_of_ble_eq_true rfl), (Nat.le_of_ble_eq_true rfl)⟩ rfl rfl (Nat.le_of_ble_eq_true rfl) 0 rfl rfl) ?_
      refine z_topi (y := nI (farV T (va_up (cT T P) i (cT T P i + j2)) (opn T P) 0 (T.1 2))) rfl ?_
      have hfl := farV_le T (va_up (cT T P) i (cT T P i + j2)) (opn T P) 0 (T.1 2)
      refine z_iload_n E dX7_which_75 2 rfl rfl ?_
      refine z_icmpN_ne E dX7_which_76 86 (by decide) (by omega) (by omega) (fun c2 => ?_) (fun c2 => ?_)
      · refine z_iconst (v := (nI 0)) E dX7_which_86 (by decide) ?_
        refine z_iorN E dX7_which_87 ?_
        refine z_istore_n (lv' := [(0, .ref a), (1, .int (nI j2)), (2, .int (nI v2)), (3, .int (nI (z ||| 0))), (4, .int (nI i))]) E dX7_which_88 3 rfl (by decide) rfl ?_
        refine z_iincN (lv' := [(0, .ref a), (1, .int (nI j2)), (2, .int (nI v2)), (3, .int (nI (z ||| 0))), (4, .int (nI (i + 1)))]) E dX7_which_89 4 rfl (by decide) rfl ?_
        refine z_goto E dX7_which_92 33 (by decide) ?_
        exact ih (i + 1) (z ||| 0) (opn T P) (va_up (fun r => if r < T.1 1 then cT T P r else f8 r) i ((cT T P i) + j2)) f7 (by omega) (by rw [wcF_s, if_neg (fun e => c2 (by have := (mfV_n (T := T) (c := va_up (cT T P) i (cT T P i + j2)) (o := opn T P) (b := 0) (p := T.1 2) (by omega)).1; omega)), hz, Nat.or_zero]) (by omega)
      · refine z_iconst (v := (nI 1)) E dX7_which_79 (by decide) ?_
        refine z_iload E dX7_which_80 4 rfl ?_
        refine z_ishlN E dX7_which_82 (by omega) ?_
        refine z_goto E dX7_which_83 87 (by decide) ?_
        refine z_iorN E dX7_which_87 ?_
        refine z_istore_n (lv' := [(0, .ref a), (1, .int (nI j2)), (2, .int (nI v2)), (3, .int (nI (z ||| (1 <<< i)))), (4, .int (nI i))]) E dX7_which_88 3 rfl (by decide) rfl ?_
        refine z_iincN (lv' := [(0, .ref a), (1, .int (nI j2)), (2, .int (nI v2)), (3, .int (nI (z ||| (1 <<< i)))), (4, .int (nI (i + 1)))]) E dX7_which_89 4 rfl (by decide) rfl ?_
        refine z_goto E dX7_which_92 33 (by decide) ?_
        exact ih (i + 1) (z ||| (1 <<< i)) (opn T P) (va_up (fun r => if r < T.1 1 then cT T P r else f8 r) i ((cT T P i) + j2)) f7 (by omega) (by rw [wcF_s, if_pos (by have := (mfV_n (T := T) (c := va_up (cT T P) i (cT T P i + j2)) (o := opn T P) (b := 0) (p := T.1 2) (fun e => by have := mfV_0.mp e; omega)).1; omega), hz]) (by omega)

theorem wc_same (g : GC) (a : Nat) (h : Nat → Nat) (M : NS) : wMod g a h (sF M 0 0) = wMod g a h (sA (sA (sF (sF M 0 0) 25 (M.1 25)) 24 (M.2 24)) 26 (M.2 26)) := rfl

set_option maxHeartbeats 4000000 in
set_option maxRecDepth 100000 in
theorem c_X7_which (g : GC) (a : Nat) (h : Nat → Nat) (M : NS) (j : Int32) (v : Int32) (T : NS) (P : NS) (hT : tdI T) (hM : mrT T M) (hP : pnI T P) (hN : mrP P M) : Ct g yX7_which cX7_which 5 (some .int) 5 0 0 [.ref a, .int j, .int v] (wMod g a h M) (QI (fun r_ w_ => ∃ M2 : NS, r_ = (wcV T P j v) ∧ w_ = wMod g a h M2 ∧ mS M M2)) := by
  refine Ct.of (by decide) (Nat.le_of_ble_eq_true rfl) ?_
  intro X E Er hX _ hnm
  have E : Ob g X cX7_which 5 RX7 := E
  have hR := hT.2.2.1
  have hb := hT.2.1.2
  have hs4 := hP.s4 hT
  have hp0 := hP.2.1
  have hp1 := hP.2.2.1
  have h4 := hT.2.2.2.2.2.1
  have hop := opn_lt P hR
  have hc1 := cT_1 P hT
  have hg3 := hT.2.2.2.2.1
  have hg2 := hT.2.2.2.1
  have hcl := fun (r : Nat) (_ : r < T.1 1) => cT_le hT hP r
  refine z_lve (lv' := [(0, .ref a), (1, .int j), (2, .int v)]) rfl ?_
  refine z_aload_n E dX7_which_0 0 rfl rfl ?_
  refine z_iconst (v := (nI 0)) E dX7_which_1 (by decide) ?_
  refine pt_X7_69 (x := nI 0) (ws' := wMod g a h (sF M 0 0)) E dX7_which_2 0 rfl (Nat.le_of_ble_eq_true rfl) rfl ?_
  refine z_iload_n E dX7_which_5 1 rfl rfl ?_
  refine z_iconst (v := (nI 0)) E dX7_which_6 (by decide) ?_
  refine z_bipush (v := (nI 60)) E dX7_which_7 (by decide) ?_
  refine z_se E (rS E hX (c_X7_in g j (nI 0) (nI 60)) mw_X7_in ms_X7_in ml_X7_73 dX7_which_9 (Nat.le_of_ble_eq_true rfl) ⟨(Nat.le_of_ble_eq_true rfl), (Nat.le_of_ble_eq_true rfl)⟩ rfl rfl (Nat.le_of_ble_eq_true rfl)) ?_
  refine z_ifB_eq E dX7_which_12 26 (by decide) (fun c1 => ?_) (fun c1 => ?_)
  · refine z_iconst (v := (-1)) E dX7_which_26 (by decide) ?_
    refine z_iret E Er dX7_which_27 ?_
    exact ⟨_, rfl, _, by rw [wcV, if_neg (show ¬ (wi j (nI 0) (nI 60) && wi v (nI 0) (nI 999)) = true by rw [c1]; simp)], rfl, ((mS.rf M).F (by omega))⟩
  · refine z_iload_n E dX7_which_15 2 rfl rfl ?_
    refine z_iconst (v := (nI 0)) E dX7_which_16 (by decide) ?_
    refine z_sipush (v := (nI 999)) E dX7_which_17 (by decide) ?_
    refine z_se E (rS E hX (c_X7_in g v (nI 0) (nI 999)) mw_X7_in ms_X7_in ml_X7_73 dX7_which_20 (Nat.le_of_ble_eq_true rfl) ⟨(Nat.le_of_ble_eq_true rfl), (Nat.le_of_ble_eq_true rfl)⟩ rfl rfl (Nat.le_of_ble_eq_true rfl)) ?_
    refine z_ifB_ne E dX7_which_23 28 (by decide) (fun c2 => ?_) (fun c2 => ?_)
    · obtain ⟨j2, -, hj2, rfl⟩ := wi_nI (by decide) (by decide) c1
      obtain ⟨v2, -, hv2, rfl⟩ := wi_nI (by decide) (by decide) c2
      refine z_iconst (v := (nI 0)) E dX7_which_28 (by decide) ?_
      refine z_istore_n (lv' := [(0, .ref a), (1, .int (nI j2)), (2, .int (nI v2)), (3, .int (nI 0))]) E dX7_which_29 3 rfl (by decide) rfl ?_
      refine z_iconst (v := (nI 0)) E dX7_which_30 (by decide) ?_
      refine z_istore (lv' := [(0, .ref a), (1, .int (nI j2)), (2, .int (nI v2)), (3, .int (nI 0)), (4, .int (nI 0))]) E dX7_which_31 (by decide) rfl ?_
      refine z_ws (ws' := wMod g a h (sA (sA (sF (sF M 0 0) 25 (M.1 25)) 24 (M.2 24)) 26 (M.2 26))) (wc_same g a h M) ?_
      refine l_mwhich g a h M j2 v2 T P hT hM hP hN hj2 hv2 X E hX (fun z o9 f8 f9 hz => ?_) (T.1 1 + 1) 0 0 (M.1 25) (M.2 24) (M.2 26) (by omega) rfl (by omega)
      refine z_iload_n E dX7_which_95 3 rfl rfl ?_
      refine z_iret E Er dX7_which_96 ?_
      exact ⟨_, rfl, _, by rw [wcV, if_pos (by rw [c1, c2]; rfl), nI_clamp (by omega), nI_clamp (by omega), hz], rfl, (((((mS.rf M).F (by omega)).F (by omega)).A (by omega)).A (by omega))⟩
    · refine z_iconst (v := (-1)) E dX7_which_26 (by decide) ?_
      refine z_iret E Er dX7_which_27 ?_
      exact ⟨_, rfl, _, by rw [wcV, if_neg (show ¬ (wi j (nI 0) (nI 60) && wi v (nI 0) (nI 999)) = true by rw [c2]; simp)], rfl, ((mS.rf M).F (by omega))⟩
