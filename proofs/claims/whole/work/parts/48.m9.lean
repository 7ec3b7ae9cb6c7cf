theorem LF_le {T : NS} {c : Nat → Nat} {o k : Nat} (hk : k < 2 * T.1 1) : LF T c o k ≤ 1000000 := by rw [LF_fix T c o k hk]; exact farT_le _ _ _ _ _ _
theorem LF_small {T P : NS} (hT : tdI T) (hP : pnI T P) {k : Nat} (hk : k < 2 * T.1 1) (h : LF T (cT T P) (opn T P) k < 1000000) : LF T (cT T P) (opn T P) k ≤ 3360 := by
  have h4 := hT.2.2.2.2.2.1
  have hR := hT.2.2.1
  have hb := fix_bound (C := 140) (fun r hr => ⟨cT_1 P hT r hr, by
    have e8 := hT.2.2.2.2.2.2.2.1 r
    have e5 := hP.2.2.2.2.2.2 r
    unfold cT
    omega⟩) (LF_fix T (cT T P) (opn T P)) _ k hk rfl h
  have := rk_le T (LF T (cT T P) (opn T P)) (LF T (cT T P) (opn T P) k)
  omega
theorem on_mb {T P : NS} (hT : tdI T) (hP : pnI T P) {b p r : Nat} (hr : r < T.1 1) : (min (onT T (cT T P) (LF T (cT T P) (opn T P)) b p r) 1000000 = 1000000 → mbV T (cT T P) (opn T P) b p r = 0) ∧ (min (onT T (cT T P) (LF T (cT T P) (opn T P)) b p r) 1000000 ≠ 1000000 → mbV T (cT T P) (opn T P) b p r = min (onT T (cT T P) (LF T (cT T P) (opn T P)) b p r) 1000000 + 1) := by
  have hk := arT_lt (T := T) (p := p) hr
  have hs := LF_small hT hP hk
  have h4 := hT.2.2.2.2.2.1
  have e8 := hT.2.2.2.2.2.2.2.1 r
  have e5 := hP.2.2.2.2.2.2 r
  have hn := nvT_le T b r
  have ec : cT T P r = T.2 8 r + P.2 5 r := rfl
  unfold mbV mbE onT
  constructor
  · intro h
    rw [if_pos (by omega)]
  · intro h
    rw [if_neg (by omega)]
    omega
section ZMe
variable {g : GC} {X : XC} {cc : ByteArray} {nL k n pc : Nat} {own : String} {ws : va_W} {lv lv' : List (Nat × Value)} {st : List Value}
theorem pm_toInt {y : Nat} (hy : y < 2 ^ 31) : (pm y).toInt = (y : Int) - 1 := by
  match y, hy with
  | 0, _ => decide
  | z + 1, hz =>
    show (nI z).toInt = _
    rw [nI_toInt (by omega)]
    omega
theorem z_icmpNP_le (E : Ob g X cc nL own) {x y : Nat} {off : Int} (hd : decode cc pc = .ok (.if_icmp .le off, 3)) (tgt : Nat) (ht : (pc : Int) + off = (tgt : Int)) (hx : x < 2 ^ 31) (hy : y < 2 ^ 31) (kt : x + 1 ≤ y → Z g X nL k n ws lv st tgt) (kf : y ≤ x → Z g X nL k n ws lv st (pc + 3)) : Z g X nL k n ws lv (.int (pm y) :: .int (nI x) :: st) pc :=
  z_icmp_le E hd tgt ht (fun h => kt (by
    have a := Int32.le_iff_toInt_le.mp h
    rw [nI_toInt hx, pm_toInt hy] at a
    omega)) (fun h => kf (by
    have a : ¬ (nI x).toInt ≤ (pm y).toInt := fun q => h (Int32.le_iff_toInt_le.mpr q)
    rw [nI_toInt hx, pm_toInt hy] at a
    omega))
end ZMe

set_option maxHeartbeats 4000000 in
set_option maxRecDepth 100000 in
theorem c_X7_way (g : GC) (a : Nat) (h : Nat → Nat) (M : NS) (k : Int32) (T : NS) (P : NS) (hT : tdI T) (hM : mrT T M) (hP : pnI T P) (hN : mrP P M) : Ct g yX7_way cX7_way 4 (some .int) 6 0 0 [.ref a, .int k] (wMod g a h M) (QI (fun r_ w_ => ∃ M2 : NS, r_ = (wyV T P k) ∧ w_ = wMod g a h M2 ∧ mS M M2)) := by
  refine Ct.of (by decide) (Nat.le_of_ble_eq_true rfl) ?_
  intro X E Er hX _ hnm
  have E : Ob g X cX7_way 4 RX7 := E
  have hR := hT.2.2.1
  have hb := hT.2.1.2
  have hs4 := hP.s4 hT
  have hp0 := hP.2.1
  have hp1 := hP.2.2.1
  have h4 := hT.2.2.2.2.2.1
  have hop := opn_lt P hR
  have hc1 := cT_1 P hT
  have hg3 := hT.2.2.2.2.1
  have hg2 := hT.2.2.2.1
  have hcl := fun (r : Nat) (_ : r < T.1 1) => cT_le hT hP r
  refine z_lve (lv' := [(0, .ref a), (1, .int k)]) rfl ?_
  refine z_aload_n E dX7_way_0 0 rfl rfl ?_
  refine z_iconst (v := (nI 0)) E dX7_way_1 (by decide) ?_
  refine pt_X7_69 (x := nI 0) (ws' := wMod g a h (sF M 0 0)) E dX7_way_2 0 rfl (Nat.le_of_ble_eq_true rfl) rfl ?_
  refine z_iload_n E dX7_way_5 1 rfl rfl ?_
  refine z_bipush (v := (-2)) E dX7_way_6 (by decide) ?_
  refine z_icmp_ge E dX7_way_8 13 (by decide) (fun c1 => ?_) (fun c1 => ?_)
  · refine z_aload_n E dX7_way_13 0 rfl rfl ?_
    refine z_rwv0 (w2 := wMod g a h (sA (sF (sF M 0 0) 25 (opn T P)) 24 (fun r => if r < T.1 1 then cT T P r else M.2 24 r))) E (rV E hX (c_X7_asNow g a h (sF M 0 0) T P hT hM hP hN) mw_X7_asNow ml_X7_166 dX7_way_14 (Nat.le_of_ble_eq_true rfl) ⟨(Nat.le_of_ble_eq_true rfl), (Nat.le_of_ble_eq_true rfl)⟩ rfl rfl (Nat.le_of_ble_eq_true rfl) 0 rfl rfl) rfl ?_
    refine z_aload_n E dX7_way_17 0 rfl rfl ?_
    refine z_qv0 E (rV E hX (c_X7_measures g a h (sA (sF (sF M 0 0) 25 (opn T P)) 24 (fun r => if r < T.1 1 then cT T P r else M.2 24 r)) T (cT T P) (opn T P) hT hM (fun r hr => if_pos hr) (fun r _ => cT_le hT hP r) hc1 rfl (by omega)) mw_X7_measures ml_X7_195 dX7_way_18 (Nat.le_of_ble_eq_true rfl) ⟨(Nat.le_of_ble_eq_true rfl), (Nat.le_of_ble_eq_true rfl)⟩ rfl rfl (Nat.le_of_ble_eq_true rfl) 0 rfl rfl) (fun w2 hw => ?_)
    obtain ⟨M9, rfl, ⟨f26, rfl, hf26⟩⟩ := hw
    refine ⟨rfl, ?_⟩
    refine z_ws (ws' := wMod g a h (sA (sA (sF (sF M 0 0) 25 (opn T P)) 24 (fun r => if r < T.1 1 then cT T P r else M.2 24 r)) 26 f26)) rfl ?_
    refine z_aload_n E dX7_way_21 0 rfl rfl ?_
    refine z_aload_n E dX7_way_22 0 rfl rfl ?_
    refine gt_X7_25 (v := .ref (h 14)) E dX7_way_23 0 rfl rfl ?_
    refine z_iconst (v := (nI 0)) E dX7_way_26 (by decide) ?_
    refine z_ialdN (f := (M.2 14)) E dX7_way_27 6 rfl (by decide) (by decide) ?_
    refine z_topi (y := nI (P.1 0)) (congrArg nI (hN.1 0 (by decide))) ?_
    refine z_aload_n E dX7_way_28 0 rfl rfl ?_
    refine gt_X7_25 (v := .ref (h 14)) E dX7_way_29 0 rfl rfl ?_
    refine z_iconst (v := (nI 1)) E dX7_way_32 (by decide) ?_
    refine z_ialdN (f := (M.2 14)) E dX7_way_33 6 rfl (by decide) (by decide) ?_
    refine z_topi (y := nI (P.1 1)) (congrArg nI (hN.1 1 (by decide))) ?_
    refine z_ro0 E (rV E hX (c_X7_farFrom g a h (sA (sA (sF (sF M 0 0) 25 (opn T P)) 24 (fun r => if r < T.1 1 then cT T P r else M.2 24 r)) 26 f26) (P.1 0) (P.1 1) T (cT T P) (opn T P) (LF T (cT T P) (opn T P)) hT hM (fun r hr => if_pos hr) (fun r _ => cT_le hT hP r) rfl (by omega) hf26 (fun k hk => LF_le hk) (by omega) (by omega)) mw_X7_farFrom ml_X7_186 dX7_way_34 (Nat.le_of_ble_eq_true rfl) ⟨(Nat.le_of_ble_eq_true rfl), (Nat.le_of_ble_eq_true rfl)⟩ rfl rfl (Nat.le_of_ble_eq_true rfl) 0 rfl rfl) ?_
    refine z_topi (y := nI (farV T (cT T P) (opn T P) (P.1 1) (P.1 0))) rfl ?_
    have hfl := farV_le T (cT T P) (opn T P) (P.1 1) (P.1 0)
    refine z_istore_n (lv' := [(0, .ref a), (1, .int k), (2, .int (nI (farV T (cT T P) (opn T P) (P.1 1) (P.1 0))))]) E dX7_way_37 2 rfl (by decide) rfl ?_
    refine z_iload_n E dX7_way_38 2 rfl rfl ?_
    refine z_ldc (v := nI 1000000) E dX7_way_39 kc_X7_181 ?_
    refine z_icmpN_eq E dX7_way_41 49 (by decide) (by omega) (by decide) (fun c2 => ?_) (fun c2 => ?_)
    · refine z_iload_n E dX7_way_49 2 rfl rfl ?_
      refine z_ldc (v := nI 1000000) E dX7_way_50 kc_X7_181 ?_
      refine z_icmpN_ne E dX7_way_52 60 (by decide) (by omega) (by decide) (fun h => absurd c2 h) (fun _ => ?_)
      refine z_bipush (v := (-9)) E dX7_way_55 (by decide) ?_
      refine z_goto E dX7_way_57 61 (by decide) ?_
      refine z_iret E Er dX7_way_61 ?_
      exact ⟨_, rfl, _, by rw [wyV, if_pos c1, if_pos c2], rfl, (((((mS.rf M).F (by omega)).F (by omega)).A (by omega)).A (by omega))⟩
    · refine z_iload_n E dX7_way_44 1 rfl rfl ?_
      refine z_iconst (v := (-1)) E dX7_way_45 (by decide) ?_
      refine z_icmp_ne E dX7_way_46 62 (by decide) (fun c3 => ?_) (fun c3 => ?_)
      · have hlen := (lenV_spec (c := cT T P) (o := opn T P) (s := (P.1 0, P.1 1)) hc1 (show farV T (cT T P) (opn T P) (P.1 1) (P.1 0) < 1000000 by omega)).1
        refine z_aload_n E dX7_way_62 0 rfl rfl ?_
        refine z_aload_n E dX7_way_63 0 rfl rfl ?_
        refine gt_X7_25 (v := .ref (h 14)) E dX7_way_64 0 rfl rfl ?_
        refine z_iconst (v := (nI 0)) E dX7_way_67 (by decide) ?_
        refine z_ialdN (f := (M.2 14)) E dX7_way_68 6 rfl (by decide) (by decide) ?_
        refine z_topi (y := nI (P.1 0)) (congrArg nI (hN.1 0 (by decide))) ?_
        refine z_aload_n E dX7_way_69 0 rfl rfl ?_
        refine gt_X7_25 (v := .ref (h 14)) E dX7_way_70 0 rfl rfl ?_
        refine z_iconst (v := (nI 1)) E dX7_way_73 (by decide) ?_
        refine z_ialdN (f := (M.2 14)) E dX7_way_74 6 rfl (by decide) (by decide) ?_
        refine z_topi (y := nI (P.1 1)) (congrArg nI (hN.1 1 (by decide))) ?_
        refine z_iload_n E dX7_way_75 1 rfl rfl ?_
        refine z_bipush (v := (-2)) E dX7_way_76 (by decide) ?_
        refine z_icmp_ne E dX7_way_78 86 (by decide) (fun c4 => ?_) (fun c4 => ?_)
        · obtain ⟨k2, hk2, rfl⟩ := nI_of (k_nn c1 c3 c4)
          refine z_iload_n E dX7_way_86 1 rfl rfl ?_
          refine z_q0 E (rV E hX (c_X7_kthFrom g a h (sA (sA (sF (sF M 0 0) 25 (opn T P)) 24 (fun r => if r < T.1 1 then cT T P r else M.2 24 r)) 26 f26) (P.1 0) (P.1 1) k2 T (cT T P) (opn T P) hT hM (fun r hr => if_pos hr) (fun r _ => cT_le hT hP r) hc1 rfl (by omega) hf26 (by omega) (by omega) (by omega) (by omega)) mw_X7_kthFrom ml_X7_198 dX7_way_87 (Nat.le_of_ble_eq_true rfl) ⟨(Nat.le_of_ble_eq_true rfl), (Nat.le_of_ble_eq_true rfl)⟩ rfl rfl (Nat.le_of_ble_eq_true rfl) 0 rfl rfl) (fun r w2 hw => ?_)
          obtain ⟨M8, rfl, rfl, ⟨t9, f9, rfl, hk9⟩⟩ := hw
          refine ⟨rfl, ?_⟩
          refine z_ws (ws' := wMod g a h (sA (sA (sA (sF (sF (sF M 0 0) 25 (opn T P)) 27 t9) 24 (fun r => if r < T.1 1 then cT T P r else M.2 24 r)) 26 f26) 28 f9)) rfl ?_
          refine z_istore_n (lv' := [(0, .ref a), (1, .int (nI k2)), (2, .int (nI (farV T (cT T P) (opn T P) (P.1 1) (P.1 0)))), (3, .int (if k2 < lenV T (cT T P) (opn T P) ((P.1 0), (P.1 1)) then nI (rdV T (cT T P) (opn T P) ((P.1 0), (P.1 1)) k2) else -5))]) E dX7_way_90 3 rfl (by decide) rfl ?_
          refine z_iload_n E dX7_way_91 1 rfl rfl ?_
          refine z_bipush (v := (-2)) E dX7_way_92 (by decide) ?_
          refine z_icmp_ne E dX7_way_94 104 (by decide) (fun _ => ?_) (fun h => absurd h c4)
          refine z_iload_n E dX7_way_104 3 rfl rfl ?_
          refine z_iret E Er dX7_way_105 ?_
          exact ⟨_, rfl, _, by rw [wyV, if_pos c1, if_neg c2, if_neg c3, if_neg c4, nI_clamp hk2], rfl, (((((((mS.rf M).F (by omega)).F (by omega)).F (by omega)).A (by omega)).A (by omega)).A (by omega))⟩
        · refine z_ldc (v := nI 1000000) E dX7_way_81 kc_X7_181 ?_
          refine z_goto E dX7_way_83 87 (by decide) ?_
          refine z_q0 E (rV E hX (c_X7_kthFrom g a h (sA (sA (sF (sF M 0 0) 25 (opn T P)) 24 (fun r => if r < T.1 1 then cT T P r else M.2 24 r)) 26 f26) (P.1 0) (P.1 1) 1000000 T (cT T P) (opn T P) hT hM (fun r hr => if_pos hr) (fun r _ => cT_le hT hP r) hc1 rfl (by omega) hf26 (by omega) (by omega) (by omega) (by omega)) mw_X7_kthFrom ml_X7_198 dX7_way_87 (Nat.le_of_ble_eq_true rfl) ⟨(Nat.le_of_ble_eq_true rfl), (Nat.le_of_ble_eq_true rfl)⟩ rfl rfl (Nat.le_of_ble_eq_true rfl) 0 rfl rfl) (fun r w2 hw => ?_)
          obtain ⟨M8, rfl, rfl, ⟨t9, f9, rfl, hk9⟩⟩ := hw
          refine ⟨rfl, ?_⟩
          refine z_ws (ws' := wMod g a h (sA (sA (sA (sF (sF (sF M 0 0) 25 (opn T P)) 27 t9) 24 (fun r => if r < T.1 1 then cT T P r else M.2 24 r)) 26 f26) 28 f9)) rfl ?_
          refine z_istore_n (lv' := [(0, .ref a), (1, .int k), (2, .int (nI (farV T (cT T P) (opn T P) (P.1 1) (P.1 0)))), (3, .int (if 1000000 < lenV T (cT T P) (opn T P) ((P.1 0), (P.1 1)) then nI (rdV T (cT T P) (opn T P) ((P.1 0), (P.1 1)) 1000000) else -5))]) E dX7_way_90 3 rfl (by decide) rfl ?_
          refine z_iload_n E dX7_way_91 1 rfl rfl ?_
          refine z_bipush (v := (-2)) E dX7_way_92 (by decide) ?_
          refine z_icmp_ne E dX7_way_94 104 (by decide) (fun h => absurd c4 h) (fun _ => ?_)
          refine z_aload_n E dX7_way_97 0 rfl rfl ?_
          refine gt_X7_189 (v := .int (nI t9)) E dX7_way_98 0 rfl rfl ?_
          refine z_goto E dX7_way_101 105 (by decide) ?_
          refine z_iret E Er dX7_way_105 ?_
          exact ⟨_, rfl, _, by rw [wyV, if_pos c1, if_neg c2, if_neg c3, if_pos c4, ← (hk9 (by omega)).1], rfl, (((((((mS.rf M).F (by omega)).F (by omega)).F (by omega)).A (by omega)).A (by omega)).A (by omega))⟩
      · refine z_iload_n E dX7_way_49 2 rfl rfl ?_
        refine z_ldc (v := nI 1000000) E dX7_way_50 kc_X7_181 ?_
        refine z_icmpN_ne E dX7_way_52 60 (by decide) (by omega) (by decide) (fun _ => ?_) (fun h => absurd h c2)
        refine z_iload_n E dX7_way_60 2 rfl rfl ?_
        refine z_iret E Er dX7_way_61 ?_
        exact ⟨_, rfl, _, by rw [wyV, if_pos c1, if_neg c2, if_pos c3], rfl, (((((mS.rf M).F (by omega)).F (by omega)).A (by omega)).A (by omega))⟩
  · refine z_iconst (v := (-1)) E dX7_way_11 (by decide) ?_
    refine z_iret E Er dX7_way_12 ?_
    exact ⟨_, rfl, _, by rw [wyV, if_neg c1], rfl, ((mS.rf M).F (by omega))⟩

theorem ro_0 {T P : NS} (h : ffV T (cT T P) (opn T P) (LF T (cT T P) (opn T P)) (P.1 1) (P.1 0) = 0) : roV T P = -9 := by
  unfold roV
  unfold ffV at h
  by_cases q : P.1 0 = T.1 3
  · rw [if_pos q]
  · rw [if_neg q] at h ⊢
    exact if_pos h
theorem ro_n {T P : NS} (h : ffV T (cT T P) (opn T P) (LF T (cT T P) (opn T P)) (P.1 1) (P.1 0) ≠ 0) : roV T P = if ffV T (cT T P) (opn T P) (LF T (cT T P) (opn T P)) (P.1 1) (P.1 0) = P.1 1 then 1 else 0 := by
  unfold roV
  unfold ffV at *
  by_cases q : P.1 0 = T.1 3
  · rw [if_pos q] at h; exact absurd rfl h
  · rw [if_neg q] at h ⊢
    rw [if_neg q]
    exact if_neg h

set_option maxHeartbeats 4000000 in
set_option maxRecDepth 100000 in
theorem c_X7_round (g : GC) (a : Nat) (h : Nat → Nat) (M : NS) (T : NS) (P : NS) (hT : tdI T) (hM : mrT T M) (hP : pnI T P) (hN : mrP P M) : Ct g yX7_round cX7_round 2 (some .int) 5 0 0 [.ref a] (wMod g a h M) (QI (fun r_ w_ => ∃ M2 : NS, r_ = (roV T P) ∧ w_ = wMod g a h M2 ∧ mS M M2)) := by
  refine Ct.of (by decide) (Nat.le_of_ble_eq_true rfl) ?_
  intro X E Er hX _ hnm
  have E : Ob g X cX7_round 2 RX7 := E
  have hR := hT.2.2.1
  have hb := hT.2.1.2
  have hs4 := hP.s4 hT
  have hp0 := hP.2.1
  have hp1 := hP.2.2.1
  have h4 := hT.2.2.2.2.2.1
  have hop := opn_lt P hR
  have hc1 := cT_1 P hT
  have hg3 := hT.2.2.2.2.1
  have hg2 := hT.2.2.2.1
  have hcl := fun (r : Nat) (_ : r < T.1 1) => cT_le hT hP r
  refine z_lve (lv' := [(0, .ref a)]) rfl ?_
  refine z_aload_n E dX7_round_0 0 rfl rfl ?_
  refine z_iconst (v := (nI 0)) E dX7_round_1 (by decide) ?_
  refine pt_X7_69 (x := nI 0) (ws' := wMod g a h (sF M 0 0)) E dX7_round_2 0 rfl (Nat.le_of_ble_eq_true rfl) rfl ?_
  refine z_aload_n E dX7_round_5 0 rfl rfl ?_
  refine z_rwv0 (w2 := wMod g a h (sA (sF (sF M 0 0) 25 (opn T P)) 24 (fun r => if r < T.1 1 then cT T P r else M.2 24 r))) E (rV E hX (c_X7_asNow g a h (sF M 0 0) T P hT hM hP hN) mw_X7_asNow ml_X7_166 dX7_round_6 (Nat.le_of_ble_eq_true rfl) ⟨(Nat.le_of_ble_eq_true rfl), (Nat.le_of_ble_eq_true rfl)⟩ rfl rfl (Nat.le_of_ble_eq_true rfl) 0 rfl rfl) rfl ?_
  refine z_aload_n E dX7_round_9 0 rfl rfl ?_
  refine z_qv0 E (rV E hX (c_X7_measures g a h (sA (sF (sF M 0 0) 25 (opn T P)) 24 (fun r => if r < T.1 1 then cT T P r else M.2 24 r)) T (cT T P) (opn T P) hT hM (fun r hr => if_pos hr) (fun r _ => cT_le hT hP r) hc1 rfl (by omega)) mw_X7_measures ml_X7_195 dX7_round_10 (Nat.le_of_ble_eq_true rfl) ⟨(Nat.le_of_ble_eq_true rfl), (Nat.le_of_ble_eq_true rfl)⟩ rfl rfl (Nat.le_of_ble_eq_true rfl) 0 rfl rfl) (fun w2 hw => ?_)
  obtain ⟨M9, rfl, ⟨f26, rfl, hf26⟩⟩ := hw
  refine ⟨rfl, ?_⟩
  refine z_ws (ws' := wMod g a h (sA (sA (sF (sF M 0 0) 25 (opn T P)) 24 (fun r => if r < T.1 1 then cT T P r else M.2 24 r)) 26 f26)) rfl ?_
  refine z_aload_n E dX7_round_13 0 rfl rfl ?_
  refine z_aload_n E dX7_round_14 0 rfl rfl ?_
  refine gt_X7_25 (v := .ref (h 14)) E dX7_round_15 0 rfl rfl ?_
  refine z_iconst (v := (nI 0)) E dX7_round_18 (by decide) ?_
  refine z_ialdN (f := (M.2 14)) E dX7_round_19 6 rfl (by decide) (by decide) ?_
  refine z_topi (y := nI (P.1 0)) (congrArg nI (hN.1 0 (by decide))) ?_
  refine z_aload_n E dX7_round_20 0 rfl rfl ?_
  refine gt_X7_25 (v := .ref (h 14)) E dX7_round_21 0 rfl rfl ?_
  refine z_iconst (v := (nI 1)) E dX7_round_24 (by decide) ?_
  refine z_ialdN (f := (M.2 14)) E dX7_round_25 6 rfl (by decide) (by decide) ?_
  refine z_topi (y := nI (P.1 1)) (congrArg nI (hN.1 1 (by decide))) ?_
  refine z_ro0 E (rV E hX (c_X7_firstFrom g a h (sA (sA (sF (sF M 0 0) 25 (opn T P)) 24 (fun r => if r < T.1 1 then cT T P r else M.2 24 r)) 26 f26) (P.1 0) (P.1 1) T (cT T P) (opn T P) (LF T (cT T P) (opn T P)) hT hM (fun r hr => if_pos hr) (fun r _ => cT_le hT hP r) rfl (by omega) hf26 (fun k hk => LF_le hk) (by omega) (by omega)) mw_X7_firstFrom ml_X7_192 dX7_round_26 (Nat.le_of_ble_eq_true rfl) ⟨(Nat.le_of_ble_eq_true rfl), (Nat.le_of_ble_eq_true rfl)⟩ rfl rfl (Nat.le_of_ble_eq_true rfl) 0 rfl rfl) ?_
  refine z_istore_n (lv' := [(0, .ref a), (1, .int (cm (ffV T (cT T P) (opn T P) (LF T (cT T P) (opn T P)) (P.1 1) (P.1 0))))]) E dX7_round_29 1 rfl (by decide) rfl ?_
  refine z_iload_n E dX7_round_30 1 rfl rfl ?_
  refine z_bipush (v := (-9)) E dX7_round_31 (by decide) ?_
  refine z_icmpC_ne E dX7_round_33 41 (by decide) (by have := ffV_le T (cT T P) (opn T P) (LF T (cT T P) (opn T P)) (P.1 1) (P.1 0); have := hT.2.2.1; omega) (fun c1 => ?_) (fun c1 => ?_)
  · refine z_lve (lv' := [(0, .ref a), (1, .int (nI ((ffV T (cT T P) (opn T P) (LF T (cT T P) (opn T P)) (P.1 1) (P.1 0)) - 1)))]) (by rw [cm_pos c1]) ?_
    have hpf : pm (ffV T (cT T P) (opn T P) (LF T (cT T P) (opn T P)) (P.1 1) (P.1 0)) = nI (ffV T (cT T P) (opn T P) (LF T (cT T P) (opn T P)) (P.1 1) (P.1 0) - 1) := pm_pos c1
    have hfv := ffV_le T (cT T P) (opn T P) (LF T (cT T P) (opn T P)) (P.1 1) (P.1 0)
    refine z_iload_n E dX7_round_41 1 rfl rfl ?_
    refine z_aload_n E dX7_round_42 0 rfl rfl ?_
    refine gt_X7_25 (v := .ref (h 14)) E dX7_round_43 0 rfl rfl ?_
    refine z_iconst (v := (nI 1)) E dX7_round_46 (by decide) ?_
    refine z_ialdN (f := (M.2 14)) E dX7_round_47 6 rfl (by decide) (by decide) ?_
    refine z_topi (y := nI (P.1 1)) (congrArg nI (hN.1 1 (by decide))) ?_
    refine z_iconst (v := (nI 1)) E dX7_round_48 (by decide) ?_
    refine z_isub E dX7_round_49 ?_
    refine z_icmp_ne E dX7_round_50 57 (by decide) (fun c2 => ?_) (fun c2 => ?_)
    · refine z_iconst (v := (nI 0)) E dX7_round_57 (by decide) ?_
      refine z_iret E Er dX7_round_58 ?_
      exact ⟨_, rfl, _, by rw [ro_n c1, if_neg (fun e => c2 (hpf.symm.trans ((congrArg pm e).trans (pm_sub1 _).symm)))]; rfl, rfl, (((((mS.rf M).F (by omega)).F (by omega)).A (by omega)).A (by omega))⟩
    · refine z_iconst (v := (nI 1)) E dX7_round_53 (by decide) ?_
      refine z_goto E dX7_round_54 58 (by decide) ?_
      refine z_iret E Er dX7_round_58 ?_
      exact ⟨_, rfl, _, by rw [ro_n c1, if_pos ((pm_inj (by omega) (by omega)).mp (hpf.trans (c2.trans (pm_sub1 _))))]; rfl, rfl, (((((mS.rf M).F (by omega)).F (by omega)).A (by omega)).A (by omega))⟩
  · refine z_bipush (v := (-9)) E dX7_round_36 (by decide) ?_
    refine z_goto E dX7_round_38 58 (by decide) ?_
    refine z_iret E Er dX7_round_58 ?_
    exact ⟨_, rfl, _, (ro_0 c1).symm, rfl, (((((mS.rf M).F (by omega)).F (by omega)).A (by omega)).A (by omega))⟩

set_option maxHeartbeats 4000000 in
set_option maxRecDepth 100000 in
theorem c_X7_on (g : GC) (a : Nat) (h : Nat → Nat) (M : NS) (r : Int32) (T : NS) (P : NS) (hT : tdI T) (hM : mrT T M) (hP : pnI T P) (hN : mrP P M) : Ct g yX7_on cX7_on 3 (some .int) 5 0 0 [.ref a, .int r] (wMod g a h M) (QI (fun r_ w_ => ∃ M2 : NS, r_ = (onV T P r) ∧ w_ = wMod g a h M2 ∧ mS M M2)) := by
  refine Ct.of (by decide) (Nat.le_of_ble_eq_true rfl) ?_
  intro X E Er hX _ hnm
  have E : Ob g X cX7_on 3 RX7 := E
  have hR := hT.2.2.1
  have hb := hT.2.1.2
  have hs4 := hP.s4 hT
  have hp0 := hP.2.1
  have hp1 := hP.2.2.1
  have h4 := hT.2.2.2.2.2.1
  have hop := opn_lt P hR
  have hc1 := cT_1 P hT
  have hg3 := hT.2.2.2.2.1
  have hg2 := hT.2.2.2.1
  have hcl := fun (r : Nat) (_ : r < T.1 1) => cT_le hT hP r
  refine z_lve (lv' := [(0, .ref a), (1, .int r)]) rfl ?_
  refine z_aload_n E dX7_on_0 0 rfl rfl ?_
  refine z_iconst (v := (nI 0)) E dX7_on_1 (by decide) ?_
  refine pt_X7_69 (x := nI 0) (ws' := wMod g a h (sF M 0 0)) E dX7_on_2 0 rfl (Nat.le_of_ble_eq_true rfl) rfl ?_
  refine z_aload_n E dX7_on_5 0 rfl rfl ?_
  refine z_iload_n E dX7_on_6 1 rfl rfl ?_
  refine z_ro0 E (rV E hX (c_X7_isRoad g a h (sF M 0 0) r T hT hM) mw_X7_isRoad ml_X7_143 dX7_on_7 (Nat.le_of_ble_eq_true rfl) ⟨(Nat.le_of_ble_eq_true rfl), (Nat.le_of_ble_eq_true rfl)⟩ rfl rfl (Nat.le_of_ble_eq_true rfl) 0 rfl rfl) ?_
  refine z_ifB_ne E dX7_on_10 15 (by decide) (fun c1 => ?_) (fun c1 => ?_)
  · obtain ⟨j2, hj2, rfl⟩ := hasR_nI (hT.1.1 1) c1
    refine z_aload_n E dX7_on_15 0 rfl rfl ?_
    refine z_rwv0 (w2 := wMod g a h (sA (sF (sF M 0 0) 25 (opn T P)) 24 (fun r => if r < T.1 1 then cT T P r else M.2 24 r))) E (rV E hX (c_X7_asNow g a h (sF M 0 0) T P hT hM hP hN) mw_X7_asNow ml_X7_166 dX7_on_16 (Nat.le_of_ble_eq_true rfl) ⟨(Nat.le_of_ble_eq_true rfl), (Nat.le_of_ble_eq_true rfl)⟩ rfl rfl (Nat.le_of_ble_eq_true rfl) 0 rfl rfl) rfl ?_
    refine z_aload_n E dX7_on_19 0 rfl rfl ?_
    refine gt_X7_163 (v := .int (nI (opn T P))) E dX7_on_20 0 rfl rfl ?_
    refine z_iload_n E dX7_on_23 1 rfl rfl ?_
    refine z_ishrN E dX7_on_24 (by omega) (by omega) ?_
    refine z_iconst (v := (nI 1)) E dX7_on_25 (by decide) ?_
    refine z_iandN E dX7_on_26 ?_
    refine z_topi (tb_bI (opn T P) j2) ?_
    refine z_ifB_eq E dX7_on_27 44 (by decide) (fun c2 => ?_) (fun c2 => ?_)
    · refine z_iconst (v := (-1)) E dX7_on_44 (by decide) ?_
      refine z_iret E Er dX7_on_45 ?_
      exact ⟨_, rfl, _, by rw [onV, if_neg (by rw [nI_clamp (by omega), can_opn hR hj2, c2]; simp)], rfl, ((((mS.rf M).F (by omega)).F (by omega)).A (by omega))⟩
    · refine z_aload_n E dX7_on_30 0 rfl rfl ?_
      refine z_iload_n E dX7_on_31 1 rfl rfl ?_
      refine z_aload_n E dX7_on_32 0 rfl rfl ?_
      refine gt_X7_25 (v := .ref (h 14)) E dX7_on_33 0 rfl rfl ?_
      refine z_iconst (v := (nI 0)) E dX7_on_36 (by decide) ?_
      refine z_ialdN (f := (M.2 14)) E dX7_on_37 6 rfl (by decide) (by decide) ?_
      refine z_topi (y := nI (P.1 0)) (congrArg nI (hN.1 0 (by decide))) ?_
      refine z_ro0 E (rV E hX (c_X7_isAt g a h (sA (sF (sF M 0 0) 25 (opn T P)) 24 (fun r => if r < T.1 1 then cT T P r else M.2 24 r)) j2 (P.1 0) T hT hM (by omega) (hP.1.1 _)) mw_X7_isAt ml_X7_146 dX7_on_38 (Nat.le_of_ble_eq_true rfl) ⟨(Nat.le_of_ble_eq_true rfl), (Nat.le_of_ble_eq_true rfl)⟩ rfl rfl (Nat.le_of_ble_eq_true rfl) 0 rfl rfl) ?_
      refine z_ifB_ne E dX7_on_41 46 (by decide) (fun c3 => ?_) (fun c3 => ?_)
      · refine z_aload_n E dX7_on_46 0 rfl rfl ?_
        refine z_qv0 E (rV E hX (c_X7_measures g a h (sA (sF (sF M 0 0) 25 (opn T P)) 24 (fun r => if r < T.1 1 then cT T P r else M.2 24 r)) T (cT T P) (opn T P) hT hM (fun r hr => if_pos hr) (fun r _ => cT_le hT hP r) hc1 rfl (by omega)) mw_X7_measures ml_X7_195 dX7_on_47 (Nat.le_of_ble_eq_true rfl) ⟨(Nat.le_of_ble_eq_true rfl), (Nat.le_of_ble_eq_true rfl)⟩ rfl rfl (Nat.le_of_ble_eq_true rfl) 0 rfl rfl) (fun w2 hw => ?_)
        obtain ⟨M9, rfl, ⟨f26, rfl, hf26⟩⟩ := hw
        refine ⟨rfl, ?_⟩
        refine z_ws (ws' := wMod g a h (sA (sA (sF (sF M 0 0) 25 (opn T P)) 24 (fun r => if r < T.1 1 then cT T P r else M.2 24 r)) 26 f26)) rfl ?_
        refine z_aload_n E dX7_on_50 0 rfl rfl ?_
        refine z_aload_n E dX7_on_51 0 rfl rfl ?_
        refine gt_X7_25 (v := .ref (h 14)) E dX7_on_52 0 rfl rfl ?_
        refine z_iconst (v := (nI 0)) E dX7_on_55 (by decide) ?_
        refine z_ialdN (f := (M.2 14)) E dX7_on_56 6 rfl (by decide) (by decide) ?_
        refine z_topi (y := nI (P.1 0)) (congrArg nI (hN.1 0 (by decide))) ?_
        refine z_aload_n E dX7_on_57 0 rfl rfl ?_
        refine gt_X7_25 (v := .ref (h 14)) E dX7_on_58 0 rfl rfl ?_
        refine z_iconst (v := (nI 1)) E dX7_on_61 (by decide) ?_
        refine z_ialdN (f := (M.2 14)) E dX7_on_62 6 rfl (by decide) (by decide) ?_
        refine z_topi (y := nI (P.1 1)) (congrArg nI (hN.1 1 (by decide))) ?_
        refine z_iload_n E dX7_on_63 1 rfl rfl ?_
        refine z_ro0 E (rV E hX (c_X7_onBy g a h (sA (sA (sF (sF M 0 0) 25 (opn T P)) 24 (fun r => if r < T.1 1 then cT T P r else M.2 24 r)) 26 f26) (P.1 0) (P.1 1) j2 T (cT T P) (opn T P) (LF T (cT T P) (opn T P)) hT hM (fun r hr => if_pos hr) (fun r _ => cT_le hT hP r) rfl (by omega) hf26 (fun k hk => LF_le hk) (by omega) (by omega) (by omega)) mw_X7_onBy ml_X7_182 dX7_on_64 (Nat.le_of_ble_eq_true rfl) ⟨(Nat.le_of_ble_eq_true rfl), (Nat.le_of_ble_eq_true rfl)⟩ rfl rfl (Nat.le_of_ble_eq_true rfl) 0 rfl rfl) ?_
        refine z_istore_n (lv' := [(0, .ref a), (1, .int (nI j2)), (2, .int (nI (min (onT T (cT T P) (LF T (cT T P) (opn T P)) (P.1 1) (P.1 0) j2) 1000000)))]) E dX7_on_67 2 rfl (by decide) rfl ?_
        refine z_iload_n E dX7_on_68 2 rfl rfl ?_
        refine z_ldc (v := nI 1000000) E dX7_on_69 kc_X7_181 ?_
        refine z_icmpN_ne E dX7_on_71 79 (by decide) (by omega) (by decide) (fun c4 => ?_) (fun c4 => ?_)
        · refine z_iload_n E dX7_on_79 2 rfl rfl ?_
          refine z_iret E Er dX7_on_80 ?_
          exact ⟨_, rfl, _, by rw [onV, if_pos (by rw [nI_clamp (by omega), can_opn hR hj2, c1, c2, c3]; rfl), nI_clamp (by omega), (on_mb hT hP hj2).2 c4]; rfl, rfl, (((((mS.rf M).F (by omega)).F (by omega)).A (by omega)).A (by omega))⟩
        · refine z_bipush (v := (-9)) E dX7_on_74 (by decide) ?_
          refine z_goto E dX7_on_76 80 (by decide) ?_
          refine z_iret E Er dX7_on_80 ?_
          exact ⟨_, rfl, _, by rw [onV, if_pos (by rw [nI_clamp (by omega), can_opn hR hj2, c1, c2, c3]; rfl), nI_clamp (by omega), (on_mb hT hP hj2).1 c4]; rfl, rfl, (((((mS.rf M).F (by omega)).F (by omega)).A (by omega)).A (by omega))⟩
      · refine z_iconst (v := (-1)) E dX7_on_44 (by decide) ?_
        refine z_iret E Er dX7_on_45 ?_
        exact ⟨_, rfl, _, by rw [onV, if_neg (by rw [nI_clamp (by omega), can_opn hR hj2, c3]; simp)], rfl, ((((mS.rf M).F (by omega)).F (by omega)).A (by omega))⟩
  · refine z_iconst (v := (-1)) E dX7_on_13 (by decide) ?_
    refine z_iret E Er dX7_on_14 ?_
    exact ⟨_, rfl, _, by rw [onV, if_neg (by rw [c1]; simp)], rfl, ((mS.rf M).F (by omega))⟩
