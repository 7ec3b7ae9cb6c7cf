/-- what always holds of NOW -/
def pnI (T P : NS) : Prop := sm P ∧ P.1 0 < T.1 0 ∧ P.1 1 ≤ T.1 1 ∧ P.1 2 ≤ 9999 ∧ P.1 3 ≤ P.1 2 ∧ P.1 4 < 2 ^ T.1 1 ∧ ∀ r, P.2 5 r ≤ 60
theorem pnI.s4 {T P : NS} (hT : tdI T) (h : pnI T P) : P.1 4 < 4096 := Nat.lt_of_lt_of_le h.2.2.2.2.2.1 (Nat.pow_le_pow_right (n := 2) (by decide) hT.2.2.1)
def tkM (T P : NS) (r : Nat) : Nat := T.2 8 r + P.2 5 r + nvT T (P.1 1) r
def tkC (T P : NS) (r : Int32) : Bool := hasR T r && canT T P r.toNatClampNeg (P.1 0) && decide (P.1 2 + tkM T P r.toNatClampNeg ≤ 9999)
def tkP (T P : NS) (r : Nat) : NS := sF (sF (sF (sF P 0 (otherT T r (P.1 0))) 1 (r + 1)) 2 (P.1 2 + tkM T P r)) 3 (P.1 3 + if isTn T (P.1 1) r = true then 1 else 0)
def rmS (S : NS) : NS := sF (sF S 1 (nx10 (S.1 1))) 2 (min (S.1 2 + 1) 10)
theorem tk_no1 {T P : NS} {j : Nat} (hj : j < 2 ^ 31) (h : canT T P j (P.1 0) = false) : ¬ tkC T P (nI j) = true := by unfold tkC; rw [nI_clamp hj, h]; simp
theorem tk_no2 {T P : NS} {j : Nat} (hj : j < 2 ^ 31) (h : 9999 < P.1 2 + tkM T P j) : ¬ tkC T P (nI j) = true := by unfold tkC; rw [nI_clamp hj]; simp; omega
theorem tk_yes {T P : NS} {j : Nat} (hj : j < 2 ^ 31) (h0 : hasR T (nI j) = true) (h : canT T P j (P.1 0) = true) (h2 : P.1 2 + tkM T P j ≤ 9999) : tkC T P (nI j) = true := by unfold tkC; rw [nI_clamp hj, h0, h]; simp; exact h2
theorem tk_no0 {T P : NS} {r : Int32} (h : hasR T r = false) : ¬ tkC T P r = true := by unfold tkC; rw [h]; simp

set_option maxHeartbeats 4000000 in
set_option maxRecDepth 100000 in
theorem c_X6_plans (g : GC) (x : Nat) (y : Nat → Nat) (W : NS) (im : Nat → Nat) (rd : Nat) (hr : Nat → Nat) (R : NS) (a : Nat) (h : Nat → Nat) (T : NS) (dr : Nat) (hd : Nat → Nat) (D : NS) (p : Nat) (q : Nat → Nat) (P : NS) (pa : Nat) (hpa : Nat → Nat) (S : NS) (b : Nat → Nat) (j : Nat → Nat → Nat) (U : Nat → NS) (vo : Nat) (hv : Nat → Nat) (V : NS) (t : Nat) (ch : Nat) (ho : Nat → Nat) (O : NS) (i0 : Nat → Nat) (I0 : NS) (i1 : Nat → Nat) (I1 : NS) (r : Int32) (hT : tdI T) (h8 : W.1 8 ≤ 8) : Ct g yX6_plans cX6_plans 2 (some .int) 1 0 0 [.ref x, .int r] (wTV g x y rd a dr p pa vo ch im W ++ (wRead g rd hr R ++ (wTown g a h T ++ (wTown g dr hd D ++ (wPres g p q P ++ (wPast g pa hpa b j U S ++ (wVoice g vo hv t V ++ (wOdds g ch ho O ++ (wPres g (im 0) i0 I0 ++ (wPres g (im 1) i1 I1)))))))))) (DI (if hasR T r = true then (if W.1 8 < 8 then nI (W.1 8 + 1) else -3) else -1) (wTV g x y rd a dr p pa vo ch im (if hasR T r = true ∧ W.1 8 < 8 then sA (sF W 8 (W.1 8 + 1)) 7 (va_up (W.2 7) (W.1 8) r.toNatClampNeg) else W) ++ (wRead g rd hr R ++ (wTown g a h T ++ (wTown g dr hd D ++ (wPres g p q P ++ (wPast g pa hpa b j U S ++ (wVoice g vo hv t V ++ (wOdds g ch ho O ++ (wPres g (im 0) i0 I0 ++ (wPres g (im 1) i1 I1))))))))))) := by
  refine Ct.of (by decide) (Nat.le_of_ble_eq_true rfl) ?_
  intro X E Er hX _ hnm
  have E : Ob g X cX6_plans 2 RX6 := E
  have hR := hT.2.2.1
  refine z_lve (lv' := [(0, .ref x), (1, .int r)]) rfl ?_
  refine z_aload_n E dX6_plans_0 0 rfl rfl ?_
  refine gt_X6_19 (v := .ref a) E dX6_plans_1 0 rfl rfl ?_
  refine z_iload_n E dX6_plans_4 1 rfl rfl ?_
  refine z_ro E (rV E hX (c_X4_hasRoad g a h T r) mw_X4_hasRoad ml_X6_102 dX6_plans_5 (Nat.le_of_ble_eq_true rfl) ⟨(Nat.le_of_ble_eq_true rfl), (Nat.le_of_ble_eq_true rfl)⟩ rfl rfl (Nat.le_of_ble_eq_true rfl) 0 rfl rfl) [8, 9, 10, 11, 12] rfl (by decide) ?_
  refine z_ifB_ne E dX6_plans_8 13 (by decide) (fun c1 => ?_) (fun c1 => ?_)
  · obtain ⟨j2, hj2, rfl⟩ := hasR_nI (hT.1.1 1) c1
    refine z_aload_n E dX6_plans_13 0 rfl rfl ?_
    refine gt_X6_214 (v := .int (nI (W.1 8))) E dX6_plans_14 0 rfl rfl ?_
    refine z_bipush (v := (nI 8)) E dX6_plans_17 (by decide) ?_
    refine z_icmpN_lt E dX6_plans_19 25 (by decide) (by omega) (by decide) (fun c2 => ?_) (fun c2 => ?_)
    · refine z_aload_n E dX6_plans_25 0 rfl rfl ?_
      refine gt_X6_54 (v := .ref (y 7)) E dX6_plans_26 0 rfl rfl ?_
      refine z_aload_n E dX6_plans_29 0 rfl rfl ?_
      refine gt_X6_214 (v := .int (nI (W.1 8))) E dX6_plans_30 0 rfl rfl ?_
      refine z_iload_n E dX6_plans_33 1 rfl rfl ?_
      refine z_iastN (f := (W.2 7)) (i := (W.1 8)) (x := j2) (ws' := wTV g x y rd a dr p pa vo ch im (sA W 7 (va_up (W.2 7) (W.1 8) j2)) ++ (wRead g rd hr R ++ (wTown g a h T ++ (wTown g dr hd D ++ (wPres g p q P ++ (wPast g pa hpa b j U S ++ (wVoice g vo hv t V ++ (wOdds g ch ho O ++ (wPres g (im 0) i0 I0 ++ (wPres g (im 1) i1 I1)))))))))) E dX6_plans_34 1 rfl (by omega) (by decide) rfl ?_
      refine z_aload_n E dX6_plans_35 0 rfl rfl ?_
      refine z_dup E dX6_plans_36 rfl ?_
      refine gt_X6_214 (v := .int (nI (W.1 8))) E dX6_plans_37 0 rfl rfl ?_
      refine z_iconst (v := (nI 1)) E dX6_plans_40 (by decide) ?_
      refine z_iaddN E dX6_plans_41 ?_
      refine pt_X6_214 (x := nI ((W.1 8) + 1)) (ws' := wTV g x y rd a dr p pa vo ch im (sA (sF W 8 ((W.1 8) + 1)) 7 (va_up (W.2 7) (W.1 8) j2)) ++ (wRead g rd hr R ++ (wTown g a h T ++ (wTown g dr hd D ++ (wPres g p q P ++ (wPast g pa hpa b j U S ++ (wVoice g vo hv t V ++ (wOdds g ch ho O ++ (wPres g (im 0) i0 I0 ++ (wPres g (im 1) i1 I1)))))))))) E dX6_plans_42 0 rfl (Nat.le_of_ble_eq_true rfl) rfl ?_
      refine z_aload_n E dX6_plans_45 0 rfl rfl ?_
      refine gt_X6_214 (v := .int (nI ((W.1 8) + 1))) E dX6_plans_46 0 rfl rfl ?_
      refine z_iret E Er dX6_plans_49 ?_
      exact ⟨by rw [if_pos c1, if_pos c2], by rw [if_pos ⟨c1, c2⟩, nI_clamp (by omega)]⟩
    · refine z_bipush (v := (-3)) E dX6_plans_22 (by decide) ?_
      refine z_iret E Er dX6_plans_24 ?_
      exact ⟨by rw [if_pos c1, if_neg (Nat.not_lt.mpr c2)], by rw [if_neg (fun z => absurd z.2 (Nat.not_lt.mpr c2))]⟩
  · refine z_iconst (v := (-1)) E dX6_plans_11 (by decide) ?_
    refine z_iret E Er dX6_plans_12 ?_
    exact ⟨by rw [if_neg (show ¬ hasR T r = true by rw [c1]; decide)], by rw [if_neg (fun z => by rw [c1] at z; exact absurd z.1 (by decide))]⟩

set_option maxHeartbeats 4000000 in
set_option maxRecDepth 100000 in
theorem c_X6_saw (g : GC) (x : Nat) (y : Nat → Nat) (W : NS) (im : Nat → Nat) (rd : Nat) (hr : Nat → Nat) (R : NS) (a : Nat) (h : Nat → Nat) (T : NS) (dr : Nat) (hd : Nat → Nat) (D : NS) (p : Nat) (q : Nat → Nat) (P : NS) (pa : Nat) (hpa : Nat → Nat) (S : NS) (b : Nat → Nat) (j : Nat → Nat → Nat) (U : Nat → NS) (vo : Nat) (hv : Nat → Nat) (V : NS) (t : Nat) (ch : Nat) (ho : Nat → Nat) (O : NS) (i0 : Nat → Nat) (I0 : NS) (i1 : Nat → Nat) (I1 : NS) (n : Int32) (z : Int32) (hT : tdI T) (h11 : W.1 11 ≤ 5) : Ct g yX6_saw cX6_saw 3 (some .int) 1 0 0 [.ref x, .int n, .int z] (wTV g x y rd a dr p pa vo ch im W ++ (wRead g rd hr R ++ (wTown g a h T ++ (wTown g dr hd D ++ (wPres g p q P ++ (wPast g pa hpa b j U S ++ (wVoice g vo hv t V ++ (wOdds g ch ho O ++ (wPres g (im 0) i0 I0 ++ (wPres g (im 1) i1 I1)))))))))) (DI (if (wi n (nI 0) (nI 8) && hasP T z) = true then (if W.1 11 < 5 then nI (W.1 11 + 1) else -3) else -1) (wTV g x y rd a dr p pa vo ch im (if (wi n (nI 0) (nI 8) && hasP T z) = true ∧ W.1 11 < 5 then sA (sA (sF W 11 (W.1 11 + 1)) 9 (va_up (W.2 9) (W.1 11) n.toNatClampNeg)) 10 (va_up (W.2 10) (W.1 11) z.toNatClampNeg) else W) ++ (wRead g rd hr R ++ (wTown g a h T ++ (wTown g dr hd D ++ (wPres g p q P ++ (wPast g pa hpa b j U S ++ (wVoice g vo hv t V ++ (wOdds g ch ho O ++ (wPres g (im 0) i0 I0 ++ (wPres g (im 1) i1 I1))))))))))) := by
  refine Ct.of (by decide) (Nat.le_of_ble_eq_true rfl) ?_
  intro X E Er hX _ hnm
  have E : Ob g X cX6_saw 3 RX6 := E
  have hb := hT.2.1.2
  refine z_lve (lv' := [(0, .ref x), (1, .int n), (2, .int z)]) rfl ?_
  refine z_iload_n E dX6_saw_0 1 rfl rfl ?_
  refine z_iconst (v := (nI 0)) E dX6_saw_1 (by decide) ?_
  refine z_bipush (v := (nI 8)) E dX6_saw_2 (by decide) ?_
  refine z_se E (rS E hX (c_X6_isWithin g n (nI 0) (nI 8)) mw_X6_isWithin ms_X6_isWithin ml_X6_80 dX6_saw_4 (Nat.le_of_ble_eq_true rfl) ⟨(Nat.le_of_ble_eq_true rfl), (Nat.le_of_ble_eq_true rfl)⟩ rfl rfl (Nat.le_of_ble_eq_true rfl)) ?_
  refine z_ifB_eq E dX6_saw_7 21 (by decide) (fun c1 => ?_) (fun c1 => ?_)
  · refine z_iconst (v := (-1)) E dX6_saw_21 (by decide) ?_
    refine z_iret E Er dX6_saw_22 ?_
    exact ⟨by rw [if_neg (show ¬ (wi n (nI 0) (nI 8) && hasP T z) = true by rw [c1]; simp)], by rw [if_neg (fun q => absurd q.1 (show ¬ (wi n (nI 0) (nI 8) && hasP T z) = true by rw [c1]; simp))]⟩
  · refine z_aload_n E dX6_saw_10 0 rfl rfl ?_
    refine gt_X6_19 (v := .ref a) E dX6_saw_11 0 rfl rfl ?_
    refine z_iload_n E dX6_saw_14 2 rfl rfl ?_
    refine z_ro E (rV E hX (c_X4_hasPlace g a h T z) mw_X4_hasPlace ml_X6_124 dX6_saw_15 (Nat.le_of_ble_eq_true rfl) ⟨(Nat.le_of_ble_eq_true rfl), (Nat.le_of_ble_eq_true rfl)⟩ rfl rfl (Nat.le_of_ble_eq_true rfl) 0 rfl rfl) [8, 9, 10, 11, 12] rfl (by decide) ?_
    refine z_ifB_ne E dX6_saw_18 23 (by decide) (fun c2 => ?_) (fun c2 => ?_)
    · obtain ⟨n2, -, hn2, rfl⟩ := wi_nI (by decide) (by decide) c1
      obtain ⟨z2, hz2, rfl⟩ := hasP_nI (hT.1.1 0) c2
      refine z_aload_n E dX6_saw_23 0 rfl rfl ?_
      refine gt_X6_226 (v := .int (nI (W.1 11))) E dX6_saw_24 0 rfl rfl ?_
      refine z_iconst (v := (nI 5)) E dX6_saw_27 (by decide) ?_
      refine z_icmpN_lt E dX6_saw_28 34 (by decide) (by omega) (by decide) (fun c3 => ?_) (fun c3 => ?_)
      · refine z_aload_n E dX6_saw_34 0 rfl rfl ?_
        refine gt_X6_58 (v := .ref (y 9)) E dX6_saw_35 0 rfl rfl ?_
        refine z_aload_n E dX6_saw_38 0 rfl rfl ?_
        refine gt_X6_226 (v := .int (nI (W.1 11))) E dX6_saw_39 0 rfl rfl ?_
        refine z_iload_n E dX6_saw_42 1 rfl rfl ?_
        refine z_iastN (f := (W.2 9)) (i := (W.1 11)) (x := n2) (ws' := wTV g x y rd a dr p pa vo ch im (sA W 9 (va_up (W.2 9) (W.1 11) n2)) ++ (wRead g rd hr R ++ (wTown g a h T ++ (wTown g dr hd D ++ (wPres g p q P ++ (wPast g pa hpa b j U S ++ (wVoice g vo hv t V ++ (wOdds g ch ho O ++ (wPres g (im 0) i0 I0 ++ (wPres g (im 1) i1 I1)))))))))) E dX6_saw_43 2 rfl (by omega) (by decide) rfl ?_
        refine z_aload_n E dX6_saw_44 0 rfl rfl ?_
        refine gt_X6_61 (v := .ref (y 10)) E dX6_saw_45 0 rfl rfl ?_
        refine z_aload_n E dX6_saw_48 0 rfl rfl ?_
        refine gt_X6_226 (v := .int (nI (W.1 11))) E dX6_saw_49 0 rfl rfl ?_
        refine z_iload_n E dX6_saw_52 2 rfl rfl ?_
        refine z_iastN (f := (W.2 10)) (i := (W.1 11)) (x := z2) (ws' := wTV g x y rd a dr p pa vo ch im (sA (sA W 9 (va_up (W.2 9) (W.1 11) n2)) 10 (va_up (W.2 10) (W.1 11) z2)) ++ (wRead g rd hr R ++ (wTown g a h T ++ (wTown g dr hd D ++ (wPres g p q P ++ (wPast g pa hpa b j U S ++ (wVoice g vo hv t V ++ (wOdds g ch ho O ++ (wPres g (im 0) i0 I0 ++ (wPres g (im 1) i1 I1)))))))))) E dX6_saw_53 3 rfl (by omega) (by decide) rfl ?_
        refine z_aload_n E dX6_saw_54 0 rfl rfl ?_
        refine z_dup E dX6_saw_55 rfl ?_
        refine gt_X6_226 (v := .int (nI (W.1 11))) E dX6_saw_56 0 rfl rfl ?_
        refine z_iconst (v := (nI 1)) E dX6_saw_59 (by decide) ?_
        refine z_iaddN E dX6_saw_60 ?_
        refine pt_X6_226 (x := nI ((W.1 11) + 1)) (ws' := wTV g x y rd a dr p pa vo ch im (sA (sA (sF W 11 ((W.1 11) + 1)) 9 (va_up (W.2 9) (W.1 11) n2)) 10 (va_up (W.2 10) (W.1 11) z2)) ++ (wRead g rd hr R ++ (wTown g a h T ++ (wTown g dr hd D ++ (wPres g p q P ++ (wPast g pa hpa b j U S ++ (wVoice g vo hv t V ++ (wOdds g ch ho O ++ (wPres g (im 0) i0 I0 ++ (wPres g (im 1) i1 I1)))))))))) E dX6_saw_61 0 rfl (Nat.le_of_ble_eq_true rfl) rfl ?_
        refine z_aload_n E dX6_saw_64 0 rfl rfl ?_
        refine gt_X6_226 (v := .int (nI ((W.1 11) + 1))) E dX6_saw_65 0 rfl rfl ?_
        refine z_iret E Er dX6_saw_68 ?_
        exact ⟨by rw [if_pos (show (wi (nI n2) (nI 0) (nI 8) && hasP T (nI z2)) = true by rw [c1, c2]; rfl), if_pos c3], by rw [if_pos ⟨(show (wi (nI n2) (nI 0) (nI 8) && hasP T (nI z2)) = true by rw [c1, c2]; rfl), c3⟩, nI_clamp (by omega), nI_clamp (by omega)]⟩
      · refine z_bipush (v := (-3)) E dX6_saw_31 (by decide) ?_
        refine z_iret E Er dX6_saw_33 ?_
        exact ⟨by rw [if_pos (show (wi (nI n2) (nI 0) (nI 8) && hasP T (nI z2)) = true by rw [c1, c2]; rfl), if_neg (Nat.not_lt.mpr c3)], by rw [if_neg (fun q => absurd q.2 (Nat.not_lt.mpr c3))]⟩
    · refine z_iconst (v := (-1)) E dX6_saw_21 (by decide) ?_
      refine z_iret E Er dX6_saw_22 ?_
      exact ⟨by rw [if_neg (show ¬ (wi n (nI 0) (nI 8) && hasP T z) = true by rw [c2]; simp)], by rw [if_neg (fun q => absurd q.1 (show ¬ (wi n (nI 0) (nI 8) && hasP T z) = true by rw [c2]; simp))]⟩
