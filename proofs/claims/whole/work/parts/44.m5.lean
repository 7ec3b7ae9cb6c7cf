def mrX (R M : NS) : Prop := M.1 3 = R.1 1 ∧ ∀ k, k < R.1 1 → M.2 2 k = R.2 0 k
def mrW (W M : NS) : Prop := M.1 20 = W.1 8 ∧ (∀ i, i < W.1 8 → M.2 19 i = W.2 7 i) ∧ M.1 23 = W.1 11 ∧ (∀ i, i < W.1 11 → M.2 21 i = W.2 9 i ∧ M.2 22 i = W.2 10 i) ∧ M.1 1 = W.1 14
/-- nothing changed but what is made anew by each call -/
def mS (M M2 : NS) : Prop := (∀ k, 0 < k → k < 24 → M2.1 k = M.1 k) ∧ ∀ i, i < 24 → M2.2 i = M.2 i
theorem mS.rf (M : NS) : mS M M := ⟨fun _ _ _ => rfl, fun _ _ => rfl⟩
theorem mS.F {M X : NS} (h : mS M X) {k v : Nat} (hk : k = 0 ∨ 24 ≤ k) : mS M (sF X k v) := ⟨fun j h1 h2 => by
  show va_up X.1 k v j = _
  unfold va_up
  rw [if_neg (by omega)]
  exact h.1 j h1 h2, h.2⟩
theorem mS.A {M X : NS} (h : mS M X) {k : Nat} {f : Nat → Nat} (hk : 24 ≤ k) : mS M (sA X k f) := ⟨h.1, fun j h1 => by
  show va_up X.2 k f j = _
  unfold va_up
  rw [if_neg (by omega)]
  exact h.2 j h1⟩
theorem mS.an {T P M X : NS} (h : mS M X) : mS M (anM T P X) := (h.A (by omega)).F (by omega)

set_option maxHeartbeats 4000000 in
set_option maxRecDepth 100000 in
theorem c_X7_type (g : GC) (a : Nat) (h : Nat → Nat) (M : NS) (l : Int32) (R : NS) (hrI : rdI R) (hX2 : mrX R M) : Ct g yX7_type cX7_type 2 (some .int) 1 0 0 [.ref a, .int l] (wMod g a h M) (DI (if wi l (nI 0) (nI 255) = true then (if R.1 1 < 200 then nI (R.1 1 + 1) else -3) else -1) (wMod g a h (if wi l (nI 0) (nI 255) = true then (if R.1 1 < 200 then sA (sF (sF M 0 0) 3 (R.1 1 + 1)) 2 (va_up (M.2 2) (R.1 1) l.toNatClampNeg) else sF M 0 0) else sF M 0 0))) := by
  refine Ct.of (by decide) (Nat.le_of_ble_eq_true rfl) ?_
  intro X E Er hX _ hnm
  have E : Ob g X cX7_type 2 RX7 := E
  have hr1 := hrI.2.2.1
  refine z_lve (lv' := [(0, .ref a), (1, .int l)]) rfl ?_
  refine z_aload_n E dX7_type_0 0 rfl rfl ?_
  refine z_iconst (v := (nI 0)) E dX7_type_1 (by decide) ?_
  refine pt_X7_69 (x := nI 0) (ws' := wMod g a h (sF M 0 0)) E dX7_type_2 0 rfl (Nat.le_of_ble_eq_true rfl) rfl ?_
  refine z_iload_n E dX7_type_5 1 rfl rfl ?_
  refine z_iconst (v := (nI 0)) E dX7_type_6 (by decide) ?_
  refine z_sipush (v := (nI 255)) E dX7_type_7 (by decide) ?_
  refine z_se E (rS E hX (c_X7_in g l (nI 0) (nI 255)) mw_X7_in ms_X7_in ml_X7_73 dX7_type_10 (Nat.le_of_ble_eq_true rfl) ⟨(Nat.le_of_ble_eq_true rfl), (Nat.le_of_ble_eq_true rfl)⟩ rfl rfl (Nat.le_of_ble_eq_true rfl)) ?_
  refine z_ifB_ne E dX7_type_13 18 (by decide) (fun c1 => ?_) (fun c1 => ?_)
  · obtain ⟨l2, -, hl2, rfl⟩ := wi_nI (by decide) (by decide) c1
    refine z_aload_n E dX7_type_18 0 rfl rfl ?_
    refine gt_X7_77 (v := .int (nI (M.1 3))) E dX7_type_19 0 rfl rfl ?_
    refine z_topi (y := nI (R.1 1)) (congrArg nI (hX2.1)) ?_
    refine z_sipush (v := (nI 200)) E dX7_type_22 (by decide) ?_
    refine z_icmpN_ne E dX7_type_25 31 (by decide) (by omega) (by decide) (fun c2 => ?_) (fun c2 => ?_)
    · refine z_aload_n E dX7_type_31 0 rfl rfl ?_
      refine gt_X7_7 (v := .ref (h 2)) E dX7_type_32 0 rfl rfl ?_
      refine z_aload_n E dX7_type_35 0 rfl rfl ?_
      refine gt_X7_77 (v := .int (nI (M.1 3))) E dX7_type_36 0 rfl rfl ?_
      refine z_topi (y := nI (R.1 1)) (congrArg nI (hX2.1)) ?_
      refine z_iload_n E dX7_type_39 1 rfl rfl ?_
      refine z_iastN (f := (M.2 2)) (i := (R.1 1)) (x := l2) (ws' := wMod g a h (sA (sF M 0 0) 2 (va_up (M.2 2) (R.1 1) l2))) E dX7_type_40 1 rfl (by omega) (by decide) rfl ?_
      refine z_aload_n E dX7_type_41 0 rfl rfl ?_
      refine z_dup E dX7_type_42 rfl ?_
      refine gt_X7_77 (v := .int (nI (M.1 3))) E dX7_type_43 0 rfl rfl ?_
      refine z_topi (y := nI (R.1 1)) (congrArg nI (hX2.1)) ?_
      refine z_iconst (v := (nI 1)) E dX7_type_46 (by decide) ?_
      refine z_iaddN E dX7_type_47 ?_
      refine pt_X7_77 (x := nI ((R.1 1) + 1)) (ws' := wMod g a h (sA (sF (sF M 0 0) 3 ((R.1 1) + 1)) 2 (va_up (M.2 2) (R.1 1) l2))) E dX7_type_48 0 rfl (Nat.le_of_ble_eq_true rfl) rfl ?_
      refine z_aload_n E dX7_type_51 0 rfl rfl ?_
      refine gt_X7_77 (v := .int (nI ((R.1 1) + 1))) E dX7_type_52 0 rfl rfl ?_
      refine z_iret E Er dX7_type_55 ?_
      exact ⟨by rw [if_pos c1, if_pos (by omega)], by rw [if_pos c1, if_pos (by omega), nI_clamp (by omega)]⟩
    · refine z_bipush (v := (-3)) E dX7_type_28 (by decide) ?_
      refine z_iret E Er dX7_type_30 ?_
      exact ⟨by rw [if_pos c1, if_neg (by omega)], by rw [if_pos c1, if_neg (by omega)]⟩
  · refine z_iconst (v := (-1)) E dX7_type_16 (by decide) ?_
    refine z_iret E Er dX7_type_17 ?_
    exact ⟨by rw [if_neg (show ¬ wi l (nI 0) (nI 255) = true by rw [c1]; decide)], by rw [if_neg (show ¬ wi l (nI 0) (nI 255) = true by rw [c1]; decide)]⟩

set_option maxHeartbeats 4000000 in
set_option maxRecDepth 100000 in
theorem c_X7_clear (g : GC) (a : Nat) (h : Nat → Nat) (M : NS) (R : NS) (hX2 : mrX R M) : Ct g yX7_clear cX7_clear 2 (some .int) 0 0 0 [.ref a] (wMod g a h M) (DI (nI (R.1 1)) (wMod g a h (sF (sF M 0 0) 3 0))) := by
  refine Ct.of (by decide) (Nat.le_of_ble_eq_true rfl) ?_
  intro X E Er hX _ hnm
  have E : Ob g X cX7_clear 2 RX7 := E
  refine z_lve (lv' := [(0, .ref a)]) rfl ?_
  refine z_aload_n E dX7_clear_0 0 rfl rfl ?_
  refine z_iconst (v := (nI 0)) E dX7_clear_1 (by decide) ?_
  refine pt_X7_69 (x := nI 0) (ws' := wMod g a h (sF M 0 0)) E dX7_clear_2 0 rfl (Nat.le_of_ble_eq_true rfl) rfl ?_
  refine z_aload_n E dX7_clear_5 0 rfl rfl ?_
  refine gt_X7_77 (v := .int (nI (M.1 3))) E dX7_clear_6 0 rfl rfl ?_
  refine z_topi (y := nI (R.1 1)) (congrArg nI (hX2.1)) ?_
  refine z_istore_n (lv' := [(0, .ref a), (1, .int (nI (R.1 1)))]) E dX7_clear_9 1 rfl (by decide) rfl ?_
  refine z_aload_n E dX7_clear_10 0 rfl rfl ?_
  refine z_iconst (v := (nI 0)) E dX7_clear_11 (by decide) ?_
  refine pt_X7_77 (x := nI 0) (ws' := wMod g a h (sF (sF M 0 0) 3 0)) E dX7_clear_12 0 rfl (Nat.le_of_ble_eq_true rfl) rfl ?_
  refine z_iload_n E dX7_clear_15 1 rfl rfl ?_
  refine z_iret E Er dX7_clear_16 ?_
  exact ⟨rfl, rfl⟩

set_option maxHeartbeats 4000000 in
set_option maxRecDepth 100000 in
theorem c_X7_drops (g : GC) (a : Nat) (h : Nat → Nat) (M : NS) (W : NS) (hW2 : mrW W M) : Ct g yX7_drops cX7_drops 2 (some .int) 0 0 0 [.ref a] (wMod g a h M) (DI (nI (W.1 8)) (wMod g a h (sF (sF M 0 0) 20 0))) := by
  refine Ct.of (by decide) (Nat.le_of_ble_eq_true rfl) ?_
  intro X E Er hX _ hnm
  have E : Ob g X cX7_drops 2 RX7 := E
  refine z_lve (lv' := [(0, .ref a)]) rfl ?_
  refine z_aload_n E dX7_drops_0 0 rfl rfl ?_
  refine z_iconst (v := (nI 0)) E dX7_drops_1 (by decide) ?_
  refine pt_X7_69 (x := nI 0) (ws' := wMod g a h (sF M 0 0)) E dX7_drops_2 0 rfl (Nat.le_of_ble_eq_true rfl) rfl ?_
  refine z_aload_n E dX7_drops_5 0 rfl rfl ?_
  refine gt_X7_134 (v := .int (nI (M.1 20))) E dX7_drops_6 0 rfl rfl ?_
  refine z_topi (y := nI (W.1 8)) (congrArg nI (hW2.1)) ?_
  refine z_istore_n (lv' := [(0, .ref a), (1, .int (nI (W.1 8)))]) E dX7_drops_9 1 rfl (by decide) rfl ?_
  refine z_aload_n E dX7_drops_10 0 rfl rfl ?_
  refine z_iconst (v := (nI 0)) E dX7_drops_11 (by decide) ?_
  refine pt_X7_134 (x := nI 0) (ws' := wMod g a h (sF (sF M 0 0) 20 0)) E dX7_drops_12 0 rfl (Nat.le_of_ble_eq_true rfl) rfl ?_
  refine z_iload_n E dX7_drops_15 1 rfl rfl ?_
  refine z_iret E Er dX7_drops_16 ?_
  exact ⟨rfl, rfl⟩

set_option maxHeartbeats 4000000 in
set_option maxRecDepth 100000 in
theorem c_X7_forget (g : GC) (a : Nat) (h : Nat → Nat) (M : NS) (W : NS) (hW2 : mrW W M) : Ct g yX7_forget cX7_forget 2 (some .int) 0 0 0 [.ref a] (wMod g a h M) (DI (nI (W.1 11)) (wMod g a h (sF (sF M 0 0) 23 0))) := by
  refine Ct.of (by decide) (Nat.le_of_ble_eq_true rfl) ?_
  intro X E Er hX _ hnm
  have E : Ob g X cX7_forget 2 RX7 := E
  refine z_lve (lv' := [(0, .ref a)]) rfl ?_
  refine z_aload_n E dX7_forget_0 0 rfl rfl ?_
  refine z_iconst (v := (nI 0)) E dX7_forget_1 (by decide) ?_
  refine pt_X7_69 (x := nI 0) (ws' := wMod g a h (sF M 0 0)) E dX7_forget_2 0 rfl (Nat.le_of_ble_eq_true rfl) rfl ?_
  refine z_aload_n E dX7_forget_5 0 rfl rfl ?_
  refine gt_X7_137 (v := .int (nI (M.1 23))) E dX7_forget_6 0 rfl rfl ?_
  refine z_topi (y := nI (W.1 11)) (congrArg nI (hW2.2.2.1)) ?_
  refine z_istore_n (lv' := [(0, .ref a), (1, .int (nI (W.1 11)))]) E dX7_forget_9 1 rfl (by decide) rfl ?_
  refine z_aload_n E dX7_forget_10 0 rfl rfl ?_
  refine z_iconst (v := (nI 0)) E dX7_forget_11 (by decide) ?_
  refine pt_X7_137 (x := nI 0) (ws' := wMod g a h (sF (sF M 0 0) 23 0)) E dX7_forget_12 0 rfl (Nat.le_of_ble_eq_true rfl) rfl ?_
  refine z_iload_n E dX7_forget_15 1 rfl rfl ?_
  refine z_iret E Er dX7_forget_16 ?_
  exact ⟨rfl, rfl⟩

set_option maxHeartbeats 4000000 in
set_option maxRecDepth 100000 in
theorem c_X7_trace (g : GC) (a : Nat) (h : Nat → Nat) (M : NS) (W : NS) (hW2 : mrW W M) : Ct g yX7_trace cX7_trace 1 (some .long) 0 0 0 [.ref a] (wMod g a h M) (QL (fun r_ w_ => ∃ M2 : NS, r_ = (lN (W.1 14)) ∧ w_ = wMod g a h M2 ∧ M2 = sF M 0 0)) := by
  refine Ct.of (by decide) (Nat.le_of_ble_eq_true rfl) ?_
  intro X E Er hX _ hnm
  have E : Ob g X cX7_trace 1 RX7 := E
  refine z_lve (lv' := [(0, .ref a)]) rfl ?_
  refine z_aload_n E dX7_trace_0 0 rfl rfl ?_
  refine z_iconst (v := (nI 0)) E dX7_trace_1 (by decide) ?_
  refine pt_X7_69 (x := nI 0) (ws' := wMod g a h (sF M 0 0)) E dX7_trace_2 0 rfl (Nat.le_of_ble_eq_true rfl) rfl ?_
  refine z_aload_n E dX7_trace_5 0 rfl rfl ?_
  refine gt_X7_217 (v := .long (lN (M.1 1))) E dX7_trace_6 0 rfl rfl ?_
  refine z_lret E Er dX7_trace_9 ?_
  exact ⟨_, rfl, _, congrArg lN hW2.2.2.2.2, rfl, rfl⟩

set_option maxHeartbeats 4000000 in
set_option maxRecDepth 100000 in
theorem c_X7_plans (g : GC) (a : Nat) (h : Nat → Nat) (M : NS) (r : Int32) (T : NS) (W : NS) (hT : tdI T) (hM : mrT T M) (hW2 : mrW W M) (h8 : W.1 8 ≤ 8) : Ct g yX7_plans cX7_plans 2 (some .int) 2 0 0 [.ref a, .int r] (wMod g a h M) (DI (if hasR T r = true then (if W.1 8 < 8 then nI (W.1 8 + 1) else -3) else -1) (wMod g a h (if hasR T r = true ∧ W.1 8 < 8 then sA (sF (sF M 0 0) 20 (W.1 8 + 1)) 19 (va_up (M.2 19) (W.1 8) r.toNatClampNeg) else sF M 0 0))) := by
  refine Ct.of (by decide) (Nat.le_of_ble_eq_true rfl) ?_
  intro X E Er hX _ hnm
  have E : Ob g X cX7_plans 2 RX7 := E
  have hR := hT.2.2.1
  have hb := hT.2.1.2
  refine z_lve (lv' := [(0, .ref a), (1, .int r)]) rfl ?_
  refine z_aload_n E dX7_plans_0 0 rfl rfl ?_
  refine z_iconst (v := (nI 0)) E dX7_plans_1 (by decide) ?_
  refine pt_X7_69 (x := nI 0) (ws' := wMod g a h (sF M 0 0)) E dX7_plans_2 0 rfl (Nat.le_of_ble_eq_true rfl) rfl ?_
  refine z_aload_n E dX7_plans_5 0 rfl rfl ?_
  refine z_iload_n E dX7_plans_6 1 rfl rfl ?_
  refine z_ro0 E (rV E hX (c_X7_isRoad g a h (sF M 0 0) r T hT hM) mw_X7_isRoad ml_X7_143 dX7_plans_7 (Nat.le_of_ble_eq_true rfl) ⟨(Nat.le_of_ble_eq_true rfl), (Nat.le_of_ble_eq_true rfl)⟩ rfl rfl (Nat.le_of_ble_eq_true rfl) 0 rfl rfl) ?_
  refine z_ifB_ne E dX7_plans_10 15 (by decide) (fun c1 => ?_) (fun c1 => ?_)
  · obtain ⟨j2, hj2, rfl⟩ := hasR_nI (hT.1.1 1) c1
    refine z_aload_n E dX7_plans_15 0 rfl rfl ?_
    refine gt_X7_134 (v := .int (nI (M.1 20))) E dX7_plans_16 0 rfl rfl ?_
    refine z_topi (y := nI (W.1 8)) (congrArg nI (hW2.1)) ?_
    refine z_bipush (v := (nI 8)) E dX7_plans_19 (by decide) ?_
    refine z_icmpN_ne E dX7_plans_21 27 (by decide) (by omega) (by decide) (fun c2 => ?_) (fun c2 => ?_)
    · refine z_aload_n E dX7_plans_27 0 rfl rfl ?_
      refine gt_X7_38 (v := .ref (h 19)) E dX7_plans_28 0 rfl rfl ?_
      refine z_aload_n E dX7_plans_31 0 rfl rfl ?_
      refine gt_X7_134 (v := .int (nI (M.1 20))) E dX7_plans_32 0 rfl rfl ?_
      refine z_topi (y := nI (W.1 8)) (congrArg nI (hW2.1)) ?_
      refine z_iload_n E dX7_plans_35 1 rfl rfl ?_
      refine z_iastN (f := (M.2 19)) (i := (W.1 8)) (x := j2) (ws' := wMod g a h (sA (sF M 0 0) 19 (va_up (M.2 19) (W.1 8) j2))) E dX7_plans_36 10 rfl (by omega) (by decide) rfl ?_
      refine z_aload_n E dX7_plans_37 0 rfl rfl ?_
      refine z_dup E dX7_plans_38 rfl ?_
      refine gt_X7_134 (v := .int (nI (M.1 20))) E dX7_plans_39 0 rfl rfl ?_
      refine z_topi (y := nI (W.1 8)) (congrArg nI (hW2.1)) ?_
      refine z_iconst (v := (nI 1)) E dX7_plans_42 (by decide) ?_
      refine z_iaddN E dX7_plans_43 ?_
      refine pt_X7_134 (x := nI ((W.1 8) + 1)) (ws' := wMod g a h (sA (sF (sF M 0 0) 20 ((W.1 8) + 1)) 19 (va_up (M.2 19) (W.1 8) j2))) E dX7_plans_44 0 rfl (Nat.le_of_ble_eq_true rfl) rfl ?_
      refine z_aload_n E dX7_plans_47 0 rfl rfl ?_
      refine gt_X7_134 (v := .int (nI ((W.1 8) + 1))) E dX7_plans_48 0 rfl rfl ?_
      refine z_iret E Er dX7_plans_51 ?_
      exact ⟨by rw [if_pos c1, if_pos (by omega)], by rw [if_pos ⟨c1, by omega⟩, nI_clamp (by omega)]⟩
    · refine z_bipush (v := (-3)) E dX7_plans_24 (by decide) ?_
      refine z_iret E Er dX7_plans_26 ?_
      exact ⟨by rw [if_pos c1, if_neg (by omega)], by rw [if_neg (fun z => by have := z.2; omega)]⟩
  · refine z_iconst (v := (-1)) E dX7_plans_13 (by decide) ?_
    refine z_iret E Er dX7_plans_14 ?_
    exact ⟨by rw [if_neg (show ¬ hasR T r = true by rw [c1]; decide)], by rw [if_neg (fun z => by rw [c1] at z; exact absurd z.1 (by decide))]⟩

set_option maxHeartbeats 4000000 in
set_option maxRecDepth 100000 in
theorem c_X7_saw (g : GC) (a : Nat) (h : Nat → Nat) (M : NS) (n : Int32) (z : Int32) (T : NS) (W : NS) (hT : tdI T) (hM : mrT T M) (hW2 : mrW W M) (h11 : W.1 11 ≤ 5) : Ct g yX7_saw cX7_saw 3 (some .int) 2 0 0 [.ref a, .int n, .int z] (wMod g a h M) (DI (if (wi n (nI 0) (nI 8) && hasP T z) = true then (if W.1 11 < 5 then nI (W.1 11 + 1) else -3) else -1) (wMod g a h (if (wi n (nI 0) (nI 8) && hasP T z) = true ∧ W.1 11 < 5 then sA (sA (sF (sF M 0 0) 23 (W.1 11 + 1)) 21 (va_up (M.2 21) (W.1 11) n.toNatClampNeg)) 22 (va_up (M.2 22) (W.1 11) z.toNatClampNeg) else sF M 0 0))) := by
  refine Ct.of (by decide) (Nat.le_of_ble_eq_true rfl) ?_
  intro X E Er hX _ hnm
  have E : Ob g X cX7_saw 3 RX7 := E
  have hR := hT.2.2.1
  have hb := hT.2.1.2
  refine z_lve (lv' := [(0, .ref a), (1, .int n), (2, .int z)]) rfl ?_
  refine z_aload_n E dX7_saw_0 0 rfl rfl ?_
  refine z_iconst (v := (nI 0)) E dX7_saw_1 (by decide) ?_
  refine pt_X7_69 (x := nI 0) (ws' := wMod g a h (sF M 0 0)) E dX7_saw_2 0 rfl (Nat.le_of_ble_eq_true rfl) rfl ?_
  refine z_iload_n E dX7_saw_5 1 rfl rfl ?_
  refine z_iconst (v := (nI 0)) E dX7_saw_6 (by decide) ?_
  refine z_bipush (v := (nI 8)) E dX7_saw_7 (by decide) ?_
  refine z_se E (rS E hX (c_X7_in g n (nI 0) (nI 8)) mw_X7_in ms_X7_in ml_X7_73 dX7_saw_9 (Nat.le_of_ble_eq_true rfl) ⟨(Nat.le_of_ble_eq_true rfl), (Nat.le_of_ble_eq_true rfl)⟩ rfl rfl (Nat.le_of_ble_eq_true rfl)) ?_
  refine z_ifB_eq E dX7_saw_12 23 (by decide) (fun c1 => ?_) (fun c1 => ?_)
  · refine z_iconst (v := (-1)) E dX7_saw_23 (by decide) ?_
    refine z_iret E Er dX7_saw_24 ?_
    exact ⟨by rw [if_neg (show ¬ (wi n (nI 0) (nI 8) && hasP T z) = true by rw [c1]; simp)], by rw [if_neg (fun q => absurd q.1 (show ¬ (wi n (nI 0) (nI 8) && hasP T z) = true by rw [c1]; simp))]⟩
  · refine z_aload_n E dX7_saw_15 0 rfl rfl ?_
    refine z_iload_n E dX7_saw_16 2 rfl rfl ?_
    refine z_ro0 E (rV E hX (c_X7_isPlace g a h (sF M 0 0) z T hT hM) mw_X7_isPlace ml_X7_150 dX7_saw_17 (Nat.le_of_ble_eq_true rfl) ⟨(Nat.le_of_ble_eq_true rfl), (Nat.le_of_ble_eq_true rfl)⟩ rfl rfl (Nat.le_of_ble_eq_true rfl) 0 rfl rfl) ?_
    refine z_ifB_ne E dX7_saw_20 25 (by decide) (fun c2 => ?_) (fun c2 => ?_)
    · obtain ⟨n2, -, hn2, rfl⟩ := wi_nI (by decide) (by decide) c1
      obtain ⟨z2, hz2, rfl⟩ := hasP_nI (hT.1.1 0) c2
      refine z_aload_n E dX7_saw_25 0 rfl rfl ?_
      refine gt_X7_137 (v := .int (nI (M.1 23))) E dX7_saw_26 0 rfl rfl ?_
      refine z_topi (y := nI (W.1 11)) (congrArg nI (hW2.2.2.1)) ?_
      refine z_iconst (v := (nI 5)) E dX7_saw_29 (by decide) ?_
      refine z_icmpN_ne E dX7_saw_30 36 (by decide) (by omega) (by decide) (fun c3 => ?_) (fun c3 => ?_)
      · refine z_aload_n E dX7_saw_36 0 rfl rfl ?_
        refine gt_X7_41 (v := .ref (h 21)) E dX7_saw_37 0 rfl rfl ?_
        refine z_aload_n E dX7_saw_40 0 rfl rfl ?_
        refine gt_X7_137 (v := .int (nI (M.1 23))) E dX7_saw_41 0 rfl rfl ?_
        refine z_topi (y := nI (W.1 11)) (congrArg nI (hW2.2.2.1)) ?_
        refine z_iload_n E dX7_saw_44 1 rfl rfl ?_
        refine z_iastN (f := (M.2 21)) (i := (W.1 11)) (x := n2) (ws' := wMod g a h (sA (sF M 0 0) 21 (va_up (M.2 21) (W.1 11) n2))) E dX7_saw_45 11 rfl (by omega) (by decide) rfl ?_
        refine z_aload_n E dX7_saw_46 0 rfl rfl ?_
        refine gt_X7_44 (v := .ref (h 22)) E dX7_saw_47 0 rfl rfl ?_
        refine z_aload_n E dX7_saw_50 0 rfl rfl ?_
        refine gt_X7_137 (v := .int (nI (M.1 23))) E dX7_saw_51 0 rfl rfl ?_
        refine z_topi (y := nI (W.1 11)) (congrArg nI (hW2.2.2.1)) ?_
        refine z_iload_n E dX7_saw_54 2 rfl rfl ?_
        refine z_iastN (f := (M.2 22)) (i := (W.1 11)) (x := z2) (ws' := wMod g a h (sA (sA (sF M 0 0) 21 (va_up (M.2 21) (W.1 11) n2)) 22 (va_up (M.2 22) (W.1 11) z2))) E dX7_saw_55 12 rfl (by omega) (by decide) rfl ?_
        refine z_aload_n E dX7_saw_56 0 rfl rfl ?_
        refine z_dup E dX7_saw_57 rfl ?_
        refine gt_X7_137 (v := .int (nI (M.1 23))) E dX7_saw_58 0 rfl rfl ?_
        refine z_topi (y := nI (W.1 11)) (congrArg nI (hW2.2.2.1)) ?_
        refine z_iconst (v := (nI 1)) E dX7_saw_61 (by decide) ?_
        refine z_iaddN E dX7_saw_62 ?_
        refine pt_X7_137 (x := nI ((W.1 11) + 1)) (ws' := wMod g a h (sA (sA (sF (sF M 0 0) 23 ((W.1 11) + 1)) 21 (va_up (M.2 21) (W.1 11) n2)) 22 (va_up (M.2 22) (W.1 11) z2))) E dX7_saw_63 0 rfl (Nat.le_of_ble_eq_true rfl) rfl ?_
        refine z_aload_n E dX7_saw_66 0 rfl rfl ?_
        refine gt_X7_137 (v := .int (nI ((W.1 11) + 1))) E dX7_saw_67 0 rfl rfl ?_
        refine z_iret E Er dX7_saw_70 ?_
        exact ⟨by rw [if_pos (show (wi (nI n2) (nI 0) (nI 8) && hasP T (nI z2)) = true by rw [c1, c2]; rfl), if_pos (by omega)], by rw [if_pos ⟨(show (wi (nI n2) (nI 0) (nI 8) && hasP T (nI z2)) = true by rw [c1, c2]; rfl), by omega⟩, nI_clamp (by omega), nI_clamp (by omega)]⟩
      · refine z_bipush (v := (-3)) E dX7_saw_33 (by decide) ?_
        refine z_iret E Er dX7_saw_35 ?_
        exact ⟨by rw [if_pos (show (wi (nI n2) (nI 0) (nI 8) && hasP T (nI z2)) = true by rw [c1, c2]; rfl), if_neg (by omega)], by rw [if_neg (fun q => by have := q.2; omega)]⟩
    · refine z_iconst (v := (-1)) E dX7_saw_23 (by decide) ?_
      refine z_iret E Er dX7_saw_24 ?_
      exact ⟨by rw [if_neg (show ¬ (wi n (nI 0) (nI 8) && hasP T z) = true by rw [c2]; simp)], by rw [if_neg (fun q => absurd q.1 (show ¬ (wi n (nI 0) (nI 8) && hasP T z) = true by rw [c2]; simp))]⟩

set_option maxHeartbeats 4000000 in
set_option maxRecDepth 100000 in
theorem c_X7_count (g : GC) (a : Nat) (h : Nat → Nat) (M : NS) (w : Int32) (T : NS) (W : NS) (R : NS) (hT : tdI T) (hM : mrT T M) (hW2 : mrW W M) (hX2 : mrX R M) : Ct g yX7_count cX7_count 2 (some .int) 1 0 0 [.ref a, .int w] (wMod g a h M) (DI (swF w [nI (T.1 0), nI (T.1 1), nI (T.1 2), nI (T.1 3), nI (T.1 4), nI (T.1 5), nI (W.1 8), nI (W.1 11), nI (R.1 1)] (-1)) (wMod g a h (sF M 0 0))) := by
  refine Ct.of (by decide) (Nat.le_of_ble_eq_true rfl) ?_
  intro X E Er hX _ hnm
  have E : Ob g X cX7_count 2 RX7 := E
  have hR := hT.2.2.1
  have hb := hT.2.1.2
  refine z_lve (lv' := [(0, .ref a), (1, .int w)]) rfl ?_
  refine z_aload_n E dX7_count_0 0 rfl rfl ?_
  refine z_iconst (v := (nI 0)) E dX7_count_1 (by decide) ?_
  refine pt_X7_69 (x := nI 0) (ws' := wMod g a h (sF M 0 0)) E dX7_count_2 0 rfl (Nat.le_of_ble_eq_true rfl) rfl ?_
  refine z_iload_n E dX7_count_5 1 rfl rfl ?_
  refine z_iconst (v := (nI 0)) E dX7_count_6 (by decide) ?_
  refine z_iconst (v := (nI 5)) E dX7_count_7 (by decide) ?_
  refine z_se E (rS E hX (c_X7_in g w (nI 0) (nI 5)) mw_X7_in ms_X7_in ml_X7_73 dX7_count_8 (Nat.le_of_ble_eq_true rfl) ⟨(Nat.le_of_ble_eq_true rfl), (Nat.le_of_ble_eq_true rfl)⟩ rfl rfl (Nat.le_of_ble_eq_true rfl)) ?_
  refine z_ifB_eq E dX7_count_11 23 (by decide) (fun c1 => ?_) (fun c1 => ?_)
  · refine z_iload_n E dX7_count_23 1 rfl rfl ?_
    refine z_bipush (v := (nI 6)) E dX7_count_24 (by decide) ?_
    refine z_icmp_ne E dX7_count_26 36 (by decide) (fun c2 => ?_) (fun c2 => ?_)
    · refine z_iload_n E dX7_count_36 1 rfl rfl ?_
      refine z_bipush (v := (nI 7)) E dX7_count_37 (by decide) ?_
      refine z_icmp_ne E dX7_count_39 49 (by decide) (fun c3 => ?_) (fun c3 => ?_)
      · refine z_iload_n E dX7_count_49 1 rfl rfl ?_
        refine z_bipush (v := (nI 8)) E dX7_count_50 (by decide) ?_
        refine z_icmp_ne E dX7_count_52 62 (by decide) (fun c4 => ?_) (fun c4 => ?_)
        · refine z_iconst (v := (-1)) E dX7_count_62 (by decide) ?_
          refine z_iret E Er dX7_count_63 ?_
          exact ⟨by rcases sw_cases w 8 with hsw | ⟨k, hk, rfl⟩; (rw [swF_o (by show _ ∨ _ ≤ _; simp only [List.length]; omega)]); (exfalso; rcases (show k = 0 ∨ k = 1 ∨ k = 2 ∨ k = 3 ∨ k = 4 ∨ k = 5 ∨ k = 6 ∨ k = 7 ∨ k = 8 by omega) with rfl | rfl | rfl | rfl | rfl | rfl | rfl | rfl | rfl <;> revert c1 c2 c3 c4 <;> decide), rfl⟩
        · refine z_aload_n E dX7_count_55 0 rfl rfl ?_
          refine gt_X7_77 (v := .int (nI (M.1 3))) E dX7_count_56 0 rfl rfl ?_
          refine z_topi (y := nI (R.1 1)) (congrArg nI (hX2.1)) ?_
          refine z_goto E dX7_count_59 63 (by decide) ?_
          refine z_iret E Er dX7_count_63 ?_
          exact ⟨by rw [c4, swF_k 8 (Nat.le_of_ble_eq_true rfl) (by decide)]; rfl, rfl⟩
      · refine z_aload_n E dX7_count_42 0 rfl rfl ?_
        refine gt_X7_137 (v := .int (nI (M.1 23))) E dX7_count_43 0 rfl rfl ?_
        refine z_topi (y := nI (W.1 11)) (congrArg nI (hW2.2.2.1)) ?_
        refine z_goto E dX7_count_46 63 (by decide) ?_
        refine z_iret E Er dX7_count_63 ?_
        exact ⟨by rw [c3, swF_k 7 (Nat.le_of_ble_eq_true rfl) (by decide)]; rfl, rfl⟩
    · refine z_aload_n E dX7_count_29 0 rfl rfl ?_
      refine gt_X7_134 (v := .int (nI (M.1 20))) E dX7_count_30 0 rfl rfl ?_
      refine z_topi (y := nI (W.1 8)) (congrArg nI (hW2.1)) ?_
      refine z_goto E dX7_count_33 63 (by decide) ?_
      refine z_iret E Er dX7_count_63 ?_
      exact ⟨by rw [c2, swF_k 6 (Nat.le_of_ble_eq_true rfl) (by decide)]; rfl, rfl⟩
  · obtain ⟨k, -, hk, rfl⟩ := wi_nI (by decide) (by decide) c1
    rcases (show k = 0 ∨ k = 1 ∨ k = 2 ∨ k = 3 ∨ k = 4 ∨ k = 5 by omega) with rfl | rfl | rfl | rfl | rfl | rfl
    · refine z_aload_n E dX7_count_14 0 rfl rfl ?_
      refine gt_X7_13 (v := .ref (h 9)) E dX7_count_15 0 rfl rfl ?_
      refine z_iload_n E dX7_count_18 1 rfl rfl ?_
      refine z_ialdN (f := (M.2 9)) E dX7_count_19 2 rfl (by decide) (by decide) ?_
      refine z_topi (y := nI (T.1 0)) (congrArg nI (hM.1 0 (by decide))) ?_
      refine z_goto E dX7_count_20 63 (by decide) ?_
      refine z_iret E Er dX7_count_63 ?_
      exact ⟨by rw [swF_k 0 (Nat.le_of_ble_eq_true rfl) (by decide)]; rfl, rfl⟩
    · refine z_aload_n E dX7_count_14 0 rfl rfl ?_
      refine gt_X7_13 (v := .ref (h 9)) E dX7_count_15 0 rfl rfl ?_
      refine z_iload_n E dX7_count_18 1 rfl rfl ?_
      refine z_ialdN (f := (M.2 9)) E dX7_count_19 2 rfl (by decide) (by decide) ?_
      refine z_topi (y := nI (T.1 1)) (congrArg nI (hM.1 1 (by decide))) ?_
      refine z_goto E dX7_count_20 63 (by decide) ?_
      refine z_iret E Er dX7_count_63 ?_
      exact ⟨by rw [swF_k 1 (Nat.le_of_ble_eq_true rfl) (by decide)]; rfl, rfl⟩
    · refine z_aload_n E dX7_count_14 0 rfl rfl ?_
      refine gt_X7_13 (v := .ref (h 9)) E dX7_count_15 0 rfl rfl ?_
      refine z_iload_n E dX7_count_18 1 rfl rfl ?_
      refine z_ialdN (f := (M.2 9)) E dX7_count_19 2 rfl (by decide) (by decide) ?_
      refine z_topi (y := nI (T.1 2)) (congrArg nI (hM.1 2 (by decide))) ?_
      refine z_goto E dX7_count_20 63 (by decide) ?_
      refine z_iret E Er dX7_count_63 ?_
      exact ⟨by rw [swF_k 2 (Nat.le_of_ble_eq_true rfl) (by decide)]; rfl, rfl⟩
    · refine z_aload_n E dX7_count_14 0 rfl rfl ?_
      refine gt_X7_13 (v := .ref (h 9)) E dX7_count_15 0 rfl rfl ?_
      refine z_iload_n E dX7_count_18 1 rfl rfl ?_
      refine z_ialdN (f := (M.2 9)) E dX7_count_19 2 rfl (by decide) (by decide) ?_
      refine z_topi (y := nI (T.1 3)) (congrArg nI (hM.1 3 (by decide))) ?_
      refine z_goto E dX7_count_20 63 (by decide) ?_
      refine z_iret E Er dX7_count_63 ?_
      exact ⟨by rw [swF_k 3 (Nat.le_of_ble_eq_true rfl) (by decide)]; rfl, rfl⟩
    · refine z_aload_n E dX7_count_14 0 rfl rfl ?_
      refine gt_X7_13 (v := .ref (h 9)) E dX7_count_15 0 rfl rfl ?_
      refine z_iload_n E dX7_count_18 1 rfl rfl ?_
      refine z_ialdN (f := (M.2 9)) E dX7_count_19 2 rfl (by decide) (by decide) ?_
      refine z_topi (y := nI (T.1 4)) (congrArg nI (hM.1 4 (by decide))) ?_
      refine z_goto E dX7_count_20 63 (by decide) ?_
      refine z_iret E Er dX7_count_63 ?_
      exact ⟨by rw [swF_k 4 (Nat.le_of_ble_eq_true rfl) (by decide)]; rfl, rfl⟩
    · refine z_aload_n E dX7_count_14 0 rfl rfl ?_
      refine gt_X7_13 (v := .ref (h 9)) E dX7_count_15 0 rfl rfl ?_
      refine z_iload_n E dX7_count_18 1 rfl rfl ?_
      refine z_ialdN (f := (M.2 9)) E dX7_count_19 2 rfl (by decide) (by decide) ?_
      refine z_topi (y := nI (T.1 5)) (congrArg nI (hM.1 5 (by decide))) ?_
      refine z_goto E dX7_count_20 63 (by decide) ?_
      refine z_iret E Er dX7_count_63 ?_
      exact ⟨by rw [swF_k 5 (Nat.le_of_ble_eq_true rfl) (by decide)]; rfl, rfl⟩

set_option maxHeartbeats 4000000 in
set_option maxRecDepth 100000 in
theorem c_X7_now (g : GC) (a : Nat) (h : Nat → Nat) (M : NS) (w : Int32) (T : NS) (P : NS) (S : NS) (hT : tdI T) (hP : pnI T P) (hN : mrP P M) (hU2 : M.1 18 = S.1 2) (hS2 : S.1 2 ≤ 10) : Ct g yX7_now cX7_now 2 (some .int) 1 0 0 [.ref a, .int w] (wMod g a h M) (DI (swF w [nI (P.1 0), cm (P.1 1), nI (P.1 2), nI (P.1 3), nI (P.1 4), nI (S.1 2)] (-1)) (wMod g a h (sF M 0 0))) := by
  refine Ct.of (by decide) (Nat.le_of_ble_eq_true rfl) ?_
  intro X E Er hX _ hnm
  have E : Ob g X cX7_now 2 RX7 := E
  have hR := hT.2.2.1
  have hb := hT.2.1.2
  refine z_lve (lv' := [(0, .ref a), (1, .int w)]) rfl ?_
  refine z_aload_n E dX7_now_0 0 rfl rfl ?_
  refine z_iconst (v := (nI 0)) E dX7_now_1 (by decide) ?_
  refine pt_X7_69 (x := nI 0) (ws' := wMod g a h (sF M 0 0)) E dX7_now_2 0 rfl (Nat.le_of_ble_eq_true rfl) rfl ?_
  refine z_iload_n E dX7_now_5 1 rfl rfl ?_
  refine z_iconst (v := (nI 0)) E dX7_now_6 (by decide) ?_
  refine z_iconst (v := (nI 5)) E dX7_now_7 (by decide) ?_
  refine z_se E (rS E hX (c_X7_in g w (nI 0) (nI 5)) mw_X7_in ms_X7_in ml_X7_73 dX7_now_8 (Nat.le_of_ble_eq_true rfl) ⟨(Nat.le_of_ble_eq_true rfl), (Nat.le_of_ble_eq_true rfl)⟩ rfl rfl (Nat.le_of_ble_eq_true rfl)) ?_
  refine z_ifB_ne E dX7_now_11 16 (by decide) (fun c1 => ?_) (fun c1 => ?_)
  · obtain ⟨k, -, hk, rfl⟩ := wi_nI (by decide) (by decide) c1
    rcases (show k = 0 ∨ k = 1 ∨ k = 2 ∨ k = 3 ∨ k = 4 ∨ k = 5 by omega) with rfl | rfl | rfl | rfl | rfl | rfl
    · refine z_iload_n E dX7_now_16 1 rfl rfl ?_
      refine z_iconst (v := (nI 1)) E dX7_now_17 (by decide) ?_
      refine z_icmpN_ne E dX7_now_18 46 (by decide) (by decide) (by decide) (fun _ => ?_) (fun h => absurd h (by decide))
      refine z_iload_n E dX7_now_46 1 rfl rfl ?_
      refine z_iconst (v := (nI 5)) E dX7_now_47 (by decide) ?_
      refine z_icmpN_ne E dX7_now_48 58 (by decide) (by decide) (by decide) (fun _ => ?_) (fun h => absurd h (by decide))
      refine z_aload_n E dX7_now_58 0 rfl rfl ?_
      refine gt_X7_25 (v := .ref (h 14)) E dX7_now_59 0 rfl rfl ?_
      refine z_iload_n E dX7_now_62 1 rfl rfl ?_
      refine z_ialdN (f := (M.2 14)) E dX7_now_63 6 rfl (by decide) (by decide) ?_
      refine z_topi (y := nI (P.1 0)) (congrArg nI (hN.1 0 (by decide))) ?_
      refine z_iret E Er dX7_now_64 ?_
      exact ⟨by rw [swF_k 0 (Nat.le_of_ble_eq_true rfl) (by decide)]; rfl, rfl⟩
    · refine z_iload_n E dX7_now_16 1 rfl rfl ?_
      refine z_iconst (v := (nI 1)) E dX7_now_17 (by decide) ?_
      refine z_icmpN_ne E dX7_now_18 46 (by decide) (by decide) (by decide) (fun h => absurd h (by decide)) (fun _ => ?_)
      refine z_aload_n E dX7_now_21 0 rfl rfl ?_
      refine gt_X7_25 (v := .ref (h 14)) E dX7_now_22 0 rfl rfl ?_
      refine z_iconst (v := (nI 1)) E dX7_now_25 (by decide) ?_
      refine z_ialdN (f := (M.2 14)) E dX7_now_26 6 rfl (by decide) (by decide) ?_
      refine z_topi (y := nI (P.1 1)) (congrArg nI (hN.1 1 (by decide))) ?_
      refine z_ifN_ne E dX7_now_27 35 (by decide) (hP.1.1 _) (fun c2 => ?_) (fun c2 => ?_)
      · refine z_aload_n E dX7_now_35 0 rfl rfl ?_
        refine gt_X7_25 (v := .ref (h 14)) E dX7_now_36 0 rfl rfl ?_
        refine z_iconst (v := (nI 1)) E dX7_now_39 (by decide) ?_
        refine z_ialdN (f := (M.2 14)) E dX7_now_40 6 rfl (by decide) (by decide) ?_
        refine z_topi (y := nI (P.1 1)) (congrArg nI (hN.1 1 (by decide))) ?_
        refine z_iconst (v := (nI 1)) E dX7_now_41 (by decide) ?_
        refine z_isubN E dX7_now_42 (by omega) ?_
        refine z_goto E dX7_now_43 64 (by decide) ?_
        refine z_iret E Er dX7_now_64 ?_
        exact ⟨by rw [swF_k 1 (Nat.le_of_ble_eq_true rfl) (by decide)]; show _ = some (Value.int (cm (P.1 1))); rw [cm_pos c2], rfl⟩
      · refine z_bipush (v := (-9)) E dX7_now_30 (by decide) ?_
        refine z_goto E dX7_now_32 64 (by decide) ?_
        refine z_iret E Er dX7_now_64 ?_
        exact ⟨by rw [swF_k 1 (Nat.le_of_ble_eq_true rfl) (by decide)]; show _ = some (Value.int (cm (P.1 1))); rw [c2]; rfl, rfl⟩
    · refine z_iload_n E dX7_now_16 1 rfl rfl ?_
      refine z_iconst (v := (nI 1)) E dX7_now_17 (by decide) ?_
      refine z_icmpN_ne E dX7_now_18 46 (by decide) (by decide) (by decide) (fun _ => ?_) (fun h => absurd h (by decide))
      refine z_iload_n E dX7_now_46 1 rfl rfl ?_
      refine z_iconst (v := (nI 5)) E dX7_now_47 (by decide) ?_
      refine z_icmpN_ne E dX7_now_48 58 (by decide) (by decide) (by decide) (fun _ => ?_) (fun h => absurd h (by decide))
      refine z_aload_n E dX7_now_58 0 rfl rfl ?_
      refine gt_X7_25 (v := .ref (h 14)) E dX7_now_59 0 rfl rfl ?_
      refine z_iload_n E dX7_now_62 1 rfl rfl ?_
      refine z_ialdN (f := (M.2 14)) E dX7_now_63 6 rfl (by decide) (by decide) ?_
      refine z_topi (y := nI (P.1 2)) (congrArg nI (hN.1 2 (by decide))) ?_
      refine z_iret E Er dX7_now_64 ?_
      exact ⟨by rw [swF_k 2 (Nat.le_of_ble_eq_true rfl) (by decide)]; rfl, rfl⟩
    · refine z_iload_n E dX7_now_16 1 rfl rfl ?_
      refine z_iconst (v := (nI 1)) E dX7_now_17 (by decide) ?_
      refine z_icmpN_ne E dX7_now_18 46 (by decide) (by decide) (by decide) (fun _ => ?_) (fun h => absurd h (by decide))
      refine z_iload_n E dX7_now_46 1 rfl rfl ?_
      refine z_iconst (v := (nI 5)) E dX7_now_47 (by decide) ?_
      refine z_icmpN_ne E dX7_now_48 58 (by decide) (by decide) (by decide) (fun _ => ?_) (fun h => absurd h (by decide))
      refine z_aload_n E dX7_now_58 0 rfl rfl ?_
      refine gt_X7_25 (v := .ref (h 14)) E dX7_now_59 0 rfl rfl ?_
      refine z_iload_n E dX7_now_62 1 rfl rfl ?_
      refine z_ialdN (f := (M.2 14)) E dX7_now_63 6 rfl (by decide) (by decide) ?_
      refine z_topi (y := nI (P.1 3)) (congrArg nI (hN.1 3 (by decide))) ?_
      refine z_iret E Er dX7_now_64 ?_
      exact ⟨by rw [swF_k 3 (Nat.le_of_ble_eq_true rfl) (by decide)]; rfl, rfl⟩
    · refine z_iload_n E dX7_now_16 1 rfl rfl ?_
      refine z_iconst (v := (nI 1)) E dX7_now_17 (by decide) ?_
      refine z_icmpN_ne E dX7_now_18 46 (by decide) (by decide) (by decide) (fun _ => ?_) (fun h => absurd h (by decide))
      refine z_iload_n E dX7_now_46 1 rfl rfl ?_
      refine z_iconst (v := (nI 5)) E dX7_now_47 (by decide) ?_
      refine z_icmpN_ne E dX7_now_48 58 (by decide) (by decide) (by decide) (fun _ => ?_) (fun h => absurd h (by decide))
      refine z_aload_n E dX7_now_58 0 rfl rfl ?_
      refine gt_X7_25 (v := .ref (h 14)) E dX7_now_59 0 rfl rfl ?_
      refine z_iload_n E dX7_now_62 1 rfl rfl ?_
      refine z_ialdN (f := (M.2 14)) E dX7_now_63 6 rfl (by decide) (by decide) ?_
      refine z_topi (y := nI (P.1 4)) (congrArg nI (hN.1 4 (by decide))) ?_
      refine z_iret E Er dX7_now_64 ?_
      exact ⟨by rw [swF_k 4 (Nat.le_of_ble_eq_true rfl) (by decide)]; rfl, rfl⟩
    · refine z_iload_n E dX7_now_16 1 rfl rfl ?_
      refine z_iconst (v := (nI 1)) E dX7_now_17 (by decide) ?_
      refine z_icmpN_ne E dX7_now_18 46 (by decide) (by decide) (by decide) (fun _ => ?_) (fun h => absurd h (by decide))
      refine z_iload_n E dX7_now_46 1 rfl rfl ?_
      refine z_iconst (v := (nI 5)) E dX7_now_47 (by decide) ?_
      refine z_icmpN_ne E dX7_now_48 58 (by decide) (by decide) (by decide) (fun h => absurd h (by decide)) (fun _ => ?_)
      refine z_aload_n E dX7_now_51 0 rfl rfl ?_
      refine gt_X7_140 (v := .int (nI (M.1 18))) E dX7_now_52 0 rfl rfl ?_
      refine z_topi (y := nI (S.1 2)) (congrArg nI (hU2)) ?_
      refine z_goto E dX7_now_55 64 (by decide) ?_
      refine z_iret E Er dX7_now_64 ?_
      exact ⟨by rw [swF_k 5 (Nat.le_of_ble_eq_true rfl) (by decide)]; rfl, rfl⟩
  · refine z_iconst (v := (-1)) E dX7_now_14 (by decide) ?_
    refine z_iret E Er dX7_now_15 ?_
    exact ⟨by rw [swF_o (by rcases sw_cases w 5 with hsw | ⟨k, hk, rfl⟩; (show _ ∨ _ ≤ _; simp only [List.length]; omega); (exfalso; rcases (show k = 0 ∨ k = 1 ∨ k = 2 ∨ k = 3 ∨ k = 4 ∨ k = 5 by omega) with rfl | rfl | rfl | rfl | rfl | rfl <;> revert c1 <;> decide))], rfl⟩

set_option maxHeartbeats 4000000 in
set_option maxRecDepth 100000 in
theorem c_X7_road (g : GC) (a : Nat) (h : Nat → Nat) (M : NS) (r : Int32) (w : Int32) (T : NS) (P : NS) (hT : tdI T) (hM : mrT T M) (hP : pnI T P) (hN : mrP P M) : Ct g yX7_road cX7_road 3 (some .int) 2 0 0 [.ref a, .int r, .int w] (wMod g a h M) (DI (if hasR T r = true then swF w [nI (T.2 6 r.toNatClampNeg), nI (T.2 7 r.toNatClampNeg), nI (T.2 8 r.toNatClampNeg + P.2 5 r.toNatClampNeg), nI (P.2 5 r.toNatClampNeg), bI ((P.1 4).testBit r.toNatClampNeg), nI (T.2 9 r.toNatClampNeg)] (-1) else -1) (wMod g a h (sF M 0 0))) := by
  refine Ct.of (by decide) (Nat.le_of_ble_eq_true rfl) ?_
  intro X E Er hX _ hnm
  have E : Ob g X cX7_road 3 RX7 := E
  have hR := hT.2.2.1
  have hb := hT.2.1.2
  have hs4 := hP.s4 hT
  refine z_lve (lv' := [(0, .ref a), (1, .int r), (2, .int w)]) rfl ?_
  refine z_aload_n E dX7_road_0 0 rfl rfl ?_
  refine z_iconst (v := (nI 0)) E dX7_road_1 (by decide) ?_
  refine pt_X7_69 (x := nI 0) (ws' := wMod g a h (sF M 0 0)) E dX7_road_2 0 rfl (Nat.le_of_ble_eq_true rfl) rfl ?_
  refine z_aload_n E dX7_road_5 0 rfl rfl ?_
  refine z_iload_n E dX7_road_6 1 rfl rfl ?_
  refine z_ro0 E (rV E hX (c_X7_isRoad g a h (sF M 0 0) r T hT hM) mw_X7_isRoad ml_X7_143 dX7_road_7 (Nat.le_of_ble_eq_true rfl) ⟨(Nat.le_of_ble_eq_true rfl), (Nat.le_of_ble_eq_true rfl)⟩ rfl rfl (Nat.le_of_ble_eq_true rfl) 0 rfl rfl) ?_
  refine z_ifB_eq E dX7_road_10 22 (by decide) (fun c1 => ?_) (fun c1 => ?_)
  · refine z_iconst (v := (-1)) E dX7_road_22 (by decide) ?_
    refine z_iret E Er dX7_road_23 ?_
    exact ⟨by rw [if_neg (show ¬ hasR T r = true by rw [c1]; decide)], rfl⟩
  · refine z_iload_n E dX7_road_13 2 rfl rfl ?_
    refine z_iconst (v := (nI 0)) E dX7_road_14 (by decide) ?_
    refine z_iconst (v := (nI 5)) E dX7_road_15 (by decide) ?_
    refine z_se E (rS E hX (c_X7_in g w (nI 0) (nI 5)) mw_X7_in ms_X7_in ml_X7_73 dX7_road_16 (Nat.le_of_ble_eq_true rfl) ⟨(Nat.le_of_ble_eq_true rfl), (Nat.le_of_ble_eq_true rfl)⟩ rfl rfl (Nat.le_of_ble_eq_true rfl)) ?_
    refine z_ifB_ne E dX7_road_19 24 (by decide) (fun c2 => ?_) (fun c2 => ?_)
    · obtain ⟨j2, hj2, rfl⟩ := hasR_nI (hT.1.1 1) c1
      obtain ⟨k, -, hk, rfl⟩ := wi_nI (by decide) (by decide) c2
      rcases (show k = 0 ∨ k = 1 ∨ k = 2 ∨ k = 3 ∨ k = 4 ∨ k = 5 by omega) with rfl | rfl | rfl | rfl | rfl | rfl
      · refine z_iload_n E dX7_road_24 2 rfl rfl ?_
        refine z_iconst (v := (nI 2)) E dX7_road_25 (by decide) ?_
        refine z_icmpN_ge E dX7_road_26 40 (by decide) (by decide) (by decide) (fun h => absurd h (by decide)) (fun _ => ?_)
        refine z_aload_n E dX7_road_29 0 rfl rfl ?_
        refine gt_X7_16 (v := .ref (h 11)) E dX7_road_30 0 rfl rfl ?_
        refine z_iconst (v := (nI 2)) E dX7_road_33 (by decide) ?_
        refine z_iload_n E dX7_road_34 1 rfl rfl ?_
        refine z_imulN E dX7_road_35 ?_
        refine z_iload_n E dX7_road_36 2 rfl rfl ?_
        refine z_iaddN E dX7_road_37 ?_
        refine z_ialdN (f := (M.2 11)) E dX7_road_38 3 rfl (by omega) (by decide) ?_
        refine z_topi (y := nI ((T.2 6) j2)) (congrArg nI ((hM.2 j2 (by omega)).1)) ?_
        refine z_iret E Er dX7_road_39 ?_
        exact ⟨by rw [if_pos c1, swF_k 0 (Nat.le_of_ble_eq_true rfl) (by decide), nI_clamp (by omega)]; rfl, rfl⟩
      · refine z_iload_n E dX7_road_24 2 rfl rfl ?_
        refine z_iconst (v := (nI 2)) E dX7_road_25 (by decide) ?_
        refine z_icmpN_ge E dX7_road_26 40 (by decide) (by decide) (by decide) (fun h => absurd h (by decide)) (fun _ => ?_)
        refine z_aload_n E dX7_road_29 0 rfl rfl ?_
        refine gt_X7_16 (v := .ref (h 11)) E dX7_road_30 0 rfl rfl ?_
        refine z_iconst (v := (nI 2)) E dX7_road_33 (by decide) ?_
        refine z_iload_n E dX7_road_34 1 rfl rfl ?_
        refine z_imulN E dX7_road_35 ?_
        refine z_iload_n E dX7_road_36 2 rfl rfl ?_
        refine z_iaddN E dX7_road_37 ?_
        refine z_ialdN (f := (M.2 11)) E dX7_road_38 3 rfl (by omega) (by decide) ?_
        refine z_topi (y := nI ((T.2 7) j2)) (congrArg nI ((hM.2 j2 (by omega)).2.1)) ?_
        refine z_iret E Er dX7_road_39 ?_
        exact ⟨by rw [if_pos c1, swF_k 1 (Nat.le_of_ble_eq_true rfl) (by decide), nI_clamp (by omega)]; rfl, rfl⟩
      · refine z_iload_n E dX7_road_24 2 rfl rfl ?_
        refine z_iconst (v := (nI 2)) E dX7_road_25 (by decide) ?_
        refine z_icmpN_ge E dX7_road_26 40 (by decide) (by decide) (by decide) (fun _ => ?_) (fun h => absurd h (by decide))
        refine z_iload_n E dX7_road_40 2 rfl rfl ?_
        refine z_iconst (v := (nI 2)) E dX7_road_41 (by decide) ?_
        refine z_icmpN_ne E dX7_road_42 63 (by decide) (by decide) (by decide) (fun h => absurd h (by decide)) (fun _ => ?_)
        refine z_aload_n E dX7_road_45 0 rfl rfl ?_
        refine gt_X7_19 (v := .ref (h 12)) E dX7_road_46 0 rfl rfl ?_
        refine z_iload_n E dX7_road_49 1 rfl rfl ?_
        refine z_ialdN (f := (M.2 12)) E dX7_road_50 4 rfl (by omega) (by decide) ?_
        refine z_topi (y := nI ((T.2 8) j2)) (congrArg nI ((hM.2 j2 (by omega)).2.2.1)) ?_
        refine z_aload_n E dX7_road_51 0 rfl rfl ?_
        refine gt_X7_25 (v := .ref (h 14)) E dX7_road_52 0 rfl rfl ?_
        refine z_iconst (v := (nI 5)) E dX7_road_55 (by decide) ?_
        refine z_iload_n E dX7_road_56 1 rfl rfl ?_
        refine z_iaddN E dX7_road_57 ?_
        refine z_ialdN (f := (M.2 14)) E dX7_road_58 6 rfl (by omega) (by decide) ?_
        refine z_topi (y := nI ((P.2 5) j2)) (congrArg nI (hN.2 j2 (by omega))) ?_
        refine z_iaddN E dX7_road_59 ?_
        refine z_goto E dX7_road_60 103 (by decide) ?_
        refine z_iret E Er dX7_road_103 ?_
        exact ⟨by rw [if_pos c1, swF_k 2 (Nat.le_of_ble_eq_true rfl) (by decide), nI_clamp (by omega)]; rfl, rfl⟩
      · refine z_iload_n E dX7_road_24 2 rfl rfl ?_
        refine z_iconst (v := (nI 2)) E dX7_road_25 (by decide) ?_
        refine z_icmpN_ge E dX7_road_26 40 (by decide) (by decide) (by decide) (fun _ => ?_) (fun h => absurd h (by decide))
        refine z_iload_n E dX7_road_40 2 rfl rfl ?_
        refine z_iconst (v := (nI 2)) E dX7_road_41 (by decide) ?_
        refine z_icmpN_ne E dX7_road_42 63 (by decide) (by decide) (by decide) (fun _ => ?_) (fun h => absurd h (by decide))
        refine z_iload_n E dX7_road_63 2 rfl rfl ?_
        refine z_iconst (v := (nI 3)) E dX7_road_64 (by decide) ?_
        refine z_icmpN_ne E dX7_road_65 79 (by decide) (by decide) (by decide) (fun h => absurd h (by decide)) (fun _ => ?_)
        refine z_aload_n E dX7_road_68 0 rfl rfl ?_
        refine gt_X7_25 (v := .ref (h 14)) E dX7_road_69 0 rfl rfl ?_
        refine z_iconst (v := (nI 5)) E dX7_road_72 (by decide) ?_
        refine z_iload_n E dX7_road_73 1 rfl rfl ?_
        refine z_iaddN E dX7_road_74 ?_
        refine z_ialdN (f := (M.2 14)) E dX7_road_75 6 rfl (by omega) (by decide) ?_
        refine z_topi (y := nI ((P.2 5) j2)) (congrArg nI (hN.2 j2 (by omega))) ?_
        refine z_goto E dX7_road_76 103 (by decide) ?_
        refine z_iret E Er dX7_road_103 ?_
        exact ⟨by rw [if_pos c1, swF_k 3 (Nat.le_of_ble_eq_true rfl) (by decide), nI_clamp (by omega)]; rfl, rfl⟩
      · refine z_iload_n E dX7_road_24 2 rfl rfl ?_
        refine z_iconst (v := (nI 2)) E dX7_road_25 (by decide) ?_
        refine z_icmpN_ge E dX7_road_26 40 (by decide) (by decide) (by decide) (fun _ => ?_) (fun h => absurd h (by decide))
        refine z_iload_n E dX7_road_40 2 rfl rfl ?_
        refine z_iconst (v := (nI 2)) E dX7_road_41 (by decide) ?_
        refine z_icmpN_ne E dX7_road_42 63 (by decide) (by decide) (by decide) (fun _ => ?_) (fun h => absurd h (by decide))
        refine z_iload_n E dX7_road_63 2 rfl rfl ?_
        refine z_iconst (v := (nI 3)) E dX7_road_64 (by decide) ?_
        refine z_icmpN_ne E dX7_road_65 79 (by decide) (by decide) (by decide) (fun _ => ?_) (fun h => absurd h (by decide))
        refine z_iload_n E dX7_road_79 2 rfl rfl ?_
        refine z_iconst (v := (nI 4)) E dX7_road_80 (by decide) ?_
        refine z_icmpN_ne E dX7_road_81 97 (by decide) (by decide) (by decide) (fun h => absurd h (by decide)) (fun _ => ?_)
        refine z_aload_n E dX7_road_84 0 rfl rfl ?_
        refine gt_X7_25 (v := .ref (h 14)) E dX7_road_85 0 rfl rfl ?_
        refine z_iconst (v := (nI 4)) E dX7_road_88 (by decide) ?_
        refine z_ialdN (f := (M.2 14)) E dX7_road_89 6 rfl (by decide) (by decide) ?_
        refine z_topi (y := nI (P.1 4)) (congrArg nI (hN.1 4 (by decide))) ?_
        refine z_iload_n E dX7_road_90 1 rfl rfl ?_
        refine z_ishrN E dX7_road_91 (hP.1.1 _) (by omega) ?_
        refine z_iconst (v := (nI 1)) E dX7_road_92 (by decide) ?_
        refine z_iandN E dX7_road_93 ?_
        refine z_topi (tb_bI (P.1 4) j2) ?_
        refine z_goto E dX7_road_94 103 (by decide) ?_
        refine z_iret E Er dX7_road_103 ?_
        exact ⟨by rw [if_pos c1, swF_k 4 (Nat.le_of_ble_eq_true rfl) (by decide), nI_clamp (by omega)]; rfl, rfl⟩
      · refine z_iload_n E dX7_road_24 2 rfl rfl ?_
        refine z_iconst (v := (nI 2)) E dX7_road_25 (by decide) ?_
        refine z_icmpN_ge E dX7_road_26 40 (by decide) (by decide) (by decide) (fun _ => ?_) (fun h => absurd h (by decide))
        refine z_iload_n E dX7_road_40 2 rfl rfl ?_
        refine z_iconst (v := (nI 2)) E dX7_road_41 (by decide) ?_
        refine z_icmpN_ne E dX7_road_42 63 (by decide) (by decide) (by decide) (fun _ => ?_) (fun h => absurd h (by decide))
        refine z_iload_n E dX7_road_63 2 rfl rfl ?_
        refine z_iconst (v := (nI 3)) E dX7_road_64 (by decide) ?_
        refine z_icmpN_ne E dX7_road_65 79 (by decide) (by decide) (by decide) (fun _ => ?_) (fun h => absurd h (by decide))
        refine z_iload_n E dX7_road_79 2 rfl rfl ?_
        refine z_iconst (v := (nI 4)) E dX7_road_80 (by decide) ?_
        refine z_icmpN_ne E dX7_road_81 97 (by decide) (by decide) (by decide) (fun _ => ?_) (fun h => absurd h (by decide))
        refine z_aload_n E dX7_road_97 0 rfl rfl ?_
        refine gt_X7_22 (v := .ref (h 13)) E dX7_road_98 0 rfl rfl ?_
        refine z_iload_n E dX7_road_101 1 rfl rfl ?_
        refine z_ialdN (f := (M.2 13)) E dX7_road_102 5 rfl (by omega) (by decide) ?_
        refine z_topi (y := nI ((T.2 9) j2)) (congrArg nI ((hM.2 j2 (by omega)).2.2.2)) ?_
        refine z_iret E Er dX7_road_103 ?_
        exact ⟨by rw [if_pos c1, swF_k 5 (Nat.le_of_ble_eq_true rfl) (by decide), nI_clamp (by omega)]; rfl, rfl⟩
    · refine z_iconst (v := (-1)) E dX7_road_22 (by decide) ?_
      refine z_iret E Er dX7_road_23 ?_
      exact ⟨by rw [if_pos c1, swF_o (by rcases sw_cases w 5 with hsw | ⟨k, hk, rfl⟩; (show _ ∨ _ ≤ _; simp only [List.length]; omega); (exfalso; rcases (show k = 0 ∨ k = 1 ∨ k = 2 ∨ k = 3 ∨ k = 4 ∨ k = 5 by omega) with rfl | rfl | rfl | rfl | rfl | rfl <;> revert c2 <;> decide))], rfl⟩

set_option maxHeartbeats 4000000 in
set_option maxRecDepth 100000 in
theorem c_X7_place (g : GC) (a : Nat) (h : Nat → Nat) (M : NS) (z : Int32) (T : NS) (P : NS) (hT : tdI T) (hM : mrT T M) (hP : pnI T P) (hN : mrP P M) : Ct g yX7_place cX7_place 2 (some .int) 2 0 0 [.ref a, .int z] (wMod g a h M) (DI (if hasP T z = true then nI (rAt T z.toNatClampNeg (T.1 1) &&& opn T P) else -1) (wMod g a h (sF M 0 0))) := by
  refine Ct.of (by decide) (Nat.le_of_ble_eq_true rfl) ?_
  intro X E Er hX _ hnm
  have E : Ob g X cX7_place 2 RX7 := E
  have hR := hT.2.2.1
  have hb := hT.2.1.2
  have hop := opn_lt P hR
  refine z_lve (lv' := [(0, .ref a), (1, .int z)]) rfl ?_
  refine z_aload_n E dX7_place_0 0 rfl rfl ?_
  refine z_iconst (v := (nI 0)) E dX7_place_1 (by decide) ?_
  refine pt_X7_69 (x := nI 0) (ws' := wMod g a h (sF M 0 0)) E dX7_place_2 0 rfl (Nat.le_of_ble_eq_true rfl) rfl ?_
  refine z_aload_n E dX7_place_5 0 rfl rfl ?_
  refine z_iload_n E dX7_place_6 1 rfl rfl ?_
  refine z_ro0 E (rV E hX (c_X7_isPlace g a h (sF M 0 0) z T hT hM) mw_X7_isPlace ml_X7_150 dX7_place_7 (Nat.le_of_ble_eq_true rfl) ⟨(Nat.le_of_ble_eq_true rfl), (Nat.le_of_ble_eq_true rfl)⟩ rfl rfl (Nat.le_of_ble_eq_true rfl) 0 rfl rfl) ?_
  refine z_ifB_eq E dX7_place_10 25 (by decide) (fun c1 => ?_) (fun c1 => ?_)
  · refine z_iconst (v := (-1)) E dX7_place_25 (by decide) ?_
    refine z_iret E Er dX7_place_26 ?_
    exact ⟨by rw [if_neg (show ¬ hasP T z = true by rw [c1]; decide)], rfl⟩
  · obtain ⟨z2, hz2, rfl⟩ := hasP_nI (hT.1.1 0) c1
    refine z_aload_n E dX7_place_13 0 rfl rfl ?_
    refine z_aload_n E dX7_place_14 0 rfl rfl ?_
    refine z_ro0 E (rV E hX (c_X7_openNow g a h (sF M 0 0) T P hT hM hP hN) mw_X7_openNow ml_X7_153 dX7_place_15 (Nat.le_of_ble_eq_true rfl) ⟨(Nat.le_of_ble_eq_true rfl), (Nat.le_of_ble_eq_true rfl)⟩ rfl rfl (Nat.le_of_ble_eq_true rfl) 0 rfl rfl) ?_
    refine z_iload_n E dX7_place_18 1 rfl rfl ?_
    refine z_ro0 E (rV E hX (c_X7_roadsAt g a h (sF M 0 0) (opn T P) z2 T hT hM (by have := opn_lt P hT.2.2.1; omega) (by omega)) mw_X7_roadsAt ml_X7_157 dX7_place_19 (Nat.le_of_ble_eq_true rfl) ⟨(Nat.le_of_ble_eq_true rfl), (Nat.le_of_ble_eq_true rfl)⟩ rfl rfl (Nat.le_of_ble_eq_true rfl) 0 rfl rfl) ?_
    refine z_goto E dX7_place_22 26 (by decide) ?_
    refine z_iret E Er dX7_place_26 ?_
    exact ⟨by rw [if_pos c1, nI_clamp (by omega)], rfl⟩
