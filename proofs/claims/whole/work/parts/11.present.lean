def st0 (p : Nat) : NS := (fun k => if k = 0 then p else 0, fun _ _ => 0)
theorem st0_sm {p : Nat} (h : p < 2 ^ 31) : sm (st0 p) := ⟨fun k => by unfold st0; dsimp only; split; exact h; decide, fun _ _ => show (0 : Nat) < 2 ^ 31 by decide⟩

set_option maxHeartbeats 4000000 in
set_option maxRecDepth 100000 in
theorem c_J6_bitCount_0f7a4 (g : GC) (x : Nat) (hx : x < 4096) : Ct g yJ6_bitCount_0f7a4 cJ6_bitCount_0f7a4 1 (some .int) 0 0 0 [.int (nI x)] (([] : va_W)) (DI (nI (pc12 x)) (([] : va_W))) := by
  refine Ct.of (by decide) (Nat.le_of_ble_eq_true rfl) ?_
  intro X E Er hX _ hnm
  have E : Ob g X cJ6_bitCount_0f7a4 1 RJ6 := E
  refine z_lve (lv' := [(0, .int (nI x))]) rfl ?_
  refine z_iload_n E dJ6_bitCount_0f7a4_0 0 rfl rfl ?_
  refine z_iload_n E dJ6_bitCount_0f7a4_1 0 rfl rfl ?_
  refine z_iconst (v := (nI 1)) E dJ6_bitCount_0f7a4_2 (by decide) ?_
  refine z_iushr (v := bcU (nI x) (nI 1)) E dJ6_bitCount_0f7a4_3 rfl ?_
  refine z_ldcw (v := nI 1431655765) E dJ6_bitCount_0f7a4_4 kc_J6_265 ?_
  refine z_iand E dJ6_bitCount_0f7a4_7 ?_
  refine z_isub E dJ6_bitCount_0f7a4_8 ?_
  refine z_istore_n (lv' := [(0, .int ((nI x) - ((bcU (nI x) (nI 1)) &&& (nI 1431655765))))]) E dJ6_bitCount_0f7a4_9 0 rfl (by decide) rfl ?_
  refine z_iload_n E dJ6_bitCount_0f7a4_10 0 rfl rfl ?_
  refine z_ldcw (v := nI 858993459) E dJ6_bitCount_0f7a4_11 kc_J6_266 ?_
  refine z_iand E dJ6_bitCount_0f7a4_14 ?_
  refine z_iload_n E dJ6_bitCount_0f7a4_15 0 rfl rfl ?_
  refine z_iconst (v := (nI 2)) E dJ6_bitCount_0f7a4_16 (by decide) ?_
  refine z_iushr (v := bcU ((nI x) - ((bcU (nI x) (nI 1)) &&& (nI 1431655765))) (nI 2)) E dJ6_bitCount_0f7a4_17 rfl ?_
  refine z_ldcw (v := nI 858993459) E dJ6_bitCount_0f7a4_18 kc_J6_266 ?_
  refine z_iand E dJ6_bitCount_0f7a4_21 ?_
  refine z_iadd E dJ6_bitCount_0f7a4_22 ?_
  refine z_istore_n (lv' := [(0, .int ((((nI x) - ((bcU (nI x) (nI 1)) &&& (nI 1431655765))) &&& (nI 858993459)) + ((bcU ((nI x) - ((bcU (nI x) (nI 1)) &&& (nI 1431655765))) (nI 2)) &&& (nI 858993459))))]) E dJ6_bitCount_0f7a4_23 0 rfl (by decide) rfl ?_
  refine z_iload_n E dJ6_bitCount_0f7a4_24 0 rfl rfl ?_
  refine z_iload_n E dJ6_bitCount_0f7a4_25 0 rfl rfl ?_
  refine z_iconst (v := (nI 4)) E dJ6_bitCount_0f7a4_26 (by decide) ?_
  refine z_iushr (v := bcU ((((nI x) - ((bcU (nI x) (nI 1)) &&& (nI 1431655765))) &&& (nI 858993459)) + ((bcU ((nI x) - ((bcU (nI x) (nI 1)) &&& (nI 1431655765))) (nI 2)) &&& (nI 858993459))) (nI 4)) E dJ6_bitCount_0f7a4_27 rfl ?_
  refine z_iadd E dJ6_bitCount_0f7a4_28 ?_
  refine z_ldcw (v := nI 252645135) E dJ6_bitCount_0f7a4_29 kc_J6_267 ?_
  refine z_iand E dJ6_bitCount_0f7a4_32 ?_
  refine z_istore_n (lv' := [(0, .int ((((((nI x) - ((bcU (nI x) (nI 1)) &&& (nI 1431655765))) &&& (nI 858993459)) + ((bcU ((nI x) - ((bcU (nI x) (nI 1)) &&& (nI 1431655765))) (nI 2)) &&& (nI 858993459))) + (bcU ((((nI x) - ((bcU (nI x) (nI 1)) &&& (nI 1431655765))) &&& (nI 858993459)) + ((bcU ((nI x) - ((bcU (nI x) (nI 1)) &&& (nI 1431655765))) (nI 2)) &&& (nI 858993459))) (nI 4))) &&& (nI 252645135)))]) E dJ6_bitCount_0f7a4_33 0 rfl (by decide) rfl ?_
  refine z_iload_n E dJ6_bitCount_0f7a4_34 0 rfl rfl ?_
  refine z_iload_n E dJ6_bitCount_0f7a4_35 0 rfl rfl ?_
  refine z_bipush (v := (nI 8)) E dJ6_bitCount_0f7a4_36 (by decide) ?_
  refine z_iushr (v := bcU ((((((nI x) - ((bcU (nI x) (nI 1)) &&& (nI 1431655765))) &&& (nI 858993459)) + ((bcU ((nI x) - ((bcU (nI x) (nI 1)) &&& (nI 1431655765))) (nI 2)) &&& (nI 858993459))) + (bcU ((((nI x) - ((bcU (nI x) (nI 1)) &&& (nI 1431655765))) &&& (nI 858993459)) + ((bcU ((nI x) - ((bcU (nI x) (nI 1)) &&& (nI 1431655765))) (nI 2)) &&& (nI 858993459))) (nI 4))) &&& (nI 252645135)) (nI 8)) E dJ6_bitCount_0f7a4_38 rfl ?_
  refine z_iadd E dJ6_bitCount_0f7a4_39 ?_
  refine z_istore_n (lv' := [(0, .int (((((((nI x) - ((bcU (nI x) (nI 1)) &&& (nI 1431655765))) &&& (nI 858993459)) + ((bcU ((nI x) - ((bcU (nI x) (nI 1)) &&& (nI 1431655765))) (nI 2)) &&& (nI 858993459))) + (bcU ((((nI x) - ((bcU (nI x) (nI 1)) &&& (nI 1431655765))) &&& (nI 858993459)) + ((bcU ((nI x) - ((bcU (nI x) (nI 1)) &&& (nI 1431655765))) (nI 2)) &&& (nI 858993459))) (nI 4))) &&& (nI 252645135)) + (bcU ((((((nI x) - ((bcU (nI x) (nI 1)) &&& (nI 1431655765))) &&& (nI 858993459)) + ((bcU ((nI x) - ((bcU (nI x) (nI 1)) &&& (nI 1431655765))) (nI 2)) &&& (nI 858993459))) + (bcU ((((nI x) - ((bcU (nI x) (nI 1)) &&& (nI 1431655765))) &&& (nI 858993459)) + ((bcU ((nI x) - ((bcU (nI x) (nI 1)) &&& (nI 1431655765))) (nI 2)) &&& (nI 858993459))) (nI 4))) &&& (nI 252645135)) (nI 8))))]) E dJ6_bitCount_0f7a4_40 0 rfl (by decide) rfl ?_
  refine z_iload_n E dJ6_bitCount_0f7a4_41 0 rfl rfl ?_
  refine z_iload_n E dJ6_bitCount_0f7a4_42 0 rfl rfl ?_
  refine z_bipush (v := (nI 16)) E dJ6_bitCount_0f7a4_43 (by decide) ?_
  refine z_iushr (v := bcU (((((((nI x) - ((bcU (nI x) (nI 1)) &&& (nI 1431655765))) &&& (nI 858993459)) + ((bcU ((nI x) - ((bcU (nI x) (nI 1)) &&& (nI 1431655765))) (nI 2)) &&& (nI 858993459))) + (bcU ((((nI x) - ((bcU (nI x) (nI 1)) &&& (nI 1431655765))) &&& (nI 858993459)) + ((bcU ((nI x) - ((bcU (nI x) (nI 1)) &&& (nI 1431655765))) (nI 2)) &&& (nI 858993459))) (nI 4))) &&& (nI 252645135)) + (bcU ((((((nI x) - ((bcU (nI x) (nI 1)) &&& (nI 1431655765))) &&& (nI 858993459)) + ((bcU ((nI x) - ((bcU (nI x) (nI 1)) &&& (nI 1431655765))) (nI 2)) &&& (nI 858993459))) + (bcU ((((nI x) - ((bcU (nI x) (nI 1)) &&& (nI 1431655765))) &&& (nI 858993459)) + ((bcU ((nI x) - ((bcU (nI x) (nI 1)) &&& (nI 1431655765))) (nI 2)) &&& (nI 858993459))) (nI 4))) &&& (nI 252645135)) (nI 8))) (nI 16)) E dJ6_bitCount_0f7a4_45 rfl ?_
  refine z_iadd E dJ6_bitCount_0f7a4_46 ?_
  refine z_istore_n (lv' := [(0, .int ((((((((nI x) - ((bcU (nI x) (nI 1)) &&& (nI 1431655765))) &&& (nI 858993459)) + ((bcU ((nI x) - ((bcU (nI x) (nI 1)) &&& (nI 1431655765))) (nI 2)) &&& (nI 858993459))) + (bcU ((((nI x) - ((bcU (nI x) (nI 1)) &&& (nI 1431655765))) &&& (nI 858993459)) + ((bcU ((nI x) - ((bcU (nI x) (nI 1)) &&& (nI 1431655765))) (nI 2)) &&& (nI 858993459))) (nI 4))) &&& (nI 252645135)) + (bcU ((((((nI x) - ((bcU (nI x) (nI 1)) &&& (nI 1431655765))) &&& (nI 858993459)) + ((bcU ((nI x) - ((bcU (nI x) (nI 1)) &&& (nI 1431655765))) (nI 2)) &&& (nI 858993459))) + (bcU ((((nI x) - ((bcU (nI x) (nI 1)) &&& (nI 1431655765))) &&& (nI 858993459)) + ((bcU ((nI x) - ((bcU (nI x) (nI 1)) &&& (nI 1431655765))) (nI 2)) &&& (nI 858993459))) (nI 4))) &&& (nI 252645135)) (nI 8))) + (bcU (((((((nI x) - ((bcU (nI x) (nI 1)) &&& (nI 1431655765))) &&& (nI 858993459)) + ((bcU ((nI x) - ((bcU (nI x) (nI 1)) &&& (nI 1431655765))) (nI 2)) &&& (nI 858993459))) + (bcU ((((nI x) - ((bcU (nI x) (nI 1)) &&& (nI 1431655765))) &&& (nI 858993459)) + ((bcU ((nI x) - ((bcU (nI x) (nI 1)) &&& (nI 1431655765))) (nI 2)) &&& (nI 858993459))) (nI 4))) &&& (nI 252645135)) + (bcU ((((((nI x) - ((bcU (nI x) (nI 1)) &&& (nI 1431655765))) &&& (nI 858993459)) + ((bcU ((nI x) - ((bcU (nI x) (nI 1)) &&& (nI 1431655765))) (nI 2)) &&& (nI 858993459))) + (bcU ((((nI x) - ((bcU (nI x) (nI 1)) &&& (nI 1431655765))) &&& (nI 858993459)) + ((bcU ((nI x) - ((bcU (nI x) (nI 1)) &&& (nI 1431655765))) (nI 2)) &&& (nI 858993459))) (nI 4))) &&& (nI 252645135)) (nI 8))) (nI 16))))]) E dJ6_bitCount_0f7a4_47 0 rfl (by decide) rfl ?_
  refine z_iload_n E dJ6_bitCount_0f7a4_48 0 rfl rfl ?_
  refine z_bipush (v := (nI 63)) E dJ6_bitCount_0f7a4_49 (by decide) ?_
  refine z_iand E dJ6_bitCount_0f7a4_51 ?_
  refine z_iret E Er dJ6_bitCount_0f7a4_52 ?_
  exact ⟨congrArg (fun z => some (Value.int z)) (bc_all x hx), rfl⟩

set_option maxHeartbeats 4000000 in
set_option maxRecDepth 100000 in
theorem c_X2_isShut (g : GC) (a : Nat) (h : Nat → Nat) (T : NS) (r : Nat) (hs : T.1 4 < 2 ^ 31) (hr : r < 32) : Ct g yX2_isShut cX2_isShut 2 (some .boolean) 1 0 0 [.ref a, .int (nI r)] (wPres g a h T) (DI (bI ((T.1 4).testBit r)) (wPres g a h T)) := by
  refine Ct.of (by decide) (Nat.le_of_ble_eq_true rfl) ?_
  intro X E Er hX _ hnm
  have E : Ob g X cX2_isShut 2 RX2 := E
  refine z_lve (lv' := [(0, .ref a), (1, .int (nI r))]) rfl ?_
  refine z_aload_n E dX2_isShut_0 0 rfl rfl ?_
  refine gt_X2_28 (v := .int (nI (T.1 4))) E dX2_isShut_1 0 rfl rfl ?_
  refine z_iload_n E dX2_isShut_4 1 rfl rfl ?_
  refine z_se E (rSN E hX (c_X6_has g (T.1 4) r (by omega) (by omega)) mw_X6_has ms_X6_has mn_X2_37 dX2_isShut_5 (Nat.le_of_ble_eq_true rfl) ⟨(Nat.le_of_ble_eq_true rfl), (Nat.le_of_ble_eq_true rfl)⟩ rfl rfl (Nat.le_of_ble_eq_true rfl)) ?_
  refine z_zret E Er dX2_isShut_8 (bI_nar _) ?_
  exact ⟨rfl, rfl⟩

set_option maxHeartbeats 4000000 in
set_option maxRecDepth 100000 in
theorem l_startAt (g : GC) (a : Nat) (h : Nat → Nat) (T : NS) (p : Nat) (X : XC) (E : Ob g X cX2_startAt 3 RX2) (hX : X.2.2.1 = zR 0 0 0) (K : ∀ (f : Nat → Nat), (∀ j, j < 12 → f j = 0) → Z g X 3 0 0 (wPres g a h (sA (sF (sF (sF (sF (sF T 0 p) 1 0) 2 0) 3 0) 4 0) 5 f)) [(0, .ref a), (1, .int (nI p))] [] 47) : ∀ (n : Nat) (i : Nat) (f : Nat → Nat), (i ≤ 12) → (∀ j, j < i → f j = 0) → (12 < i + n) → Z g X 3 0 0 (wPres g a h (sA (sF (sF (sF (sF (sF T 0 p) 1 0) 2 0) 3 0) 4 0) 5 f)) [(0, .ref a), (1, .int (nI p)), (2, .int (nI i))] [] 28 := by
  intro n
  induction n with
  | zero =>
    intro i f hi hf0 hf
    exfalso; omega
  | succ n ih =>
    intro i f hi hf0 hf
    refine z_iload_n E dX2_startAt_28 2 rfl rfl ?_
    refine z_bipush (v := (nI 12)) E dX2_startAt_29 (by decide) ?_
    refine z_icmpN_ge E dX2_startAt_31 47 (by decide) (by omega) (by decide) (fun c1 => ?_) (fun c1 => ?_)
    · refine z_lv [0, 1] rfl ?_; exact K f (fun j hj => hf0 j (by omega))
    · refine z_aload_n E dX2_startAt_34 0 rfl rfl ?_
      refine gt_X2_15 (v := .ref (h 5)) E dX2_startAt_35 0 rfl rfl ?_
      refine z_iload_n E dX2_startAt_38 2 rfl rfl ?_
      refine z_iconst (v := (nI 0)) E dX2_startAt_39 (by decide) ?_
      refine z_iastN (f := f) (i := i) (x := 0) (ws' := wPres g a h (sA (sF (sF (sF (sF (sF T 0 p) 1 0) 2 0) 3 0) 4 0) 5 (va_up f i 0))) E dX2_startAt_40 1 rfl (by omega) (by decide) rfl ?_
      refine z_iincN (lv' := [(0, .ref a), (1, .int (nI p)), (2, .int (nI (i + 1)))]) E dX2_startAt_41 2 rfl (by decide) rfl ?_
      refine z_goto E dX2_startAt_44 28 (by decide) ?_
      exact ih (i + 1) (va_up f i 0) (by omega) (fun j hj => by unfold va_up; split; rfl; exact hf0 j (by omega)) (by omega)

set_option maxHeartbeats 4000000 in
set_option maxRecDepth 100000 in
theorem c_X2_startAt (g : GC) (a : Nat) (h : Nat → Nat) (T : NS) (p : Nat) : Ct g yX2_startAt cX2_startAt 3 none 0 0 0 [.ref a, .int (nI p)] (wPres g a h T) (DV (wPres g a h (st0 p))) := by
  refine Ct.of (by decide) (Nat.le_of_ble_eq_true rfl) ?_
  intro X E Er hX _ hnm
  have E : Ob g X cX2_startAt 3 RX2 := E
  refine z_lve (lv' := [(0, .ref a), (1, .int (nI p))]) rfl ?_
  refine z_aload_n E dX2_startAt_0 0 rfl rfl ?_
  refine z_iload_n E dX2_startAt_1 1 rfl rfl ?_
  refine pt_X2_19 (x := nI p) (ws' := wPres g a h (sF T 0 p)) E dX2_startAt_2 0 rfl (Nat.le_of_ble_eq_true rfl) rfl ?_
  refine z_aload_n E dX2_startAt_5 0 rfl rfl ?_
  refine z_bipush (v := (-9)) E dX2_startAt_6 (by decide) ?_
  refine pt_X2_9 (x := cm 0) (ws' := wPres g a h (sF (sF T 0 p) 1 0)) E dX2_startAt_8 0 rfl (Nat.le_of_ble_eq_true rfl) rfl ?_
  refine z_aload_n E dX2_startAt_11 0 rfl rfl ?_
  refine z_iconst (v := (nI 0)) E dX2_startAt_12 (by decide) ?_
  refine pt_X2_22 (x := nI 0) (ws' := wPres g a h (sF (sF (sF T 0 p) 1 0) 2 0)) E dX2_startAt_13 0 rfl (Nat.le_of_ble_eq_true rfl) rfl ?_
  refine z_aload_n E dX2_startAt_16 0 rfl rfl ?_
  refine z_iconst (v := (nI 0)) E dX2_startAt_17 (by decide) ?_
  refine pt_X2_25 (x := nI 0) (ws' := wPres g a h (sF (sF (sF (sF T 0 p) 1 0) 2 0) 3 0)) E dX2_startAt_18 0 rfl (Nat.le_of_ble_eq_true rfl) rfl ?_
  refine z_aload_n E dX2_startAt_21 0 rfl rfl ?_
  refine z_iconst (v := (nI 0)) E dX2_startAt_22 (by decide) ?_
  refine pt_X2_28 (x := nI 0) (ws' := wPres g a h (sF (sF (sF (sF (sF T 0 p) 1 0) 2 0) 3 0) 4 0)) E dX2_startAt_23 0 rfl (Nat.le_of_ble_eq_true rfl) rfl ?_
  refine z_iconst (v := (nI 0)) E dX2_startAt_26 (by decide) ?_
  refine z_istore_n (lv' := [(0, .ref a), (1, .int (nI p)), (2, .int (nI 0))]) E dX2_startAt_27 2 rfl (by decide) rfl ?_
  refine l_startAt g a h T p X E hX (fun f hf0 => ?_) 13 0 (T.2 5) (by omega) (fun j hj => absurd hj (Nat.not_lt_zero j)) (by omega)
  refine z_arrN (f := f) (f' := (fun _ => 0)) (ws' := wPres g a h (st0 p)) 1 rfl (hf0) rfl ?_
  refine z_vret E Er dX2_startAt_47 ?_
  exact ⟨rfl, rfl⟩

set_option maxHeartbeats 4000000 in
set_option maxRecDepth 100000 in
theorem c_X2_become (g : GC) (a : Nat) (h : Nat → Nat) (T : NS) (b : Nat) (i : Nat → Nat) (S : NS) : Ct g yX2_become cX2_become 2 none 1 0 0 [.ref a, .ref b] (wPres g a h T ++ (wPres g b i S)) (DV (wPres g a h S ++ (wPres g b i S))) := by
  refine Ct.of (by decide) (Nat.le_of_ble_eq_true rfl) ?_
  intro X E Er hX _ hnm
  have E : Ob g X cX2_become 2 RX2 := E
  refine z_lve (lv' := [(0, .ref a), (1, .ref b)]) rfl ?_
  refine z_aload_n E dX2_become_0 0 rfl rfl ?_
  refine z_aload_n E dX2_become_1 1 rfl rfl ?_
  refine gt_X2_19 (v := .int (nI (S.1 0))) E dX2_become_2 2 rfl rfl ?_
  refine pt_X2_19 (x := nI (S.1 0)) (ws' := wPres g a h (sF T 0 (S.1 0)) ++ (wPres g b i S)) E dX2_become_5 0 rfl (Nat.le_of_ble_eq_true rfl) rfl ?_
  refine z_aload_n E dX2_become_8 0 rfl rfl ?_
  refine z_aload_n E dX2_become_9 1 rfl rfl ?_
  refine gt_X2_9 (v := .int (cm (S.1 1))) E dX2_become_10 2 rfl rfl ?_
  refine pt_X2_9 (x := cm (S.1 1)) (ws' := wPres g a h (sF (sF T 0 (S.1 0)) 1 (S.1 1)) ++ (wPres g b i S)) E dX2_become_13 0 rfl (Nat.le_of_ble_eq_true rfl) rfl ?_
  refine z_aload_n E dX2_become_16 0 rfl rfl ?_
  refine z_aload_n E dX2_become_17 1 rfl rfl ?_
  refine gt_X2_22 (v := .int (nI (S.1 2))) E dX2_become_18 2 rfl rfl ?_
  refine pt_X2_22 (x := nI (S.1 2)) (ws' := wPres g a h (sF (sF (sF T 0 (S.1 0)) 1 (S.1 1)) 2 (S.1 2)) ++ (wPres g b i S)) E dX2_become_21 0 rfl (Nat.le_of_ble_eq_true rfl) rfl ?_
  refine z_aload_n E dX2_become_24 0 rfl rfl ?_
  refine z_aload_n E dX2_become_25 1 rfl rfl ?_
  refine gt_X2_25 (v := .int (nI (S.1 3))) E dX2_become_26 2 rfl rfl ?_
  refine pt_X2_25 (x := nI (S.1 3)) (ws' := wPres g a h (sF (sF (sF (sF T 0 (S.1 0)) 1 (S.1 1)) 2 (S.1 2)) 3 (S.1 3)) ++ (wPres g b i S)) E dX2_become_29 0 rfl (Nat.le_of_ble_eq_true rfl) rfl ?_
  refine z_aload_n E dX2_become_32 0 rfl rfl ?_
  refine z_aload_n E dX2_become_33 1 rfl rfl ?_
  refine gt_X2_28 (v := .int (nI (S.1 4))) E dX2_become_34 2 rfl rfl ?_
  refine pt_X2_28 (x := nI (S.1 4)) (ws' := wPres g a h (sF (sF (sF (sF (sF T 0 (S.1 0)) 1 (S.1 1)) 2 (S.1 2)) 3 (S.1 3)) 4 (S.1 4)) ++ (wPres g b i S)) E dX2_become_37 0 rfl (Nat.le_of_ble_eq_true rfl) rfl ?_
  refine z_aload_n E dX2_become_40 1 rfl rfl ?_
  refine gt_X2_15 (v := .ref (i 5)) E dX2_become_41 2 rfl rfl ?_
  refine z_iconst (v := (nI 0)) E dX2_become_44 (by decide) ?_
  refine z_aload_n E dX2_become_45 0 rfl rfl ?_
  refine gt_X2_15 (v := .ref (h 5)) E dX2_become_46 0 rfl rfl ?_
  refine z_iconst (v := (nI 0)) E dX2_become_49 (by decide) ?_
  refine z_bipush (v := (nI 12)) E dX2_become_50 (by decide) ?_
  refine z_copyN (f := (S.2 5)) (h := (T.2 5)) (ws' := wPres g a h (sA (sF (sF (sF (sF (sF T 0 (S.1 0)) 1 (S.1 1)) 2 (S.1 2)) 3 (S.1 3)) 4 (S.1 4)) 5 (va_cpy (S.2 5) (T.2 5) 0 0 12)) ++ (wPres g b i S)) E hX dX2_become_52 ml_X2_31 ac_words (Nat.le_of_ble_eq_true rfl) (Nat.le_of_ble_eq_true rfl) 3 1 rfl rfl (by decide) (by decide) (by decide) (by decide) rfl ?_
  refine z_arrN (f := (va_cpy (S.2 5) (T.2 5) 0 0 12)) (f' := (S.2 5)) (ws' := wPres g a h S ++ (wPres g b i S)) 1 rfl (fun j hj => cpy_all hj) rfl ?_
  refine z_vret E Er dX2_become_55 ?_
  exact ⟨rfl, rfl⟩
