def wTV (g : GC) (a : Nat) (h : Nat → Nat) (rd mp dr pr pa vo ch : Nat) (im : Nat → Nat) (T : NS) : va_W := [(a, .inr (6, [.ref rd, .ref mp, .ref dr, .ref pr, .ref pa, .ref vo, .ref ch, .ref (h 7), .int (nI (T.1 8)), .ref (h 9), .ref (h 10), .int (nI (T.1 11)), .ref (h 12), .ref (h 13), .long (lN (T.1 14))])), (h 7, .inl (g.2.2 0, 8, .inl (fun k => nI (T.2 7 k)))), (h 9, .inl (g.2.2 0, 5, .inl (fun k => nI (T.2 9 k)))), (h 10, .inl (g.2.2 0, 5, .inl (fun k => nI (T.2 10 k)))), (h 12, .inl (g.2.2 3, 2, .inr (.inr (.inr (.inr (fun i => some (im i))))))), (h 13, .inl (g.2.2 2, 2, .inl (fun k => nI (T.2 13 k))))]

set_option maxHeartbeats 4000000 in
set_option maxRecDepth 100000 in
theorem c_X6_longOf (g : GC) (x : Nat) (y : Nat → Nat) (W : NS) (rd : Nat) (dr : Nat) (pa : Nat) (vo : Nat) (ch : Nat) (im : Nat → Nat) (a : Nat) (h : Nat → Nat) (T : NS) (p : Nat) (q : Nat → Nat) (P : NS) (r : Nat) (hr : r < 12) : Ct g yX6_longOf cX6_longOf 2 (some .int) 0 0 0 [.ref x, .int (nI r)] (wTV g x y rd a dr p pa vo ch im W ++ (wTown g a h T ++ (wPres g p q P))) (DI (nI (T.2 8 r + P.2 5 r)) (wTV g x y rd a dr p pa vo ch im W ++ (wTown g a h T ++ (wPres g p q P)))) := by
  refine Ct.of (by decide) (Nat.le_of_ble_eq_true rfl) ?_
  intro X E Er hX _ hnm
  have E : Ob g X cX6_longOf 2 RX6 := E
  refine z_lve (lv' := [(0, .ref x), (1, .int (nI r))]) rfl ?_
  refine z_aload_n E dX6_longOf_0 0 rfl rfl ?_
  refine gt_X6_19 (v := .ref a) E dX6_longOf_1 0 rfl rfl ?_
  refine gt_X6_271 (v := .ref (h 8)) E dX6_longOf_4 6 rfl rfl ?_
  refine z_iload_n E dX6_longOf_7 1 rfl rfl ?_
  refine z_ialdN (f := (T.2 8)) E dX6_longOf_8 9 rfl (by omega) (by decide) ?_
  refine z_aload_n E dX6_longOf_9 0 rfl rfl ?_
  refine gt_X6_29 (v := .ref p) E dX6_longOf_10 0 rfl rfl ?_
  refine gt_X6_115 (v := .ref (q 5)) E dX6_longOf_13 11 rfl rfl ?_
  refine z_iload_n E dX6_longOf_16 1 rfl rfl ?_
  refine z_ialdN (f := (P.2 5)) E dX6_longOf_17 12 rfl (by omega) (by decide) ?_
  refine z_iaddN E dX6_longOf_18 ?_
  refine z_iret E Er dX6_longOf_19 ?_
  exact ⟨rfl, rfl⟩

set_option maxHeartbeats 4000000 in
set_option maxRecDepth 100000 in
theorem c_X6_openRoads (g : GC) (x : Nat) (y : Nat → Nat) (W : NS) (rd : Nat) (dr : Nat) (pa : Nat) (vo : Nat) (ch : Nat) (im : Nat → Nat) (a : Nat) (h : Nat → Nat) (T : NS) (p : Nat) (q : Nat → Nat) (P : NS) (hT : tdI T) : Ct g yX6_openRoads cX6_openRoads 1 (some .int) 1 0 0 [.ref x] (wTV g x y rd a dr p pa vo ch im W ++ (wTown g a h T ++ (wPres g p q P))) (DI (nI (opn T P)) (wTV g x y rd a dr p pa vo ch im W ++ (wTown g a h T ++ (wPres g p q P)))) := by
  refine Ct.of (by decide) (Nat.le_of_ble_eq_true rfl) ?_
  intro X E Er hX _ hnm
  have E : Ob g X cX6_openRoads 1 RX6 := E
  have hR := hT.2.2.1
  refine z_lve (lv' := [(0, .ref x)]) rfl ?_
  refine z_aload_n E dX6_openRoads_0 0 rfl rfl ?_
  refine gt_X6_19 (v := .ref a) E dX6_openRoads_1 0 rfl rfl ?_
  refine z_ro E (rV E hX (c_X4_allRoads g a h T (by omega)) mw_X4_allRoads ml_X6_273 dX6_openRoads_4 (Nat.le_of_ble_eq_true rfl) ⟨(Nat.le_of_ble_eq_true rfl), (Nat.le_of_ble_eq_true rfl)⟩ rfl rfl (Nat.le_of_ble_eq_true rfl) 0 rfl rfl) [6, 7, 8, 9, 10] rfl (by decide) ?_
  refine z_aload_n E dX6_openRoads_7 0 rfl rfl ?_
  refine gt_X6_29 (v := .ref p) E dX6_openRoads_8 0 rfl rfl ?_
  refine gt_X6_145 (v := .int (nI (P.1 4))) E dX6_openRoads_11 11 rfl rfl ?_
  refine z_iconst (v := (-1)) E dX6_openRoads_14 (by decide) ?_
  refine z_topi (y := nI 4294967295) rfl ?_
  refine z_ixorN E dX6_openRoads_15 ?_
  refine z_iandN E dX6_openRoads_16 ?_
  refine z_iret E Er dX6_openRoads_17 ?_
  exact ⟨rfl, rfl⟩

def canT (T P : NS) (r z : Nat) : Bool := !(P.1 4).testBit r && meetsT T r z
set_option maxHeartbeats 4000000 in
set_option maxRecDepth 100000 in
theorem c_X6_canTake (g : GC) (x : Nat) (y : Nat → Nat) (W : NS) (rd : Nat) (dr : Nat) (pa : Nat) (vo : Nat) (ch : Nat) (im : Nat → Nat) (a : Nat) (h : Nat → Nat) (T : NS) (p : Nat) (q : Nat → Nat) (P : NS) (r : Nat) (z : Nat) (hT : tdI T) (hs : P.1 4 < 4096) (hr : r < 12) (hz : z < 2 ^ 31) : Ct g yX6_canTake cX6_canTake 3 (some .boolean) 2 0 0 [.ref x, .int (nI r), .int (nI z)] (wTV g x y rd a dr p pa vo ch im W ++ (wTown g a h T ++ (wPres g p q P))) (DI (bI (canT T P r z)) (wTV g x y rd a dr p pa vo ch im W ++ (wTown g a h T ++ (wPres g p q P)))) := by
  refine Ct.of (by decide) (Nat.le_of_ble_eq_true rfl) ?_
  intro X E Er hX _ hnm
  have E : Ob g X cX6_canTake 3 RX6 := E
  refine z_lve (lv' := [(0, .ref x), (1, .int (nI r)), (2, .int (nI z))]) rfl ?_
  refine z_aload_n E dX6_canTake_0 0 rfl rfl ?_
  refine gt_X6_29 (v := .ref p) E dX6_canTake_1 0 rfl rfl ?_
  refine z_iload_n E dX6_canTake_4 1 rfl rfl ?_
  refine z_ro E (rV E hX (c_X2_isShut g p q P r (by omega) (by omega)) mw_X2_isShut ml_X6_118 dX6_canTake_5 (Nat.le_of_ble_eq_true rfl) ⟨(Nat.le_of_ble_eq_true rfl), (Nat.le_of_ble_eq_true rfl)⟩ rfl rfl (Nat.le_of_ble_eq_true rfl) 0 rfl rfl) [11, 12] rfl (by decide) ?_
  refine z_ifB_ne E dX6_canTake_8 27 (by decide) (fun c1 => ?_) (fun c1 => ?_)
  · refine z_iconst (v := (nI 0)) E dX6_canTake_27 (by decide) ?_
    refine z_zret E Er dX6_canTake_28 (by decide) ?_
    exact ⟨bz0 (by simp [canT, c1]), rfl⟩
  · refine z_aload_n E dX6_canTake_11 0 rfl rfl ?_
    refine gt_X6_19 (v := .ref a) E dX6_canTake_12 0 rfl rfl ?_
    refine z_iload_n E dX6_canTake_15 1 rfl rfl ?_
    refine z_iload_n E dX6_canTake_16 2 rfl rfl ?_
    refine z_ro E (rV E hX (c_X4_meets g a h T r z hT.1 (by omega) (by omega)) mw_X4_meets ml_X6_276 dX6_canTake_17 (Nat.le_of_ble_eq_true rfl) ⟨(Nat.le_of_ble_eq_true rfl), (Nat.le_of_ble_eq_true rfl)⟩ rfl rfl (Nat.le_of_ble_eq_true rfl) 0 rfl rfl) [6, 7, 8, 9, 10] rfl (by decide) ?_
    refine z_ifB_eq E dX6_canTake_20 27 (by decide) (fun c2 => ?_) (fun c2 => ?_)
    · refine z_iconst (v := (nI 0)) E dX6_canTake_27 (by decide) ?_
      refine z_zret E Er dX6_canTake_28 (by decide) ?_
      exact ⟨bz0 (by simp [canT, c1, c2]), rfl⟩
    · refine z_iconst (v := (nI 1)) E dX6_canTake_23 (by decide) ?_
      refine z_goto E dX6_canTake_24 28 (by decide) ?_
      refine z_zret E Er dX6_canTake_28 (by decide) ?_
      exact ⟨bz1 (by simp [canT, c1, c2]), rfl⟩

set_option maxHeartbeats 4000000 in
set_option maxRecDepth 100000 in
theorem c_X6_minutesOfTaking (g : GC) (x : Nat) (y : Nat → Nat) (W : NS) (rd : Nat) (dr : Nat) (pa : Nat) (vo : Nat) (ch : Nat) (im : Nat → Nat) (a : Nat) (h : Nat → Nat) (T : NS) (p : Nat) (q : Nat → Nat) (P : NS) (c : Nat) (r : Nat) (hT : tdI T) (hr : r < 12) (hc : c < 2 ^ 31) : Ct g yX6_minutesOfTaking cX6_minutesOfTaking 3 (some .int) 3 0 0 [.ref x, .int (cm c), .int (nI r)] (wTV g x y rd a dr p pa vo ch im W ++ (wTown g a h T ++ (wPres g p q P))) (DI (nI (T.2 8 r + P.2 5 r + nvT T c r)) (wTV g x y rd a dr p pa vo ch im W ++ (wTown g a h T ++ (wPres g p q P)))) := by
  refine Ct.of (by decide) (Nat.le_of_ble_eq_true rfl) ?_
  intro X E Er hX _ hnm
  have E : Ob g X cX6_minutesOfTaking 3 RX6 := E
  refine z_lve (lv' := [(0, .ref x), (1, .int (cm c)), (2, .int (nI r))]) rfl ?_
  refine z_aload_n E dX6_minutesOfTaking_0 0 rfl rfl ?_
  refine z_iload_n E dX6_minutesOfTaking_1 2 rfl rfl ?_
  refine z_ro0 E (rV E hX (c_X6_longOf g x y W rd dr pa vo ch im a h T p q P r (by omega)) mw_X6_longOf ml_X6_111 dX6_minutesOfTaking_2 (Nat.le_of_ble_eq_true rfl) ⟨(Nat.le_of_ble_eq_true rfl), (Nat.le_of_ble_eq_true rfl)⟩ rfl rfl (Nat.le_of_ble_eq_true rfl) 0 rfl rfl) ?_
  refine z_aload_n E dX6_minutesOfTaking_5 0 rfl rfl ?_
  refine gt_X6_19 (v := .ref a) E dX6_minutesOfTaking_6 0 rfl rfl ?_
  refine z_iload_n E dX6_minutesOfTaking_9 1 rfl rfl ?_
  refine z_iload_n E dX6_minutesOfTaking_10 2 rfl rfl ?_
  refine z_ro E (rV E hX (c_X4_nervesFor g a h T c r hT.1 hT.2.2.1 (by omega) (by omega)) mw_X4_nervesFor ml_X6_279 dX6_minutesOfTaking_11 (Nat.le_of_ble_eq_true rfl) ⟨(Nat.le_of_ble_eq_true rfl), (Nat.le_of_ble_eq_true rfl)⟩ rfl rfl (Nat.le_of_ble_eq_true rfl) 0 rfl rfl) [6, 7, 8, 9, 10] rfl (by decide) ?_
  refine z_iaddN E dX6_minutesOfTaking_14 ?_
  refine z_iret E Er dX6_minutesOfTaking_15 ?_
  exact ⟨rfl, rfl⟩

def orF (T : NS) (o m : Nat) : Nat → Nat
  | 0 => 0
  | i + 1 => if o.testBit i = true then (if m.testBit (T.2 7 i) = true then (if m.testBit (T.2 6 i) = true then orF T o m i ||| 1 <<< T.2 7 i else orF T o m i) ||| 1 <<< T.2 6 i else (if m.testBit (T.2 6 i) = true then orF T o m i ||| 1 <<< T.2 7 i else orF T o m i)) else orF T o m i
theorem orF_lt {T : NS} (hT : tdI T) (o m : Nat) : ∀ i, i ≤ T.1 1 → orF T o m i < 256
  | 0, _ => by show (0 : Nat) < 256; decide
  | i + 1, hi => by
    have ih := orF_lt hT o m i (by omega)
    have h := hT.2.2.2.2.2.2.2.2.2 i (by omega)
    have hb := hT.2.1.2
    have b1 : ∀ z y, z < 256 → y < 8 → z ||| 1 <<< y < 256 := fun z y hz hy => Nat.or_lt_two_pow (n := 8) hz (by rw [Nat.one_shiftLeft]; exact Nat.pow_lt_pow_right (by decide) hy)
    unfold orF
    split
    · split
      · split
        · exact b1 _ _ (b1 _ _ ih (by omega)) (by omega)
        · exact b1 _ _ ih (by omega)
      · split
        · exact b1 _ _ ih (by omega)
        · exact ih
    · exact ih
def asF (W : NS) (m s : Nat) : Nat → Nat
  | 0 => m
  | i + 1 => if W.2 9 i = s then asF W m s i &&& 1 <<< W.2 10 i else asF W m s i
theorem asF_le (W : NS) (m s : Nat) : ∀ i, asF W m s i ≤ m
  | 0 => Nat.le_refl _
  | i + 1 => by
    have := asF_le W m s i
    unfold asF
    split
    · exact Nat.le_trans Nat.and_le_left this
    · exact this

set_option maxHeartbeats 4000000 in
set_option maxRecDepth 100000 in
theorem l_oneOn (g : GC) (x : Nat) (y : Nat → Nat) (W : NS) (rd : Nat) (dr : Nat) (pa : Nat) (vo : Nat) (ch : Nat) (im : Nat → Nat) (a : Nat) (h : Nat → Nat) (T : NS) (p : Nat) (q : Nat → Nat) (P : NS) (m : Nat) (hT : tdI T) (hm : m < 2 ^ 31) (X : XC) (E : Ob g X cX6_oneRoadOn 5 RX6) (hX : X.2.2.1 = zR 2 0 0) (K : ∀ (z : Nat), (z = orF T (opn T P) m (T.1 1)) → Z g X 5 0 0 (wTV g x y rd a dr p pa vo ch im W ++ (wTown g a h T ++ (wPres g p q P))) [(0, .ref x), (1, .int (nI m)), (2, .int (nI (opn T P))), (3, .int (nI z))] [] 101) : ∀ (n : Nat) (i : Nat) (z : Nat), (i ≤ T.1 1) → (z = orF T (opn T P) m i) → (T.1 1 < i + n) → Z g X 5 0 0 (wTV g x y rd a dr p pa vo ch im W ++ (wTown g a h T ++ (wPres g p q P))) [(0, .ref x), (1, .int (nI m)), (2, .int (nI (opn T P))), (3, .int (nI z)), (4, .int (nI i))] [] 10 := by
  intro n
  induction n with
  | zero =>
    intro i z hi hz hf
    have hR := hT.2.2.1
    have hop := opn_lt P hR
    have h67 := hT.2.2.2.2.2.2.2.2.2 i
    have hb := hT.2.1.2
    exfalso; omega
  | succ n ih =>
    intro i z hi hz hf
    have hR := hT.2.2.1
    have hop := opn_lt P hR
    have h67 := hT.2.2.2.2.2.2.2.2.2 i
    have hb := hT.2.1.2
    refine z_iload E dX6_oneRoadOn_10 4 rfl ?_
    refine z_aload_n E dX6_oneRoadOn_12 0 rfl rfl ?_
    refine gt_X6_19 (v := .ref a) E dX6_oneRoadOn_13 0 rfl rfl ?_
    refine gt_X6_205 (v := .int (nI (T.1 1))) E dX6_oneRoadOn_16 6 rfl rfl ?_
    refine z_icmpN_ge E dX6_oneRoadOn_19 101 (by decide) (by omega) (hT.1.1 _) (fun c1 => ?_) (fun c1 => ?_)
    · refine z_lv [0, 1, 2, 3] rfl ?_; exact K z (by rw [hz, show i = T.1 1 by omega])
    · refine z_iload_n E dX6_oneRoadOn_22 2 rfl rfl ?_
      refine z_iload E dX6_oneRoadOn_23 4 rfl ?_
      refine z_se E (rS E hX (c_X6_has g (opn T P) i (by omega) (by omega)) mw_X6_has ms_X6_has ml_X6_208 dX6_oneRoadOn_25 (Nat.le_of_ble_eq_true rfl) ⟨(Nat.le_of_ble_eq_true rfl), (Nat.le_of_ble_eq_true rfl)⟩ rfl rfl (Nat.le_of_ble_eq_true rfl)) ?_
      refine z_ifB_eq E dX6_oneRoadOn_28 95 (by decide) (fun c2 => ?_) (fun c2 => ?_)
      · refine z_iincN (lv' := [(0, .ref x), (1, .int (nI m)), (2, .int (nI (opn T P))), (3, .int (nI z)), (4, .int (nI (i + 1)))]) E dX6_oneRoadOn_95 4 rfl (by decide) rfl ?_
        refine z_goto E dX6_oneRoadOn_98 10 (by decide) ?_
        exact ih (i + 1) z (by omega) (by rw [orF, if_neg (show ¬ (opn T P).testBit i = true by rw [c2]; decide), ← hz]) (by omega)
      · have h67 := h67 c1
        refine z_iload_n E dX6_oneRoadOn_31 1 rfl rfl ?_
        refine z_aload_n E dX6_oneRoadOn_32 0 rfl rfl ?_
        refine gt_X6_19 (v := .ref a) E dX6_oneRoadOn_33 0 rfl rfl ?_
        refine gt_X6_105 (v := .ref (h 6)) E dX6_oneRoadOn_36 6 rfl rfl ?_
        refine z_iload E dX6_oneRoadOn_39 4 rfl ?_
        refine z_ialdN (f := (T.2 6)) E dX6_oneRoadOn_41 7 rfl (by omega) (by decide) ?_
        refine z_se E (rS E hX (c_X6_has g m ((T.2 6) i) (by omega) (by omega)) mw_X6_has ms_X6_has ml_X6_208 dX6_oneRoadOn_42 (Nat.le_of_ble_eq_true rfl) ⟨(Nat.le_of_ble_eq_true rfl), (Nat.le_of_ble_eq_true rfl)⟩ rfl rfl (Nat.le_of_ble_eq_true rfl)) ?_
        refine z_ifB_eq E dX6_oneRoadOn_45 63 (by decide) (fun c3 => ?_) (fun c3 => ?_)
        · refine z_iload_n E dX6_oneRoadOn_63 1 rfl rfl ?_
          refine z_aload_n E dX6_oneRoadOn_64 0 rfl rfl ?_
          refine gt_X6_19 (v := .ref a) E dX6_oneRoadOn_65 0 rfl rfl ?_
          refine gt_X6_108 (v := .ref (h 7)) E dX6_oneRoadOn_68 6 rfl rfl ?_
          refine z_iload E dX6_oneRoadOn_71 4 rfl ?_
          refine z_ialdN (f := (T.2 7)) E dX6_oneRoadOn_73 8 rfl (by omega) (by decide) ?_
          refine z_se E (rS E hX (c_X6_has g m ((T.2 7) i) (by omega) (by omega)) mw_X6_has ms_X6_has ml_X6_208 dX6_oneRoadOn_74 (Nat.le_of_ble_eq_true rfl) ⟨(Nat.le_of_ble_eq_true rfl), (Nat.le_of_ble_eq_true rfl)⟩ rfl rfl (Nat.le_of_ble_eq_true rfl)) ?_
          refine z_ifB_eq E dX6_oneRoadOn_77 95 (by decide) (fun c4 => ?_) (fun c4 => ?_)
          · refine z_iincN (lv' := [(0, .ref x), (1, .int (nI m)), (2, .int (nI (opn T P))), (3, .int (nI z)), (4, .int (nI (i + 1)))]) E dX6_oneRoadOn_95 4 rfl (by decide) rfl ?_
            refine z_goto E dX6_oneRoadOn_98 10 (by decide) ?_
            exact ih (i + 1) z (by omega) (by rw [orF, if_pos c2, if_neg (show ¬ m.testBit (T.2 7 i) = true by rw [c4]; decide), if_neg (show ¬ m.testBit (T.2 6 i) = true by rw [c3]; decide), ← hz]) (by omega)
          · refine z_iload_n E dX6_oneRoadOn_80 3 rfl rfl ?_
            refine z_iconst (v := (nI 1)) E dX6_oneRoadOn_81 (by decide) ?_
            refine z_aload_n E dX6_oneRoadOn_82 0 rfl rfl ?_
            refine gt_X6_19 (v := .ref a) E dX6_oneRoadOn_83 0 rfl rfl ?_
            refine gt_X6_105 (v := .ref (h 6)) E dX6_oneRoadOn_86 6 rfl rfl ?_
            refine z_iload E dX6_oneRoadOn_89 4 rfl ?_
            refine z_ialdN (f := (T.2 6)) E dX6_oneRoadOn_91 7 rfl (by omega) (by decide) ?_
            refine z_ishlN E dX6_oneRoadOn_92 (by omega) ?_
            refine z_iorN E dX6_oneRoadOn_93 ?_
            refine z_istore_n (lv' := [(0, .ref x), (1, .int (nI m)), (2, .int (nI (opn T P))), (3, .int (nI (z ||| (1 <<< ((T.2 6) i))))), (4, .int (nI i))]) E dX6_oneRoadOn_94 3 rfl (by decide) rfl ?_
            refine z_iincN (lv' := [(0, .ref x), (1, .int (nI m)), (2, .int (nI (opn T P))), (3, .int (nI (z ||| (1 <<< ((T.2 6) i))))), (4, .int (nI (i + 1)))]) E dX6_oneRoadOn_95 4 rfl (by decide) rfl ?_
            refine z_goto E dX6_oneRoadOn_98 10 (by decide) ?_
            exact ih (i + 1) (z ||| (1 <<< ((T.2 6) i))) (by omega) (by rw [orF, if_pos c2, if_pos c4, if_neg (show ¬ m.testBit (T.2 6 i) = true by rw [c3]; decide), ← hz]) (by omega)
        · refine z_iload_n E dX6_oneRoadOn_48 3 rfl rfl ?_
          refine z_iconst (v := (nI 1)) E dX6_oneRoadOn_49 (by decide) ?_
          refine z_aload_n E dX6_oneRoadOn_50 0 rfl rfl ?_
          refine gt_X6_19 (v := .ref a) E dX6_oneRoadOn_51 0 rfl rfl ?_
          refine gt_X6_108 (v := .ref (h 7)) E dX6_oneRoadOn_54 6 rfl rfl ?_
          refine z_iload E dX6_oneRoadOn_57 4 rfl ?_
          refine z_ialdN (f := (T.2 7)) E dX6_oneRoadOn_59 8 rfl (by omega) (by decide) ?_
          refine z_ishlN E dX6_oneRoadOn_60 (by omega) ?_
          refine z_iorN E dX6_oneRoadOn_61 ?_
          refine z_istore_n (lv' := [(0, .ref x), (1, .int (nI m)), (2, .int (nI (opn T P))), (3, .int (nI (z ||| (1 <<< ((T.2 7) i))))), (4, .int (nI i))]) E dX6_oneRoadOn_62 3 rfl (by decide) rfl ?_
          refine z_iload_n E dX6_oneRoadOn_63 1 rfl rfl ?_
          refine z_aload_n E dX6_oneRoadOn_64 0 rfl rfl ?_
          refine gt_X6_19 (v := .ref a) E dX6_oneRoadOn_65 0 rfl rfl ?_
          refine gt_X6_108 (v := .ref (h 7)) E dX6_oneRoadOn_68 6 rfl rfl ?_
          refine z_iload E dX6_oneRoadOn_71 4 rfl ?_
          refine z_ialdN (f := (T.2 7)) E dX6_oneRoadOn_73 8 rfl (by omega) (by decide) ?_
          refine z_se E (rS E hX (c_X6_has g m ((T.2 7) i) (by omega) (by omega)) mw_X6_has ms_X6_has ml_X6_208 dX6_oneRoadOn_74 (Nat.le_of_ble_eq_true rfl) ⟨(Nat.le_of_ble_eq_true rfl), (Nat.le_of_ble_eq_true rfl)⟩ rfl rfl (Nat.le_of_ble_eq_true rfl)) ?_
          refine z_ifB_eq E dX6_oneRoadOn_77 95 (by decide) (fun c4 => ?_) (fun c4 => ?_)
          · refine z_iincN (lv' := [(0, .ref x), (1, .int (nI m)), (2, .int (nI (opn T P))), (3, .int (nI (z ||| (1 <<< ((T.2 7) i))))), (4, .int (nI (i + 1)))]) E dX6_oneRoadOn_95 4 rfl (by decide) rfl ?_
            refine z_goto E dX6_oneRoadOn_98 10 (by decide) ?_
            exact ih (i + 1) (z ||| (1 <<< ((T.2 7) i))) (by omega) (by rw [orF, if_pos c2, if_neg (show ¬ m.testBit (T.2 7 i) = true by rw [c4]; decide), if_pos c3, ← hz]) (by omega)
          · refine z_iload_n E dX6_oneRoadOn_80 3 rfl rfl ?_
            refine z_iconst (v := (nI 1)) E dX6_oneRoadOn_81 (by decide) ?_
            refine z_aload_n E dX6_oneRoadOn_82 0 rfl rfl ?_
            refine gt_X6_19 (v := .ref a) E dX6_oneRoadOn_83 0 rfl rfl ?_
            refine gt_X6_105 (v := .ref (h 6)) E dX6_oneRoadOn_86 6 rfl rfl ?_
            refine z_iload E dX6_oneRoadOn_89 4 rfl ?_
            refine z_ialdN (f := (T.2 6)) E dX6_oneRoadOn_91 7 rfl (by omega) (by decide) ?_
            refine z_ishlN E dX6_oneRoadOn_92 (by omega) ?_
            refine z_iorN E dX6_oneRoadOn_93 ?_
            refine z_istore_n (lv' := [(0, .ref x), (1, .int (nI m)), (2, .int (nI (opn T P))), (3, .int (nI ((z ||| (1 <<< ((T.2 7) i))) ||| (1 <<< ((T.2 6) i))))), (4, .int (nI i))]) E dX6_oneRoadOn_94 3 rfl (by decide) rfl ?_
            refine z_iincN (lv' := [(0, .ref x), (1, .int (nI m)), (2, .int (nI (opn T P))), (3, .int (nI ((z ||| (1 <<< ((T.2 7) i))) ||| (1 <<< ((T.2 6) i))))), (4, .int (nI (i + 1)))]) E dX6_oneRoadOn_95 4 rfl (by decide) rfl ?_
            refine z_goto E dX6_oneRoadOn_98 10 (by decide) ?_
            exact ih (i + 1) ((z ||| (1 <<< ((T.2 7) i))) ||| (1 <<< ((T.2 6) i))) (by omega) (by rw [orF, if_pos c2, if_pos c4, if_pos c3, ← hz]) (by omega)

set_option maxHeartbeats 4000000 in
set_option maxRecDepth 100000 in
theorem c_X6_oneRoadOn (g : GC) (x : Nat) (y : Nat → Nat) (W : NS) (rd : Nat) (dr : Nat) (pa : Nat) (vo : Nat) (ch : Nat) (im : Nat → Nat) (a : Nat) (h : Nat → Nat) (T : NS) (p : Nat) (q : Nat → Nat) (P : NS) (m : Nat) (hT : tdI T) (hm : m < 2 ^ 31) : Ct g yX6_oneRoadOn cX6_oneRoadOn 5 (some .int) 2 0 0 [.ref x, .int (nI m)] (wTV g x y rd a dr p pa vo ch im W ++ (wTown g a h T ++ (wPres g p q P))) (DI (nI (orF T (opn T P) m (T.1 1))) (wTV g x y rd a dr p pa vo ch im W ++ (wTown g a h T ++ (wPres g p q P)))) := by
  refine Ct.of (by decide) (Nat.le_of_ble_eq_true rfl) ?_
  intro X E Er hX _ hnm
  have E : Ob g X cX6_oneRoadOn 5 RX6 := E
  have hR := hT.2.2.1
  refine z_lve (lv' := [(0, .ref x), (1, .int (nI m))]) rfl ?_
  refine z_aload_n E dX6_oneRoadOn_0 0 rfl rfl ?_
  refine z_ro0 E (rV E hX (c_X6_openRoads g x y W rd dr pa vo ch im a h T p q P (by assumption)) mw_X6_openRoads ml_X6_130 dX6_oneRoadOn_1 (Nat.le_of_ble_eq_true rfl) ⟨(Nat.le_of_ble_eq_true rfl), (Nat.le_of_ble_eq_true rfl)⟩ rfl rfl (Nat.le_of_ble_eq_true rfl) 0 rfl rfl) ?_
  refine z_istore_n (lv' := [(0, .ref x), (1, .int (nI m)), (2, .int (nI (opn T P)))]) E dX6_oneRoadOn_4 2 rfl (by decide) rfl ?_
  refine z_iconst (v := (nI 0)) E dX6_oneRoadOn_5 (by decide) ?_
  refine z_istore_n (lv' := [(0, .ref x), (1, .int (nI m)), (2, .int (nI (opn T P))), (3, .int (nI 0))]) E dX6_oneRoadOn_6 3 rfl (by decide) rfl ?_
  refine z_iconst (v := (nI 0)) E dX6_oneRoadOn_7 (by decide) ?_
  refine z_istore (lv' := [(0, .ref x), (1, .int (nI m)), (2, .int (nI (opn T P))), (3, .int (nI 0)), (4, .int (nI 0))]) E dX6_oneRoadOn_8 (by decide) rfl ?_
  refine l_oneOn g x y W rd dr pa vo ch im a h T p q P m hT hm X E hX (fun z hz => ?_) (T.1 1 + 1) 0 0 (by omega) rfl (by omega)
  refine z_iload_n E dX6_oneRoadOn_101 3 rfl rfl ?_
  refine z_iret E Er dX6_oneRoadOn_102 ?_
  exact ⟨by rw [hz], rfl⟩

set_option maxHeartbeats 4000000 in
set_option maxRecDepth 100000 in
theorem l_asSeen (g : GC) (x : Nat) (y : Nat → Nat) (W : NS) (rd : Nat) (mp : Nat) (dr : Nat) (pr : Nat) (pa : Nat) (vo : Nat) (ch : Nat) (im : Nat → Nat) (m : Nat) (s : Nat) (h11 : W.1 11 ≤ 5) (hs : s < 2 ^ 31) (h9 : ∀ i, i < W.1 11 → W.2 9 i ≤ 8 ∧ W.2 10 i < 8) (X : XC) (E : Ob g X cX6_asSeen 5 RX6) (hX : X.2.2.1 = zR 0 0 0) (K : ∀ (z : Nat), (z = asF W m s (W.1 11)) → Z g X 5 0 0 (wTV g x y rd mp dr pr pa vo ch im W) [(0, .ref x), (1, .int (nI m)), (2, .int (nI s)), (3, .int (nI z))] [] 43) : ∀ (n : Nat) (i : Nat) (z : Nat), (i ≤ W.1 11) → (z = asF W m s i) → (W.1 11 < i + n) → Z g X 5 0 0 (wTV g x y rd mp dr pr pa vo ch im W) [(0, .ref x), (1, .int (nI m)), (2, .int (nI s)), (3, .int (nI z)), (4, .int (nI i))] [] 5 := by
  intro n
  induction n with
  | zero =>
    intro i z hi hz hf
    exfalso; omega
  | succ n ih =>
    intro i z hi hz hf
    refine z_iload E dX6_asSeen_5 4 rfl ?_
    refine z_aload_n E dX6_asSeen_7 0 rfl rfl ?_
    refine gt_X6_226 (v := .int (nI (W.1 11))) E dX6_asSeen_8 0 rfl rfl ?_
    refine z_icmpN_ge E dX6_asSeen_11 43 (by decide) (by omega) (by omega) (fun c1 => ?_) (fun c1 => ?_)
    · refine z_lv [0, 1, 2, 3] rfl ?_; exact K z (by rw [hz, show i = W.1 11 by omega])
    · have h910 := h9 i c1
      refine z_aload_n E dX6_asSeen_14 0 rfl rfl ?_
      refine gt_X6_58 (v := .ref (y 9)) E dX6_asSeen_15 0 rfl rfl ?_
      refine z_iload E dX6_asSeen_18 4 rfl ?_
      refine z_ialdN (f := (W.2 9)) E dX6_asSeen_20 2 rfl (by omega) (by decide) ?_
      refine z_iload_n E dX6_asSeen_21 2 rfl rfl ?_
      refine z_icmpN_ne E dX6_asSeen_22 37 (by decide) (by omega) (by omega) (fun c2 => ?_) (fun c2 => ?_)
      · refine z_iincN (lv' := [(0, .ref x), (1, .int (nI m)), (2, .int (nI s)), (3, .int (nI z)), (4, .int (nI (i + 1)))]) E dX6_asSeen_37 4 rfl (by decide) rfl ?_
        refine z_goto E dX6_asSeen_40 5 (by decide) ?_
        exact ih (i + 1) z (by omega) (by rw [asF, if_neg c2, ← hz]) (by omega)
      · refine z_iload_n E dX6_asSeen_25 3 rfl rfl ?_
        refine z_iconst (v := (nI 1)) E dX6_asSeen_26 (by decide) ?_
        refine z_aload_n E dX6_asSeen_27 0 rfl rfl ?_
        refine gt_X6_61 (v := .ref (y 10)) E dX6_asSeen_28 0 rfl rfl ?_
        refine z_iload E dX6_asSeen_31 4 rfl ?_
        refine z_ialdN (f := (W.2 10)) E dX6_asSeen_33 3 rfl (by omega) (by decide) ?_
        refine z_ishlN E dX6_asSeen_34 (by omega) ?_
        refine z_iandN E dX6_asSeen_35 ?_
        refine z_istore_n (lv' := [(0, .ref x), (1, .int (nI m)), (2, .int (nI s)), (3, .int (nI (z &&& (1 <<< ((W.2 10) i))))), (4, .int (nI i))]) E dX6_asSeen_36 3 rfl (by decide) rfl ?_
        refine z_iincN (lv' := [(0, .ref x), (1, .int (nI m)), (2, .int (nI s)), (3, .int (nI (z &&& (1 <<< ((W.2 10) i))))), (4, .int (nI (i + 1)))]) E dX6_asSeen_37 4 rfl (by decide) rfl ?_
        refine z_goto E dX6_asSeen_40 5 (by decide) ?_
        exact ih (i + 1) (z &&& (1 <<< ((W.2 10) i))) (by omega) (by rw [asF, if_pos c2, ← hz]) (by omega)

set_option maxHeartbeats 4000000 in
set_option maxRecDepth 100000 in
theorem c_X6_asSeen (g : GC) (x : Nat) (y : Nat → Nat) (W : NS) (rd : Nat) (mp : Nat) (dr : Nat) (pr : Nat) (pa : Nat) (vo : Nat) (ch : Nat) (im : Nat → Nat) (m : Nat) (s : Nat) (h11 : W.1 11 ≤ 5) (hs : s < 2 ^ 31) (h9 : ∀ i, i < W.1 11 → W.2 9 i ≤ 8 ∧ W.2 10 i < 8) : Ct g yX6_asSeen cX6_asSeen 5 (some .int) 0 0 0 [.ref x, .int (nI m), .int (nI s)] (wTV g x y rd mp dr pr pa vo ch im W) (DI (nI (asF W m s (W.1 11))) (wTV g x y rd mp dr pr pa vo ch im W)) := by
  refine Ct.of (by decide) (Nat.le_of_ble_eq_true rfl) ?_
  intro X E Er hX _ hnm
  have E : Ob g X cX6_asSeen 5 RX6 := E
  refine z_lve (lv' := [(0, .ref x), (1, .int (nI m)), (2, .int (nI s))]) rfl ?_
  refine z_iload_n E dX6_asSeen_0 1 rfl rfl ?_
  refine z_istore_n (lv' := [(0, .ref x), (1, .int (nI m)), (2, .int (nI s)), (3, .int (nI m))]) E dX6_asSeen_1 3 rfl (by decide) rfl ?_
  refine z_iconst (v := (nI 0)) E dX6_asSeen_2 (by decide) ?_
  refine z_istore (lv' := [(0, .ref x), (1, .int (nI m)), (2, .int (nI s)), (3, .int (nI m)), (4, .int (nI 0))]) E dX6_asSeen_3 (by decide) rfl ?_
  refine l_asSeen g x y W rd mp dr pr pa vo ch im m s h11 hs h9 X E hX (fun z hz => ?_) (W.1 11 + 1) 0 m (by omega) rfl (by omega)
  refine z_iload_n E dX6_asSeen_43 3 rfl rfl ?_
  refine z_iret E Er dX6_asSeen_44 ?_
  exact ⟨by rw [hz], rfl⟩
