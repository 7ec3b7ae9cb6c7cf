set_option maxHeartbeats 4000000 in
set_option maxRecDepth 100000 in
theorem c_X5_placeOf (g : GC) (v : Nat) (k : Nat → Nat) (V : NS) (a : Nat) (h : Nat → Nat) (T : NS) (x : Nat) (hx : x < 24) : Ct g yX5_placeOf cX5_placeOf 3 (some .int) 0 0 0 [.ref v, .int (nI x)] (wVoice g v k a V ++ (wTown g a h T)) (DI (nI (plT T x)) (wVoice g v k a V ++ (wTown g a h T))) := by
  refine Ct.of (by decide) (Nat.le_of_ble_eq_true rfl) ?_
  intro X E Er hX _ hnm
  have E : Ob g X cX5_placeOf 3 RX5 := E
  refine z_lve (lv' := [(0, .ref v), (1, .int (nI x))]) rfl ?_
  refine z_iload_n E dX5_placeOf_0 1 rfl rfl ?_
  refine z_iconst (v := (nI 1)) E dX5_placeOf_1 (by decide) ?_
  refine z_ishr1N E dX5_placeOf_2 (by omega) ?_
  refine z_istore_n (lv' := [(0, .ref v), (1, .int (nI x)), (2, .int (nI (x / 2)))]) E dX5_placeOf_3 2 rfl (by decide) rfl ?_
  refine z_iload_n E dX5_placeOf_4 1 rfl rfl ?_
  refine z_iconst (v := (nI 1)) E dX5_placeOf_5 (by decide) ?_
  refine z_iand1N E dX5_placeOf_6 ?_
  refine z_ifN_ne E dX5_placeOf_7 22 (by decide) (by omega) (fun c1 => ?_) (fun c1 => ?_)
  · refine z_aload_n E dX5_placeOf_22 0 rfl rfl ?_
    refine gt_X5_12 (v := .ref a) E dX5_placeOf_23 0 rfl rfl ?_
    refine gt_X5_94 (v := .ref (h 7)) E dX5_placeOf_26 6 rfl rfl ?_
    refine z_iload_n E dX5_placeOf_29 2 rfl rfl ?_
    refine z_ialdN (f := (T.2 7)) E dX5_placeOf_30 8 rfl (by omega) (by decide) ?_
    refine z_iret E Er dX5_placeOf_31 ?_
    exact ⟨by simp [plT, c1], rfl⟩
  · refine z_aload_n E dX5_placeOf_10 0 rfl rfl ?_
    refine gt_X5_12 (v := .ref a) E dX5_placeOf_11 0 rfl rfl ?_
    refine gt_X5_91 (v := .ref (h 6)) E dX5_placeOf_14 6 rfl rfl ?_
    refine z_iload_n E dX5_placeOf_17 2 rfl rfl ?_
    refine z_ialdN (f := (T.2 6)) E dX5_placeOf_18 7 rfl (by omega) (by decide) ?_
    refine z_goto E dX5_placeOf_19 31 (by decide) ?_
    refine z_iret E Er dX5_placeOf_31 ?_
    exact ⟨by simp [plT, c1], rfl⟩

theorem lst_s {L : Nat → Nat} {i : Nat} : L i = lst L (i + 1) := by unfold lst; rw [if_neg (by omega)]; rfl
set_option maxHeartbeats 4000000 in
set_option maxRecDepth 100000 in
theorem l_nearest (g : GC) (v : Nat) (k : Nat → Nat) (V : NS) (t : Nat) (m : Nat) (hsV : sm V) (hm : m ≤ 24) (X : XC) (E : Ob g X cX5_nearestUnsettled 5 RX5) (hX : X.2.2.1 = zR 0 0 0) (K : ∀ (b : Nat), (b = nuF (V.2 3) (V.2 4) m) → Z g X 5 0 0 (wVoice g v k t V) [(0, .ref v), (1, .int (nI m)), (2, .int (cm b))] [] 53) : ∀ (n : Nat) (i : Nat) (b : Nat) (l : Nat), (i ≤ m) → (b = nuF (V.2 3) (V.2 4) i) → (l = lst (V.2 3) b) → (l < 2 ^ 31) → (m < i + n) → Z g X 5 0 0 (wVoice g v k t V) [(0, .ref v), (1, .int (nI m)), (2, .int (cm b)), (3, .int (nI l)), (4, .int (nI i))] [] 9 := by
  intro n
  induction n with
  | zero =>
    intro i b l hi hb hl hl2 hf
    exfalso; omega
  | succ n ih =>
    intro i b l hi hb hl hl2 hf
    refine z_iload E dX5_nearestUnsettled_9 4 rfl ?_
    refine z_iload_n E dX5_nearestUnsettled_11 1 rfl rfl ?_
    refine z_icmpN_ge E dX5_nearestUnsettled_12 53 (by decide) (by omega) (by omega) (fun c1 => ?_) (fun c1 => ?_)
    · refine z_lv [0, 1, 2] rfl ?_; exact K b (by rw [hb, show i = m by omega])
    · refine z_aload_n E dX5_nearestUnsettled_15 0 rfl rfl ?_
      refine gt_X5_25 (v := .ref (k 4)) E dX5_nearestUnsettled_16 0 rfl rfl ?_
      refine z_iload E dX5_nearestUnsettled_19 4 rfl ?_
      refine z_zaldN (f := (V.2 4)) E dX5_nearestUnsettled_21 3 rfl (by omega) (by decide) ?_
      refine z_ifN_ne E dX5_nearestUnsettled_22 47 (by decide) (hsV.2 _ _) (fun c2 => ?_) (fun c2 => ?_)
      · refine z_iincN (lv' := [(0, .ref v), (1, .int (nI m)), (2, .int (cm b)), (3, .int (nI l)), (4, .int (nI (i + 1)))]) E dX5_nearestUnsettled_47 4 rfl (by decide) rfl ?_
        refine z_goto E dX5_nearestUnsettled_50 9 (by decide) ?_
        exact ih (i + 1) b l (by omega) (by rw [nuF_s, ← hb, ← hl, if_neg (fun q => c2 q.1)]) hl hl2 (by omega)
      · refine z_aload_n E dX5_nearestUnsettled_25 0 rfl rfl ?_
        refine gt_X5_22 (v := .ref (k 3)) E dX5_nearestUnsettled_26 0 rfl rfl ?_
        refine z_iload E dX5_nearestUnsettled_29 4 rfl ?_
        refine z_ialdN (f := (V.2 3)) E dX5_nearestUnsettled_31 2 rfl (by omega) (by decide) ?_
        refine z_iload_n E dX5_nearestUnsettled_32 3 rfl rfl ?_
        refine z_icmpN_ge E dX5_nearestUnsettled_33 47 (by decide) (hsV.2 _ _) (by omega) (fun c3 => ?_) (fun c3 => ?_)
        · refine z_iincN (lv' := [(0, .ref v), (1, .int (nI m)), (2, .int (cm b)), (3, .int (nI l)), (4, .int (nI (i + 1)))]) E dX5_nearestUnsettled_47 4 rfl (by decide) rfl ?_
          refine z_goto E dX5_nearestUnsettled_50 9 (by decide) ?_
          exact ih (i + 1) b l (by omega) (by rw [nuF_s, ← hb, ← hl, if_neg (fun q => absurd q.2 (Nat.not_lt.mpr c3))]) hl hl2 (by omega)
        · refine z_iload E dX5_nearestUnsettled_36 4 rfl ?_
          refine z_istore_n (lv' := [(0, .ref v), (1, .int (nI m)), (2, .int (nI i)), (3, .int (nI l)), (4, .int (nI i))]) E dX5_nearestUnsettled_38 2 rfl (by decide) rfl ?_
          refine z_aload_n E dX5_nearestUnsettled_39 0 rfl rfl ?_
          refine gt_X5_22 (v := .ref (k 3)) E dX5_nearestUnsettled_40 0 rfl rfl ?_
          refine z_iload E dX5_nearestUnsettled_43 4 rfl ?_
          refine z_ialdN (f := (V.2 3)) E dX5_nearestUnsettled_45 2 rfl (by omega) (by decide) ?_
          refine z_istore_n (lv' := [(0, .ref v), (1, .int (nI m)), (2, .int (nI i)), (3, .int (nI ((V.2 3) i))), (4, .int (nI i))]) E dX5_nearestUnsettled_46 3 rfl (by decide) rfl ?_
          refine z_iincN (lv' := [(0, .ref v), (1, .int (nI m)), (2, .int (nI i)), (3, .int (nI ((V.2 3) i))), (4, .int (nI (i + 1)))]) E dX5_nearestUnsettled_47 4 rfl (by decide) rfl ?_
          refine z_goto E dX5_nearestUnsettled_50 9 (by decide) ?_
          exact ih (i + 1) (i + 1) ((V.2 3) i) (by omega) (by rw [nuF_s, ← hb, ← hl, if_pos ⟨c2, c3⟩]) lst_s (hsV.2 _ _) (by omega)

set_option maxHeartbeats 4000000 in
set_option maxRecDepth 100000 in
theorem c_X5_nearestUnsettled (g : GC) (v : Nat) (k : Nat → Nat) (V : NS) (t : Nat) (m : Nat) (hsV : sm V) (hm : m ≤ 24) : Ct g yX5_nearestUnsettled cX5_nearestUnsettled 5 (some .int) 0 0 0 [.ref v, .int (nI m)] (wVoice g v k t V) (DI (cm (nuF (V.2 3) (V.2 4) m)) (wVoice g v k t V)) := by
  refine Ct.of (by decide) (Nat.le_of_ble_eq_true rfl) ?_
  intro X E Er hX _ hnm
  have E : Ob g X cX5_nearestUnsettled 5 RX5 := E
  refine z_lve (lv' := [(0, .ref v), (1, .int (nI m))]) rfl ?_
  refine z_bipush (v := (-9)) E dX5_nearestUnsettled_0 (by decide) ?_
  refine z_istore_n (lv' := [(0, .ref v), (1, .int (nI m)), (2, .int (-9))]) E dX5_nearestUnsettled_2 2 rfl (by decide) rfl ?_
  refine z_ldc (v := nI 1000000) E dX5_nearestUnsettled_3 kc_X5_70 ?_
  refine z_istore_n (lv' := [(0, .ref v), (1, .int (nI m)), (2, .int (-9)), (3, .int (nI 1000000))]) E dX5_nearestUnsettled_5 3 rfl (by decide) rfl ?_
  refine z_iconst (v := (nI 0)) E dX5_nearestUnsettled_6 (by decide) ?_
  refine z_istore (lv' := [(0, .ref v), (1, .int (nI m)), (2, .int (-9)), (3, .int (nI 1000000)), (4, .int (nI 0))]) E dX5_nearestUnsettled_7 (by decide) rfl ?_
  refine l_nearest g v k V t m hsV hm X E hX (fun b hb => ?_) (m + 1) 0 0 1000000 (by omega) rfl rfl (by decide) (by omega)
  refine z_iload_n E dX5_nearestUnsettled_53 2 rfl rfl ?_
  refine z_iret E Er dX5_nearestUnsettled_54 ?_
  exact ⟨by rw [hb], rfl⟩

set_option maxHeartbeats 4000000 in
set_option maxRecDepth 100000 in
theorem l_before (g : GC) (v : Nat) (k : Nat → Nat) (V : NS) (a : Nat) (h : Nat → Nat) (T : NS) (x : Nat) (m : Nat) (hsV : sm V) (hsT : sm T) (hR : T.1 1 ≤ 12) (hx : x < 2 * T.1 1) (hm : m = 2 * T.1 1) (hL : ∀ a, V.2 3 a ≤ 1000000) (hc : ∀ r, V.2 2 r ≤ 1000000) (hn : T.1 4 ≤ 1000000) (X : XC) (E : Ob g X cX5_measureBefore 7 RX5) (hX : X.2.2.1 = zR 3 0 0) (K : ∀ (f : Nat → Nat), (f = rlx T (V.2 2) (V.2 3) x m) → Z g X 7 0 0 (wVoice g v k a (sA V 3 f) ++ (wTown g a h T)) [(0, .ref v), (1, .int (nI x)), (2, .int (nI m)), (3, .int (nI (x / 2))), (4, .int (nI (plT T (x ^^^ 1)))), (5, .int (nI (V.2 3 x + V.2 2 (x / 2))))] [] 110) : ∀ (n : Nat) (i : Nat) (f : Nat → Nat), (i ≤ m) → (f = rlx T (V.2 2) (V.2 3) x i) → (∀ a, f a ≤ 1000000) → (m < i + n) → Z g X 7 0 0 (wVoice g v k a (sA V 3 f) ++ (wTown g a h T)) [(0, .ref v), (1, .int (nI x)), (2, .int (nI m)), (3, .int (nI (x / 2))), (4, .int (nI (plT T (x ^^^ 1)))), (5, .int (nI (V.2 3 x + V.2 2 (x / 2)))), (6, .int (nI i))] [] 55 := by
  intro n
  induction n with
  | zero =>
    intro i f hi hf0 hfl hf
    have e1 := hL x
    have e2 := hc (x / 2)
    have e3 := nvT_le T (i / 2 + 1) (x / 2)
    have e4 := hfl i
    exfalso; omega
  | succ n ih =>
    intro i f hi hf0 hfl hf
    have e1 := hL x
    have e2 := hc (x / 2)
    have e3 := nvT_le T (i / 2 + 1) (x / 2)
    have e4 := hfl i
    refine z_iload E dX5_measureBefore_55 6 rfl ?_
    refine z_iload_n E dX5_measureBefore_57 2 rfl rfl ?_
    refine z_icmpN_ge E dX5_measureBefore_58 110 (by decide) (by omega) (by omega) (fun c1 => ?_) (fun c1 => ?_)
    · refine z_lv [0, 1, 2, 3, 4, 5] rfl ?_; exact K f (by rw [hf0, show i = m by omega])
    · refine z_aload_n E dX5_measureBefore_61 0 rfl rfl ?_
      refine z_iload E dX5_measureBefore_62 6 rfl ?_
      refine z_ro0 E (rV E hX (c_X5_placeOf g v k (sA V 3 f) a h T i (by omega)) mw_X5_placeOf ml_X5_63 dX5_measureBefore_64 (Nat.le_of_ble_eq_true rfl) ⟨(Nat.le_of_ble_eq_true rfl), (Nat.le_of_ble_eq_true rfl)⟩ rfl rfl (Nat.le_of_ble_eq_true rfl) 0 rfl rfl) ?_
      refine z_iload E dX5_measureBefore_67 4 rfl ?_
      refine z_icmpN_ne E dX5_measureBefore_69 104 (by decide) (plT_lt hsT _) (plT_lt hsT _) (fun c2 => ?_) (fun c2 => ?_)
      · refine z_iincN (lv' := [(0, .ref v), (1, .int (nI x)), (2, .int (nI m)), (3, .int (nI (x / 2))), (4, .int (nI (plT T (x ^^^ 1)))), (5, .int (nI (V.2 3 x + V.2 2 (x / 2)))), (6, .int (nI (i + 1)))]) E dX5_measureBefore_104 6 rfl (by decide) rfl ?_
        refine z_goto E dX5_measureBefore_107 55 (by decide) ?_
        exact ih (i + 1) f (by omega) (by rw [← rlx_n c2, ← hf0]) hfl (by omega)
      · refine z_aload_n E dX5_measureBefore_72 0 rfl rfl ?_
        refine gt_X5_22 (v := .ref (k 3)) E dX5_measureBefore_73 0 rfl rfl ?_
        refine z_iload E dX5_measureBefore_76 6 rfl ?_
        refine z_aload_n E dX5_measureBefore_78 0 rfl rfl ?_
        refine gt_X5_22 (v := .ref (k 3)) E dX5_measureBefore_79 0 rfl rfl ?_
        refine z_iload E dX5_measureBefore_82 6 rfl ?_
        refine z_ialdN (f := f) E dX5_measureBefore_84 2 rfl (by omega) (by decide) ?_
        refine z_iload E dX5_measureBefore_85 5 rfl ?_
        refine z_aload_n E dX5_measureBefore_87 0 rfl rfl ?_
        refine gt_X5_12 (v := .ref a) E dX5_measureBefore_88 0 rfl rfl ?_
        refine z_iload E dX5_measureBefore_91 6 rfl ?_
        refine z_iconst (v := (nI 1)) E dX5_measureBefore_93 (by decide) ?_
        refine z_ishr1N E dX5_measureBefore_94 (by omega) ?_
        refine z_iload_n E dX5_measureBefore_95 3 rfl rfl ?_
        refine z_ro E (rV E hX (c_X4_nervesFor g a h T ((i / 2) + 1) (x / 2) hsT (by omega) (by omega) (by omega)) mw_X4_nervesFor ml_X5_82 dX5_measureBefore_96 (Nat.le_of_ble_eq_true rfl) ⟨(Nat.le_of_ble_eq_true rfl), (Nat.le_of_ble_eq_true rfl)⟩ rfl rfl (Nat.le_of_ble_eq_true rfl) 0 rfl rfl) [6, 7, 8, 9, 10] rfl (by decide) ?_
        refine z_iaddN E dX5_measureBefore_99 ?_
        refine z_minN E hX dX5_measureBefore_100 ml_X5_86 (Nat.le_of_ble_eq_true rfl) (Nat.le_of_ble_eq_true rfl) ⟨(Nat.le_of_ble_eq_true rfl), (Nat.le_of_ble_eq_true rfl)⟩ (by omega) (by omega) ?_
        refine z_iastN (f := f) (i := i) (x := (min (f i) ((V.2 3 x + V.2 2 (x / 2)) + (nvT T ((i / 2) + 1) (x / 2))))) (ws' := wVoice g v k a (sA V 3 (va_up f i (min (f i) ((V.2 3 x + V.2 2 (x / 2)) + (nvT T ((i / 2) + 1) (x / 2)))))) ++ (wTown g a h T)) E dX5_measureBefore_103 2 rfl (by omega) (by decide) rfl ?_
        refine z_iincN (lv' := [(0, .ref v), (1, .int (nI x)), (2, .int (nI m)), (3, .int (nI (x / 2))), (4, .int (nI (plT T (x ^^^ 1)))), (5, .int (nI (V.2 3 x + V.2 2 (x / 2)))), (6, .int (nI (i + 1)))]) E dX5_measureBefore_104 6 rfl (by decide) rfl ?_
        refine z_goto E dX5_measureBefore_107 55 (by decide) ?_
        exact ih (i + 1) (va_up f i (min (f i) ((V.2 3 x + V.2 2 (x / 2)) + (nvT T ((i / 2) + 1) (x / 2))))) (by omega) (by rw [← rlx_y c2, ← hf0]) (fun a => by unfold va_up; split; omega; exact hfl a) (by omega)

set_option maxHeartbeats 4000000 in
set_option maxRecDepth 100000 in
theorem c_X5_measureBefore (g : GC) (v : Nat) (k : Nat → Nat) (V : NS) (a : Nat) (h : Nat → Nat) (T : NS) (x : Nat) (m : Nat) (hsV : sm V) (hsT : sm T) (hR : T.1 1 ≤ 12) (hx : x < 2 * T.1 1) (hm : m = 2 * T.1 1) (hL : ∀ a, V.2 3 a ≤ 1000000) (hc : ∀ r, V.2 2 r ≤ 1000000) (hn : T.1 4 ≤ 1000000) : Ct g yX5_measureBefore cX5_measureBefore 7 none 3 0 0 [.ref v, .int (nI x), .int (nI m)] (wVoice g v k a V ++ (wTown g a h T)) (DV (wVoice g v k a (sA V 3 (rlxT T (V.2 2) (V.1 1) (V.2 3) x)) ++ (wTown g a h T))) := by
  refine Ct.of (by decide) (Nat.le_of_ble_eq_true rfl) ?_
  intro X E Er hX _ hnm
  have E : Ob g X cX5_measureBefore 7 RX5 := E
  have hx24 : x < 24 := by omega
  have hxx := xor1_lt x hx24
  refine z_lve (lv' := [(0, .ref v), (1, .int (nI x)), (2, .int (nI m))]) rfl ?_
  refine z_iload_n E dX5_measureBefore_0 1 rfl rfl ?_
  refine z_iconst (v := (nI 1)) E dX5_measureBefore_1 (by decide) ?_
  refine z_ishr1N E dX5_measureBefore_2 (by omega) ?_
  refine z_istore_n (lv' := [(0, .ref v), (1, .int (nI x)), (2, .int (nI m)), (3, .int (nI (x / 2)))]) E dX5_measureBefore_3 3 rfl (by decide) rfl ?_
  refine z_aload_n E dX5_measureBefore_4 0 rfl rfl ?_
  refine z_iload_n E dX5_measureBefore_5 1 rfl rfl ?_
  refine z_iconst (v := (nI 1)) E dX5_measureBefore_6 (by decide) ?_
  refine z_ixorN E dX5_measureBefore_7 ?_
  refine z_ro0 E (rV E hX (c_X5_placeOf g v k V a h T (x ^^^ 1) (by omega)) mw_X5_placeOf ml_X5_63 dX5_measureBefore_8 (Nat.le_of_ble_eq_true rfl) ⟨(Nat.le_of_ble_eq_true rfl), (Nat.le_of_ble_eq_true rfl)⟩ rfl rfl (Nat.le_of_ble_eq_true rfl) 0 rfl rfl) ?_
  refine z_istore (lv' := [(0, .ref v), (1, .int (nI x)), (2, .int (nI m)), (3, .int (nI (x / 2))), (4, .int (nI (plT T (x ^^^ 1))))]) E dX5_measureBefore_11 (by decide) rfl ?_
  refine z_aload_n E dX5_measureBefore_13 0 rfl rfl ?_
  refine gt_X5_45 (v := .int (nI (V.1 1))) E dX5_measureBefore_14 0 rfl rfl ?_
  refine z_iload_n E dX5_measureBefore_17 3 rfl rfl ?_
  refine z_se E (rSN E hX (c_X6_has g (V.1 1) (x / 2) (hsV.1 _) (by omega)) mw_X6_has ms_X6_has mn_X5_78 dX5_measureBefore_18 (Nat.le_of_ble_eq_true rfl) ⟨(Nat.le_of_ble_eq_true rfl), (Nat.le_of_ble_eq_true rfl)⟩ rfl rfl (Nat.le_of_ble_eq_true rfl)) ?_
  refine z_ifB_eq E dX5_measureBefore_21 36 (by decide) (fun c1 => ?_) (fun c1 => ?_)
  · refine z_vret E Er dX5_measureBefore_36 ?_
    exact ⟨rfl, by unfold rlxT; rw [if_neg (fun q => by rw [c1] at q; exact absurd q.1 (by decide))]; rfl⟩
  · refine z_iload E dX5_measureBefore_24 4 rfl ?_
    refine z_aload_n E dX5_measureBefore_26 0 rfl rfl ?_
    refine gt_X5_12 (v := .ref a) E dX5_measureBefore_27 0 rfl rfl ?_
    refine gt_X5_67 (v := .int (nI (T.1 3))) E dX5_measureBefore_30 6 rfl rfl ?_
    refine z_icmpN_ne E dX5_measureBefore_33 37 (by decide) (plT_lt hsT _) (hsT.1 _) (fun c2 => ?_) (fun c2 => ?_)
    · refine z_aload_n E dX5_measureBefore_37 0 rfl rfl ?_
      refine gt_X5_22 (v := .ref (k 3)) E dX5_measureBefore_38 0 rfl rfl ?_
      refine z_iload_n E dX5_measureBefore_41 1 rfl rfl ?_
      refine z_ialdN (f := (V.2 3)) E dX5_measureBefore_42 2 rfl (by omega) (by decide) ?_
      refine z_aload_n E dX5_measureBefore_43 0 rfl rfl ?_
      refine gt_X5_18 (v := .ref (k 2)) E dX5_measureBefore_44 0 rfl rfl ?_
      refine z_iload_n E dX5_measureBefore_47 3 rfl rfl ?_
      refine z_ialdN (f := (V.2 2)) E dX5_measureBefore_48 1 rfl (by omega) (by decide) ?_
      refine z_iaddN E dX5_measureBefore_49 ?_
      refine z_istore (lv' := [(0, .ref v), (1, .int (nI x)), (2, .int (nI m)), (3, .int (nI (x / 2))), (4, .int (nI (plT T (x ^^^ 1)))), (5, .int (nI (((V.2 3) x) + ((V.2 2) (x / 2)))))]) E dX5_measureBefore_50 (by decide) rfl ?_
      refine z_iconst (v := (nI 0)) E dX5_measureBefore_52 (by decide) ?_
      refine z_istore (lv' := [(0, .ref v), (1, .int (nI x)), (2, .int (nI m)), (3, .int (nI (x / 2))), (4, .int (nI (plT T (x ^^^ 1)))), (5, .int (nI (((V.2 3) x) + ((V.2 2) (x / 2))))), (6, .int (nI 0))]) E dX5_measureBefore_53 (by decide) rfl ?_
      refine l_before g v k V a h T x m hsV hsT hR hx hm hL hc hn X E hX (fun f hf0 => ?_) (m + 1) 0 (V.2 3) (by omega) ((rlx_0 _ _ _ _).symm) hL (by omega)
      refine z_vret E Er dX5_measureBefore_110 ?_
      exact ⟨rfl, by unfold rlxT; rw [if_pos ⟨c1, c2⟩, ← hm, ← hf0]⟩
    · refine z_vret E Er dX5_measureBefore_36 ?_
      exact ⟨rfl, by unfold rlxT; rw [if_neg (fun q => q.2 c2)]; rfl⟩

def msP (T V V2 : NS) : Prop := ∃ L S : Nat → Nat, V2 = sA (sA V 3 L) 4 S ∧ Fix T (V.2 2) (V.1 1) L ∧ (∀ a, L a ≤ 1000000) ∧ ∀ a, S a ≤ 1

set_option maxHeartbeats 4000000 in
set_option maxRecDepth 100000 in
theorem l_meas1 (g : GC) (v : Nat) (k : Nat → Nat) (V : NS) (a : Nat) (h : Nat → Nat) (T : NS) (hsV : sm V) (hsT : sm T) (hw : wfT T) (hL : ∀ a, V.2 3 a ≤ 1000000) (hS : ∀ a, V.2 4 a ≤ 1) (hc : ∀ r, V.2 2 r ≤ 1000000) (hn : T.1 4 ≤ 1000000) (X : XC) (E : Ob g X cX5_measure 4 RX5) (hX : X.2.2.1 = zR 4 0 0) (K : ∀ (f : Nat → Nat) (s : Nat → Nat), (∀ a, a < 2 * T.1 1 → f a = if plT T a = T.1 3 then 0 else 1000000) → (∀ a, a < 2 * T.1 1 → s a = 0) → (∀ a, f a ≤ 1000000) → (∀ a, s a ≤ 1) → Z g X 4 0 0 (wVoice g v k a (sA (sA V 3 f) 4 s) ++ (wTown g a h T)) [(0, .ref v), (1, .int (nI (2 * T.1 1)))] [] 57) : ∀ (n : Nat) (i : Nat) (f : Nat → Nat) (s : Nat → Nat), (i ≤ 2 * T.1 1) → (∀ a, a < i → f a = if plT T a = T.1 3 then 0 else 1000000) → (∀ a, a < i → s a = 0) → (∀ a, f a ≤ 1000000) → (∀ a, s a ≤ 1) → (2 * T.1 1 < i + n) → Z g X 4 0 0 (wVoice g v k a (sA (sA V 3 f) 4 s) ++ (wTown g a h T)) [(0, .ref v), (1, .int (nI (2 * T.1 1))), (2, .int (nI i))] [] 12 := by
  intro n
  induction n with
  | zero =>
    intro i f s hi hf0 hs0 hfl hsl hf
    have hR := hw.1
    exfalso; omega
  | succ n ih =>
    intro i f s hi hf0 hs0 hfl hsl hf
    have hR := hw.1
    refine z_iload_n E dX5_measure_12 2 rfl rfl ?_
    refine z_iload_n E dX5_measure_13 1 rfl rfl ?_
    refine z_icmpN_ge E dX5_measure_14 57 (by decide) (by omega) (by omega) (fun c1 => ?_) (fun c1 => ?_)
    · refine z_lv [0, 1] rfl ?_; exact K f s (fun a ha => hf0 a (by omega)) (fun a ha => hs0 a (by omega)) hfl hsl
    · refine z_aload_n E dX5_measure_17 0 rfl rfl ?_
      refine gt_X5_22 (v := .ref (k 3)) E dX5_measure_18 0 rfl rfl ?_
      refine z_iload_n E dX5_measure_21 2 rfl rfl ?_
      refine z_aload_n E dX5_measure_22 0 rfl rfl ?_
      refine z_iload_n E dX5_measure_23 2 rfl rfl ?_
      refine z_ro0 E (rV E hX (c_X5_placeOf g v k (sA (sA V 3 f) 4 s) a h T i (by omega)) mw_X5_placeOf ml_X5_63 dX5_measure_24 (Nat.le_of_ble_eq_true rfl) ⟨(Nat.le_of_ble_eq_true rfl), (Nat.le_of_ble_eq_true rfl)⟩ rfl rfl (Nat.le_of_ble_eq_true rfl) 0 rfl rfl) ?_
      refine z_aload_n E dX5_measure_27 0 rfl rfl ?_
      refine gt_X5_12 (v := .ref a) E dX5_measure_28 0 rfl rfl ?_
      refine gt_X5_67 (v := .int (nI (T.1 3))) E dX5_measure_31 6 rfl rfl ?_
      refine z_icmpN_ne E dX5_measure_34 41 (by decide) (plT_lt hsT _) (hsT.1 _) (fun c2 => ?_) (fun c2 => ?_)
      · refine z_ldc (v := nI 1000000) E dX5_measure_41 kc_X5_70 ?_
        refine z_iastN (f := f) (i := i) (x := 1000000) (ws' := wVoice g v k a (sA (sA V 3 (va_up f i 1000000)) 4 s) ++ (wTown g a h T)) E dX5_measure_43 2 rfl (by omega) (by decide) rfl ?_
        refine z_aload_n E dX5_measure_44 0 rfl rfl ?_
        refine gt_X5_25 (v := .ref (k 4)) E dX5_measure_45 0 rfl rfl ?_
        refine z_iload_n E dX5_measure_48 2 rfl rfl ?_
        refine z_iconst (v := (nI 0)) E dX5_measure_49 (by decide) ?_
        refine z_zastN (f := s) (i := i) (x := 0) (ws' := wVoice g v k a (sA (sA V 3 (va_up f i 1000000)) 4 (va_up s i 0)) ++ (wTown g a h T)) E dX5_measure_50 3 rfl (by omega) (by decide) (by decide) rfl ?_
        refine z_iincN (lv' := [(0, .ref v), (1, .int (nI (2 * T.1 1))), (2, .int (nI (i + 1)))]) E dX5_measure_51 2 rfl (by decide) rfl ?_
        refine z_goto E dX5_measure_54 12 (by decide) ?_
        exact ih (i + 1) (va_up f i 1000000) (va_up s i 0) (by omega) (fun a ha => by unfold va_up; split; (rename_i e; rw [e, if_neg c2]); exact hf0 a (by omega)) (fun a ha => by unfold va_up; split; rfl; exact hs0 a (by omega)) (fun a => by unfold va_up; split; omega; exact hfl a) (fun a => by unfold va_up; split; omega; exact hsl a) (by omega)
      · refine z_iconst (v := (nI 0)) E dX5_measure_37 (by decide) ?_
        refine z_goto E dX5_measure_38 43 (by decide) ?_
        refine z_iastN (f := f) (i := i) (x := 0) (ws' := wVoice g v k a (sA (sA V 3 (va_up f i 0)) 4 s) ++ (wTown g a h T)) E dX5_measure_43 2 rfl (by omega) (by decide) rfl ?_
        refine z_aload_n E dX5_measure_44 0 rfl rfl ?_
        refine gt_X5_25 (v := .ref (k 4)) E dX5_measure_45 0 rfl rfl ?_
        refine z_iload_n E dX5_measure_48 2 rfl rfl ?_
        refine z_iconst (v := (nI 0)) E dX5_measure_49 (by decide) ?_
        refine z_zastN (f := s) (i := i) (x := 0) (ws' := wVoice g v k a (sA (sA V 3 (va_up f i 0)) 4 (va_up s i 0)) ++ (wTown g a h T)) E dX5_measure_50 3 rfl (by omega) (by decide) (by decide) rfl ?_
        refine z_iincN (lv' := [(0, .ref v), (1, .int (nI (2 * T.1 1))), (2, .int (nI (i + 1)))]) E dX5_measure_51 2 rfl (by decide) rfl ?_
        refine z_goto E dX5_measure_54 12 (by decide) ?_
        exact ih (i + 1) (va_up f i 0) (va_up s i 0) (by omega) (fun a ha => by unfold va_up; split; (rename_i e; rw [e, if_pos c2]); exact hf0 a (by omega)) (fun a ha => by unfold va_up; split; rfl; exact hs0 a (by omega)) (fun a => by unfold va_up; split; omega; exact hfl a) (fun a => by unfold va_up; split; omega; exact hsl a) (by omega)

set_option maxHeartbeats 4000000 in
set_option maxRecDepth 100000 in
theorem l_meas2 (g : GC) (v : Nat) (k : Nat → Nat) (V : NS) (a : Nat) (h : Nat → Nat) (T : NS) (hsV : sm V) (hsT : sm T) (hw : wfT T) (hL : ∀ a, V.2 3 a ≤ 1000000) (hS : ∀ a, V.2 4 a ≤ 1) (hc : ∀ r, V.2 2 r ≤ 1000000) (hn : T.1 4 ≤ 1000000) (X : XC) (E : Ob g X cX5_measure 4 RX5) (hX : X.2.2.1 = zR 4 0 0) (Er : Oe g X none (QV (fun w_ => ∃ V2 : NS, w_ = wVoice g v k a V2 ++ (wTown g a h T) ∧ msP T V V2)) 0 0) : ∀ (n : Nat) (i : Nat) (f : Nat → Nat) (s : Nat → Nat), (i ≤ cnt (fun a => decide (s a ≠ 0)) (2 * T.1 1)) → (DI1 T (V.2 2) (V.1 1) f s) → (∀ a, f a ≤ 1000000) → (∀ a, s a ≤ 1) → (2 * T.1 1 < i + n) → Z g X 4 0 0 (wVoice g v k a (sA (sA V 3 f) 4 s) ++ (wTown g a h T)) [(0, .ref v), (1, .int (nI (2 * T.1 1))), (2, .int (nI i))] [] 59 := by
  intro n
  induction n with
  | zero =>
    intro i f s hi hD hfl hsl hf
    have hR := hw.1
    have hcn := cnt_le (fun a => decide (s a ≠ 0)) (2 * T.1 1)
    have hnl := nuF_le f s (2 * T.1 1)
    exfalso; omega
  | succ n ih =>
    intro i f s hi hD hfl hsl hf
    have hR := hw.1
    have hcn := cnt_le (fun a => decide (s a ≠ 0)) (2 * T.1 1)
    have hnl := nuF_le f s (2 * T.1 1)
    refine z_iload_n E dX5_measure_59 2 rfl rfl ?_
    refine z_iload_n E dX5_measure_60 1 rfl rfl ?_
    refine z_icmpN_ge E dX5_measure_61 96 (by decide) (by omega) (by omega) (fun c1 => ?_) (fun c1 => ?_)
    · refine z_vret E Er dX5_measure_96 ?_
      exact ⟨rfl, _, rfl, f, s, rfl, DI1_end hw hD (fun a ha h0 => absurd (cnt_all (Nat.le_antisymm (cnt_le _ _) (Nat.le_trans c1 hi)) a ha) (by simp [h0])), hfl, hsl⟩
    · refine z_aload_n E dX5_measure_64 0 rfl rfl ?_
      refine z_iload_n E dX5_measure_65 1 rfl rfl ?_
      refine z_ro E (rV E hX (c_X5_nearestUnsettled g v k (sA (sA V 3 f) 4 s) a (2 * T.1 1) ((hsV.A (fun a => Nat.lt_of_le_of_lt (hfl a) (by decide))).A (fun a => Nat.lt_of_le_of_lt (hsl a) (by decide))) (by omega)) mw_X5_nearestUnsettled ml_X5_71 dX5_measure_66 (Nat.le_of_ble_eq_true rfl) ⟨(Nat.le_of_ble_eq_true rfl), (Nat.le_of_ble_eq_true rfl)⟩ rfl rfl (Nat.le_of_ble_eq_true rfl) 0 rfl rfl) [0, 1, 2, 3, 4, 5] rfl (by decide) ?_
      refine z_istore_n (lv' := [(0, .ref v), (1, .int (nI (2 * T.1 1))), (2, .int (nI i)), (3, .int (cm (nuF (f) (s) (2 * T.1 1))))]) E dX5_measure_69 3 rfl (by decide) rfl ?_
      refine z_iload_n E dX5_measure_70 3 rfl rfl ?_
      refine z_bipush (v := (-9)) E dX5_measure_71 (by decide) ?_
      refine z_icmpC_ne E dX5_measure_73 77 (by decide) (by have := nuF_le (f) (s) (2 * T.1 1); omega) (fun c2 => ?_) (fun c2 => ?_)
      · refine z_lve (lv' := [(0, .ref v), (1, .int (nI (2 * T.1 1))), (2, .int (nI i)), (3, .int (nI ((nuF (f) (s) (2 * T.1 1)) - 1)))]) (by rw [cm_pos c2]) ?_
        refine z_aload_n E dX5_measure_77 0 rfl rfl ?_
        refine gt_X5_25 (v := .ref (k 4)) E dX5_measure_78 0 rfl rfl ?_
        refine z_iload_n E dX5_measure_81 3 rfl rfl ?_
        refine z_iconst (v := (nI 1)) E dX5_measure_82 (by decide) ?_
        refine z_zastN (f := s) (i := ((nuF (f) (s) (2 * T.1 1)) - 1)) (x := 1) (ws' := wVoice g v k a (sA (sA V 3 f) 4 (va_up s ((nuF (f) (s) (2 * T.1 1)) - 1) 1)) ++ (wTown g a h T)) E dX5_measure_83 3 rfl (by omega) (by decide) (by decide) rfl ?_
        refine z_aload_n E dX5_measure_84 0 rfl rfl ?_
        refine z_iload_n E dX5_measure_85 3 rfl rfl ?_
        refine z_iload_n E dX5_measure_86 1 rfl rfl ?_
        refine z_rwv0 (w2 := wVoice g v k a (sA (sA V 3 (rlxT T (V.2 2) (V.1 1) f (nuF f s (2 * T.1 1) - 1))) 4 (va_up s (nuF f s (2 * T.1 1) - 1) 1)) ++ (wTown g a h T)) E (rV E hX (c_X5_measureBefore g v k (sA (sA V 3 f) 4 (va_up s ((nuF (f) (s) (2 * T.1 1)) - 1) 1)) a h T ((nuF (f) (s) (2 * T.1 1)) - 1) (2 * T.1 1) ((hsV.A (fun a => Nat.lt_of_le_of_lt (hfl a) (by decide))).A (fun a => Nat.lt_of_le_of_lt (show va_up s (nuF f s (2 * T.1 1) - 1) 1 a ≤ 1 from by unfold va_up; split; omega; exact hsl a) (by decide))) hsT (by omega) (by omega) rfl hfl hc hn) mw_X5_measureBefore ml_X5_74 dX5_measure_87 (Nat.le_of_ble_eq_true rfl) ⟨(Nat.le_of_ble_eq_true rfl), (Nat.le_of_ble_eq_true rfl)⟩ rfl rfl (Nat.le_of_ble_eq_true rfl) 0 rfl rfl) rfl ?_
        refine z_iincN (lv' := [(0, .ref v), (1, .int (nI (2 * T.1 1))), (2, .int (nI (i + 1))), (3, .int (nI ((nuF (f) (s) (2 * T.1 1)) - 1)))]) E dX5_measure_90 2 rfl (by decide) rfl ?_
        refine z_goto E dX5_measure_93 59 (by decide) ?_
        refine z_lv [0, 1, 2] rfl ?_; exact ih (i + 1) (rlxT T (V.2 2) (V.1 1) f (nuF f s (2 * T.1 1) - 1)) (va_up s (nuF f s (2 * T.1 1) - 1) 1) (by have := cnt_up (S := s) (x := (nuF f s (2 * T.1 1) - 1)) (n := 2 * T.1 1) (by omega) (nuF_n _ c2).1; omega) (DI1_step hw (by omega) hD (nuF_n _ c2).1 (nuF_n _ c2).2.2) (fun a => Nat.le_trans rlxT_le (hfl a)) (fun a => by unfold va_up; split; omega; exact hsl a) (by omega)
      · refine z_vret E Er dX5_measure_76 ?_
        exact ⟨rfl, _, rfl, f, s, rfl, DI1_end hw hD (nuF_0 _ c2), hfl, hsl⟩

set_option maxHeartbeats 4000000 in
set_option maxRecDepth 100000 in
theorem c_X5_measure (g : GC) (v : Nat) (k : Nat → Nat) (V : NS) (a : Nat) (h : Nat → Nat) (T : NS) (hsV : sm V) (hsT : sm T) (hw : wfT T) (hL : ∀ a, V.2 3 a ≤ 1000000) (hS : ∀ a, V.2 4 a ≤ 1) (hc : ∀ r, V.2 2 r ≤ 1000000) (hn : T.1 4 ≤ 1000000) : Ct g yX5_measure cX5_measure 4 none 4 0 0 [.ref v] (wVoice g v k a V ++ (wTown g a h T)) (QV (fun w_ => ∃ V2 : NS, w_ = wVoice g v k a V2 ++ (wTown g a h T) ∧ msP T V V2)) := by
  refine Ct.of (by decide) (Nat.le_of_ble_eq_true rfl) ?_
  intro X E Er hX _ hnm
  have E : Ob g X cX5_measure 4 RX5 := E
  refine z_lve (lv' := [(0, .ref v)]) rfl ?_
  refine z_iconst (v := (nI 2)) E dX5_measure_0 (by decide) ?_
  refine z_aload_n E dX5_measure_1 0 rfl rfl ?_
  refine gt_X5_12 (v := .ref a) E dX5_measure_2 0 rfl rfl ?_
  refine gt_X5_48 (v := .int (nI (T.1 1))) E dX5_measure_5 6 rfl rfl ?_
  refine z_imulN E dX5_measure_8 ?_
  refine z_istore_n (lv' := [(0, .ref v), (1, .int (nI (2 * (T.1 1))))]) E dX5_measure_9 1 rfl (by decide) rfl ?_
  refine z_iconst (v := (nI 0)) E dX5_measure_10 (by decide) ?_
  refine z_istore_n (lv' := [(0, .ref v), (1, .int (nI (2 * (T.1 1)))), (2, .int (nI 0))]) E dX5_measure_11 2 rfl (by decide) rfl ?_
  refine l_meas1 g v k V a h T hsV hsT hw hL hS hc hn X E hX (fun f s hf0 hs0 hfl hsl => ?_) (2 * T.1 1 + 1) 0 (V.2 3) (V.2 4) (by omega) (fun a ha => absurd ha (Nat.not_lt_zero a)) (fun a ha => absurd ha (Nat.not_lt_zero a)) hL hS (by omega)
  refine z_iconst (v := (nI 0)) E dX5_measure_57 (by decide) ?_
  refine z_istore_n (lv' := [(0, .ref v), (1, .int (nI (2 * T.1 1))), (2, .int (nI 0))]) E dX5_measure_58 2 rfl (by decide) rfl ?_
  exact l_meas2 g v k V a h T hsV hsT hw hL hS hc hn X E hX Er (2 * T.1 1 + 1) 0 f s (Nat.zero_le _) (DI1_init hf0 hs0) hfl hsl (by omega)

set_option maxHeartbeats 4000000 in
set_option maxRecDepth 100000 in
theorem c_X5_minutesBy (g : GC) (v : Nat) (k : Nat → Nat) (V : NS) (a : Nat) (h : Nat → Nat) (T : NS) (r : Nat) (p : Nat) (b : Nat) (hsV : sm V) (hsT : sm T) (hR : T.1 1 ≤ 12) (hL : ∀ a, V.2 3 a ≤ 1000000) (hc : ∀ r, V.2 2 r ≤ 1000000) (hn : T.1 4 ≤ 1000000) (hr : r < 12) (hp : p < 2 ^ 31) (hb : b < 2 ^ 31) : Ct g yX5_minutesBy cX5_minutesBy 5 (some .int) 3 0 0 [.ref v, .int (nI r), .int (nI p), .int (cm b)] (wVoice g v k a V ++ (wTown g a h T)) (DI (cm (mbE T (V.2 2) (V.2 3) b p r)) (wVoice g v k a V ++ (wTown g a h T))) := by
  refine Ct.of (by decide) (Nat.le_of_ble_eq_true rfl) ?_
  intro X E Er hX _ hnm
  have E : Ob g X cX5_minutesBy 5 RX5 := E
  refine z_lve (lv' := [(0, .ref v), (1, .int (nI r)), (2, .int (nI p)), (3, .int (cm b))]) rfl ?_
  refine z_aload_n E dX5_minutesBy_0 0 rfl rfl ?_
  refine gt_X5_12 (v := .ref a) E dX5_minutesBy_1 0 rfl rfl ?_
  refine gt_X5_91 (v := .ref (h 6)) E dX5_minutesBy_4 6 rfl rfl ?_
  refine z_iload_n E dX5_minutesBy_7 1 rfl rfl ?_
  refine z_ialdN (f := (T.2 6)) E dX5_minutesBy_8 7 rfl (by omega) (by decide) ?_
  refine z_iload_n E dX5_minutesBy_9 2 rfl rfl ?_
  refine z_icmpN_ne E dX5_minutesBy_10 21 (by decide) (hsT.2 _ _) (by omega) (fun c1 => ?_) (fun c1 => ?_)
  · refine z_iconst (v := (nI 2)) E dX5_minutesBy_21 (by decide) ?_
    refine z_iload_n E dX5_minutesBy_22 1 rfl rfl ?_
    refine z_imulN E dX5_minutesBy_23 ?_
    refine z_istore (lv' := [(0, .ref v), (1, .int (nI r)), (2, .int (nI p)), (3, .int (cm b)), (4, .int (nI (2 * r)))]) E dX5_minutesBy_24 (by decide) rfl ?_
    refine z_aload_n E dX5_minutesBy_26 0 rfl rfl ?_
    refine gt_X5_22 (v := .ref (k 3)) E dX5_minutesBy_27 0 rfl rfl ?_
    refine z_iload E dX5_minutesBy_30 4 rfl ?_
    refine z_ialdN (f := (V.2 3)) E dX5_minutesBy_32 2 rfl (by omega) (by decide) ?_
    refine z_ldc (v := nI 1000000) E dX5_minutesBy_33 kc_X5_70 ?_
    refine z_icmpN_lt E dX5_minutesBy_35 41 (by decide) (hsV.2 _ _) (by decide) (fun c2 => ?_) (fun c2 => ?_)
    · refine z_aload_n E dX5_minutesBy_41 0 rfl rfl ?_
      refine gt_X5_18 (v := .ref (k 2)) E dX5_minutesBy_42 0 rfl rfl ?_
      refine z_iload_n E dX5_minutesBy_45 1 rfl rfl ?_
      refine z_ialdN (f := (V.2 2)) E dX5_minutesBy_46 1 rfl (by omega) (by decide) ?_
      refine z_aload_n E dX5_minutesBy_47 0 rfl rfl ?_
      refine gt_X5_12 (v := .ref a) E dX5_minutesBy_48 0 rfl rfl ?_
      refine z_iload_n E dX5_minutesBy_51 3 rfl rfl ?_
      refine z_iload_n E dX5_minutesBy_52 1 rfl rfl ?_
      refine z_ro E (rV E hX (c_X4_nervesFor g a h T b r hsT (by omega) (by omega) (by omega)) mw_X4_nervesFor ml_X5_82 dX5_minutesBy_53 (Nat.le_of_ble_eq_true rfl) ⟨(Nat.le_of_ble_eq_true rfl), (Nat.le_of_ble_eq_true rfl)⟩ rfl rfl (Nat.le_of_ble_eq_true rfl) 0 rfl rfl) [6, 7, 8, 9, 10] rfl (by decide) ?_
      refine z_iaddN E dX5_minutesBy_56 ?_
      refine z_aload_n E dX5_minutesBy_57 0 rfl rfl ?_
      refine gt_X5_22 (v := .ref (k 3)) E dX5_minutesBy_58 0 rfl rfl ?_
      refine z_iload E dX5_minutesBy_61 4 rfl ?_
      refine z_ialdN (f := (V.2 3)) E dX5_minutesBy_63 2 rfl (by omega) (by decide) ?_
      refine z_iaddN E dX5_minutesBy_64 ?_
      refine z_iret E Er dX5_minutesBy_65 ?_
      exact ⟨by unfold mbE onT; rw [show arT T r p = 2 * r from by unfold arT; split <;> omega, if_neg (Nat.not_le.mpr c2)]; rfl, rfl⟩
    · refine z_bipush (v := (-9)) E dX5_minutesBy_38 (by decide) ?_
      refine z_iret E Er dX5_minutesBy_40 ?_
      exact ⟨by unfold mbE; rw [show arT T r p = 2 * r from by unfold arT; split <;> omega, if_pos c2]; rfl, rfl⟩
  · refine z_iconst (v := (nI 2)) E dX5_minutesBy_13 (by decide) ?_
    refine z_iload_n E dX5_minutesBy_14 1 rfl rfl ?_
    refine z_imulN E dX5_minutesBy_15 ?_
    refine z_iconst (v := (nI 1)) E dX5_minutesBy_16 (by decide) ?_
    refine z_iaddN E dX5_minutesBy_17 ?_
    refine z_goto E dX5_minutesBy_18 24 (by decide) ?_
    refine z_istore (lv' := [(0, .ref v), (1, .int (nI r)), (2, .int (nI p)), (3, .int (cm b)), (4, .int (nI ((2 * r) + 1)))]) E dX5_minutesBy_24 (by decide) rfl ?_
    refine z_aload_n E dX5_minutesBy_26 0 rfl rfl ?_
    refine gt_X5_22 (v := .ref (k 3)) E dX5_minutesBy_27 0 rfl rfl ?_
    refine z_iload E dX5_minutesBy_30 4 rfl ?_
    refine z_ialdN (f := (V.2 3)) E dX5_minutesBy_32 2 rfl (by omega) (by decide) ?_
    refine z_ldc (v := nI 1000000) E dX5_minutesBy_33 kc_X5_70 ?_
    refine z_icmpN_lt E dX5_minutesBy_35 41 (by decide) (hsV.2 _ _) (by decide) (fun c2 => ?_) (fun c2 => ?_)
    · refine z_aload_n E dX5_minutesBy_41 0 rfl rfl ?_
      refine gt_X5_18 (v := .ref (k 2)) E dX5_minutesBy_42 0 rfl rfl ?_
      refine z_iload_n E dX5_minutesBy_45 1 rfl rfl ?_
      refine z_ialdN (f := (V.2 2)) E dX5_minutesBy_46 1 rfl (by omega) (by decide) ?_
      refine z_aload_n E dX5_minutesBy_47 0 rfl rfl ?_
      refine gt_X5_12 (v := .ref a) E dX5_minutesBy_48 0 rfl rfl ?_
      refine z_iload_n E dX5_minutesBy_51 3 rfl rfl ?_
      refine z_iload_n E dX5_minutesBy_52 1 rfl rfl ?_
      refine z_ro E (rV E hX (c_X4_nervesFor g a h T b r hsT (by omega) (by omega) (by omega)) mw_X4_nervesFor ml_X5_82 dX5_minutesBy_53 (Nat.le_of_ble_eq_true rfl) ⟨(Nat.le_of_ble_eq_true rfl), (Nat.le_of_ble_eq_true rfl)⟩ rfl rfl (Nat.le_of_ble_eq_true rfl) 0 rfl rfl) [6, 7, 8, 9, 10] rfl (by decide) ?_
      refine z_iaddN E dX5_minutesBy_56 ?_
      refine z_aload_n E dX5_minutesBy_57 0 rfl rfl ?_
      refine gt_X5_22 (v := .ref (k 3)) E dX5_minutesBy_58 0 rfl rfl ?_
      refine z_iload E dX5_minutesBy_61 4 rfl ?_
      refine z_ialdN (f := (V.2 3)) E dX5_minutesBy_63 2 rfl (by omega) (by decide) ?_
      refine z_iaddN E dX5_minutesBy_64 ?_
      refine z_iret E Er dX5_minutesBy_65 ?_
      exact ⟨by unfold mbE onT; rw [show arT T r p = 2 * r + 1 from by unfold arT; split <;> omega, if_neg (Nat.not_le.mpr c2)]; rfl, rfl⟩
    · refine z_bipush (v := (-9)) E dX5_minutesBy_38 (by decide) ?_
      refine z_iret E Er dX5_minutesBy_40 ?_
      exact ⟨by unfold mbE; rw [show arT T r p = 2 * r + 1 from by unfold arT; split <;> omega, if_pos c2]; rfl, rfl⟩

set_option maxHeartbeats 4000000 in
set_option maxRecDepth 100000 in
theorem l_first (g : GC) (v : Nat) (k : Nat → Nat) (V : NS) (a : Nat) (h : Nat → Nat) (T : NS) (p : Nat) (b : Nat) (hsV : sm V) (hsT : sm T) (hR : T.1 1 ≤ 12) (hL : ∀ a, V.2 3 a ≤ 1000000) (hc : ∀ r, V.2 2 r ≤ 1000000) (hn : T.1 4 ≤ 1000000) (hp : p < 2 ^ 31) (hb : b < 2 ^ 31) (X : XC) (E : Ob g X cX5_firstRoad 7 RX5) (hX : X.2.2.1 = zR 4 0 0) (K : ∀ (f : Nat), (f = frT T (V.2 2) (V.1 1) (V.2 3) b p (T.1 1)) → Z g X 7 0 0 (wVoice g v k a V ++ (wTown g a h T)) [(0, .ref v), (1, .int (nI p)), (2, .int (cm b)), (3, .int (cm f))] [] 84) : ∀ (n : Nat) (i : Nat) (f : Nat) (l : Nat), (i ≤ T.1 1) → (f = frT T (V.2 2) (V.1 1) (V.2 3) b p i) → (l = farL T (V.2 2) (V.1 1) (V.2 3) b p i) → (T.1 1 < i + n) → Z g X 7 0 0 (wVoice g v k a V ++ (wTown g a h T)) [(0, .ref v), (1, .int (nI p)), (2, .int (cm b)), (3, .int (cm f)), (4, .int (nI l)), (5, .int (nI i))] [] 10 := by
  intro n
  induction n with
  | zero =>
    intro i f l hi hfr hl hf
    have hll := farL_le T (V.2 2) (V.1 1) (V.2 3) b p i
    have hl3 : l < 2 ^ 31 := by omega
    exfalso; omega
  | succ n ih =>
    intro i f l hi hfr hl hf
    have hll := farL_le T (V.2 2) (V.1 1) (V.2 3) b p i
    have hl3 : l < 2 ^ 31 := by omega
    refine z_iload E dX5_firstRoad_10 5 rfl ?_
    refine z_aload_n E dX5_firstRoad_12 0 rfl rfl ?_
    refine gt_X5_12 (v := .ref a) E dX5_firstRoad_13 0 rfl rfl ?_
    refine gt_X5_48 (v := .int (nI (T.1 1))) E dX5_firstRoad_16 6 rfl rfl ?_
    refine z_icmpN_ge E dX5_firstRoad_19 84 (by decide) (by omega) (hsT.1 _) (fun c1 => ?_) (fun c1 => ?_)
    · refine z_lv [0, 1, 2, 3] rfl ?_; exact K f (by rw [hfr, show i = T.1 1 by omega])
    · refine z_aload_n E dX5_firstRoad_22 0 rfl rfl ?_
      refine gt_X5_45 (v := .int (nI (V.1 1))) E dX5_firstRoad_23 0 rfl rfl ?_
      refine z_iload E dX5_firstRoad_26 5 rfl ?_
      refine z_se E (rSN E hX (c_X6_has g (V.1 1) i (hsV.1 _) (by omega)) mw_X6_has ms_X6_has mn_X5_78 dX5_firstRoad_28 (Nat.le_of_ble_eq_true rfl) ⟨(Nat.le_of_ble_eq_true rfl), (Nat.le_of_ble_eq_true rfl)⟩ rfl rfl (Nat.le_of_ble_eq_true rfl)) ?_
      refine z_ifB_eq E dX5_firstRoad_31 78 (by decide) (fun c2 => ?_) (fun c2 => ?_)
      · refine z_iincN (lv' := [(0, .ref v), (1, .int (nI p)), (2, .int (cm b)), (3, .int (cm f)), (4, .int (nI l)), (5, .int (nI (i + 1)))]) E dX5_firstRoad_78 5 rfl (by decide) rfl ?_
        refine z_goto E dX5_firstRoad_81 10 (by decide) ?_
        exact ih (i + 1) f l (by omega) (by rw [frT_s, if_neg (fun q => by unfold okR at q; rw [c2] at q; exact absurd q.1 (by simp))]; exact hfr) (by rw [farL_s, if_neg (by unfold okR; rw [c2]; simp)]; exact hl) (by omega)
      · refine z_aload_n E dX5_firstRoad_34 0 rfl rfl ?_
        refine gt_X5_12 (v := .ref a) E dX5_firstRoad_35 0 rfl rfl ?_
        refine z_iload E dX5_firstRoad_38 5 rfl ?_
        refine z_iload_n E dX5_firstRoad_40 1 rfl rfl ?_
        refine z_ro E (rV E hX (c_X4_meets g a h T i p hsT (by omega) (by omega)) mw_X4_meets ml_X5_97 dX5_firstRoad_41 (Nat.le_of_ble_eq_true rfl) ⟨(Nat.le_of_ble_eq_true rfl), (Nat.le_of_ble_eq_true rfl)⟩ rfl rfl (Nat.le_of_ble_eq_true rfl) 0 rfl rfl) [6, 7, 8, 9, 10] rfl (by decide) ?_
        refine z_ifB_eq E dX5_firstRoad_44 78 (by decide) (fun c3 => ?_) (fun c3 => ?_)
        · refine z_iincN (lv' := [(0, .ref v), (1, .int (nI p)), (2, .int (cm b)), (3, .int (cm f)), (4, .int (nI l)), (5, .int (nI (i + 1)))]) E dX5_firstRoad_78 5 rfl (by decide) rfl ?_
          refine z_goto E dX5_firstRoad_81 10 (by decide) ?_
          exact ih (i + 1) f l (by omega) (by rw [frT_s, if_neg (fun q => by unfold okR at q; rw [c3] at q; exact absurd q.1 (by simp))]; exact hfr) (by rw [farL_s, if_neg (by unfold okR; rw [c3]; simp)]; exact hl) (by omega)
        · refine z_aload_n E dX5_firstRoad_47 0 rfl rfl ?_
          refine z_iload E dX5_firstRoad_48 5 rfl ?_
          refine z_iload_n E dX5_firstRoad_50 1 rfl rfl ?_
          refine z_iload_n E dX5_firstRoad_51 2 rfl rfl ?_
          refine z_ro0 E (rV E hX (c_X5_minutesBy g v k V a h T i p b hsV hsT (by omega) hL hc (by omega) (by omega) (by omega) (by omega)) mw_X5_minutesBy ml_X5_100 dX5_firstRoad_52 (Nat.le_of_ble_eq_true rfl) ⟨(Nat.le_of_ble_eq_true rfl), (Nat.le_of_ble_eq_true rfl)⟩ rfl rfl (Nat.le_of_ble_eq_true rfl) 0 rfl rfl) ?_
          refine z_istore (lv' := [(0, .ref v), (1, .int (nI p)), (2, .int (cm b)), (3, .int (cm f)), (4, .int (nI l)), (5, .int (nI i)), (6, .int (cm (mbE T ((V.2 2)) ((V.2 3)) b p i)))]) E dX5_firstRoad_55 (by decide) rfl ?_
          refine z_iload E dX5_firstRoad_57 6 rfl ?_
          refine z_bipush (v := (-9)) E dX5_firstRoad_59 (by decide) ?_
          refine z_icmpC_eq E dX5_firstRoad_61 78 (by decide) (mbE_lt hL hc hn) (fun c4 => ?_) (fun c4 => ?_)
          · have h4L : 1000000 ≤ V.2 3 (arT T i p) := by unfold mbE at c4; split at c4; assumption; cases c4
            refine z_iincN (lv' := [(0, .ref v), (1, .int (nI p)), (2, .int (cm b)), (3, .int (cm f)), (4, .int (nI l)), (5, .int (nI (i + 1))), (6, .int (cm (mbE T ((V.2 2)) ((V.2 3)) b p i)))]) E dX5_firstRoad_78 5 rfl (by decide) rfl ?_
            refine z_goto E dX5_firstRoad_81 10 (by decide) ?_
            refine z_lv [0, 1, 2, 3, 4, 5] rfl ?_; exact ih (i + 1) f l (by omega) (by rw [frT_s, if_neg (fun q => absurd q.2 (by have := farL_le T (V.2 2) (V.1 1) (V.2 3) b p i; unfold onT; omega))]; exact hfr) (by rw [farL_s, if_pos (by unfold okR; rw [c2, c3]; rfl), ← hl]; have := farL_le T (V.2 2) (V.1 1) (V.2 3) b p i; unfold onT; omega) (by omega)
          · have hmb : mbE T (V.2 2) (V.2 3) b p i = onT T (V.2 2) (V.2 3) b p i + 1 := by unfold mbE at c4 ⊢; split at c4; exact absurd rfl c4; rw [if_neg (by assumption)]
            refine z_lve (lv' := [(0, .ref v), (1, .int (nI p)), (2, .int (cm b)), (3, .int (cm f)), (4, .int (nI l)), (5, .int (nI i)), (6, .int (nI (onT T (V.2 2) (V.2 3) b p i)))]) (by rw [hmb]; rfl) ?_
            refine z_iload E dX5_firstRoad_64 6 rfl ?_
            refine z_iload E dX5_firstRoad_66 4 rfl ?_
            refine z_icmpN_ge E dX5_firstRoad_68 78 (by decide) (by have := onT_le (T := T) (b := b) (p := p) (r := i) hL hc hn; omega) (by omega) (fun c5 => ?_) (fun c5 => ?_)
            · refine z_iincN (lv' := [(0, .ref v), (1, .int (nI p)), (2, .int (cm b)), (3, .int (cm f)), (4, .int (nI l)), (5, .int (nI (i + 1))), (6, .int (nI (onT T (V.2 2) (V.2 3) b p i)))]) E dX5_firstRoad_78 5 rfl (by decide) rfl ?_
              refine z_goto E dX5_firstRoad_81 10 (by decide) ?_
              refine z_lv [0, 1, 2, 3, 4, 5] rfl ?_; exact ih (i + 1) f l (by omega) (by rw [frT_s, ← hl, if_neg (fun q => absurd q.2 (Nat.not_lt.mpr c5))]; exact hfr) (by rw [farL_s, if_pos (by unfold okR; rw [c2, c3]; rfl), ← hl]; omega) (by omega)
            · refine z_iload E dX5_firstRoad_71 5 rfl ?_
              refine z_istore_n (lv' := [(0, .ref v), (1, .int (nI p)), (2, .int (cm b)), (3, .int (nI i)), (4, .int (nI l)), (5, .int (nI i)), (6, .int (nI (onT T (V.2 2) (V.2 3) b p i)))]) E dX5_firstRoad_73 3 rfl (by decide) rfl ?_
              refine z_iload E dX5_firstRoad_74 6 rfl ?_
              refine z_istore (lv' := [(0, .ref v), (1, .int (nI p)), (2, .int (cm b)), (3, .int (nI i)), (4, .int (nI (onT T (V.2 2) (V.2 3) b p i))), (5, .int (nI i)), (6, .int (nI (onT T (V.2 2) (V.2 3) b p i)))]) E dX5_firstRoad_76 (by decide) rfl ?_
              refine z_iincN (lv' := [(0, .ref v), (1, .int (nI p)), (2, .int (cm b)), (3, .int (nI i)), (4, .int (nI (onT T (V.2 2) (V.2 3) b p i))), (5, .int (nI (i + 1))), (6, .int (nI (onT T (V.2 2) (V.2 3) b p i)))]) E dX5_firstRoad_78 5 rfl (by decide) rfl ?_
              refine z_goto E dX5_firstRoad_81 10 (by decide) ?_
              refine z_lv [0, 1, 2, 3, 4, 5] rfl ?_; exact ih (i + 1) (i + 1) (onT T (V.2 2) (V.2 3) b p i) (by omega) (by rw [frT_s, ← hl, if_pos ⟨by unfold okR; rw [c2, c3]; rfl, c5⟩]) (by rw [farL_s, if_pos (by unfold okR; rw [c2, c3]; rfl), ← hl]; omega) (by omega)

set_option maxHeartbeats 4000000 in
set_option maxRecDepth 100000 in
theorem c_X5_firstRoad (g : GC) (v : Nat) (k : Nat → Nat) (V : NS) (a : Nat) (h : Nat → Nat) (T : NS) (p : Nat) (b : Nat) (hsV : sm V) (hsT : sm T) (hR : T.1 1 ≤ 12) (hL : ∀ a, V.2 3 a ≤ 1000000) (hc : ∀ r, V.2 2 r ≤ 1000000) (hn : T.1 4 ≤ 1000000) (hp : p < 2 ^ 31) (hb : b < 2 ^ 31) : Ct g yX5_firstRoad cX5_firstRoad 7 (some .int) 4 0 0 [.ref v, .int (nI p), .int (cm b)] (wVoice g v k a V ++ (wTown g a h T)) (DI (cm (frT T (V.2 2) (V.1 1) (V.2 3) b p (T.1 1))) (wVoice g v k a V ++ (wTown g a h T))) := by
  refine Ct.of (by decide) (Nat.le_of_ble_eq_true rfl) ?_
  intro X E Er hX _ hnm
  have E : Ob g X cX5_firstRoad 7 RX5 := E
  refine z_lve (lv' := [(0, .ref v), (1, .int (nI p)), (2, .int (cm b))]) rfl ?_
  refine z_bipush (v := (-9)) E dX5_firstRoad_0 (by decide) ?_
  refine z_istore_n (lv' := [(0, .ref v), (1, .int (nI p)), (2, .int (cm b)), (3, .int (-9))]) E dX5_firstRoad_2 3 rfl (by decide) rfl ?_
  refine z_ldc (v := nI 1000000) E dX5_firstRoad_3 kc_X5_70 ?_
  refine z_istore (lv' := [(0, .ref v), (1, .int (nI p)), (2, .int (cm b)), (3, .int (-9)), (4, .int (nI 1000000))]) E dX5_firstRoad_5 (by decide) rfl ?_
  refine z_iconst (v := (nI 0)) E dX5_firstRoad_7 (by decide) ?_
  refine z_istore (lv' := [(0, .ref v), (1, .int (nI p)), (2, .int (cm b)), (3, .int (-9)), (4, .int (nI 1000000)), (5, .int (nI 0))]) E dX5_firstRoad_8 (by decide) rfl ?_
  refine l_first g v k V a h T p b hsV hsT hR hL hc hn hp hb X E hX (fun f hfr => ?_) (T.1 1 + 1) 0 0 1000000 (by omega) rfl rfl (by omega)
  refine z_iload_n E dX5_firstRoad_84 3 rfl rfl ?_
  refine z_iret E Er dX5_firstRoad_85 ?_
  exact ⟨by rw [hfr], rfl⟩

theorem mf_mb {T : NS} {c : Nat → Nat} {o : Nat} {L : Nat → Nat} {b p : Nat} (hg : p ≠ T.1 3) (h0 : frT T c o L b p (T.1 1) ≠ 0) : mfE T c o L b p = mbE T c L b p (frT T c o L b p (T.1 1) - 1) := by
  obtain ⟨h1, h2, h3⟩ := frT_on (T.1 1) h0
  have h4 : farL T c o L b p (T.1 1) ≠ 1000000 := fun e => h0 ((frT_0 _).mpr e)
  have h5 := farL_le T c o L b p (T.1 1)
  unfold mfE mbE farT
  rw [if_neg hg, if_neg h4, if_neg (by unfold onT at h3; omega), h3]

set_option maxHeartbeats 4000000 in
set_option maxRecDepth 100000 in
theorem c_X5_minutesFrom (g : GC) (v : Nat) (k : Nat → Nat) (V : NS) (a : Nat) (h : Nat → Nat) (T : NS) (p : Nat) (b : Nat) (hsV : sm V) (hsT : sm T) (hR : T.1 1 ≤ 12) (hL : ∀ a, V.2 3 a ≤ 1000000) (hc : ∀ r, V.2 2 r ≤ 1000000) (hn : T.1 4 ≤ 1000000) (hp : p < 2 ^ 31) (hb : b < 2 ^ 31) : Ct g yX5_minutesFrom cX5_minutesFrom 4 (some .int) 5 0 0 [.ref v, .int (nI p), .int (cm b)] (wVoice g v k a V ++ (wTown g a h T)) (DI (cm (mfE T (V.2 2) (V.1 1) (V.2 3) b p)) (wVoice g v k a V ++ (wTown g a h T))) := by
  refine Ct.of (by decide) (Nat.le_of_ble_eq_true rfl) ?_
  intro X E Er hX _ hnm
  have E : Ob g X cX5_minutesFrom 4 RX5 := E
  have hfl := frT_le T (V.2 2) (V.1 1) (V.2 3) b p (T.1 1)
  refine z_lve (lv' := [(0, .ref v), (1, .int (nI p)), (2, .int (cm b))]) rfl ?_
  refine z_iload_n E dX5_minutesFrom_0 1 rfl rfl ?_
  refine z_aload_n E dX5_minutesFrom_1 0 rfl rfl ?_
  refine gt_X5_12 (v := .ref a) E dX5_minutesFrom_2 0 rfl rfl ?_
  refine gt_X5_67 (v := .int (nI (T.1 3))) E dX5_minutesFrom_5 6 rfl rfl ?_
  refine z_icmpN_ne E dX5_minutesFrom_8 13 (by decide) (by omega) (hsT.1 _) (fun c1 => ?_) (fun c1 => ?_)
  · refine z_aload_n E dX5_minutesFrom_13 0 rfl rfl ?_
    refine z_iload_n E dX5_minutesFrom_14 1 rfl rfl ?_
    refine z_iload_n E dX5_minutesFrom_15 2 rfl rfl ?_
    refine z_ro0 E (rV E hX (c_X5_firstRoad g v k V a h T p b hsV hsT (by omega) hL hc (by omega) (by omega) (by omega)) mw_X5_firstRoad ml_X5_104 dX5_minutesFrom_16 (Nat.le_of_ble_eq_true rfl) ⟨(Nat.le_of_ble_eq_true rfl), (Nat.le_of_ble_eq_true rfl)⟩ rfl rfl (Nat.le_of_ble_eq_true rfl) 0 rfl rfl) ?_
    refine z_istore_n (lv' := [(0, .ref v), (1, .int (nI p)), (2, .int (cm b)), (3, .int (cm (frT T ((V.2 2)) ((V.1 1)) ((V.2 3)) b p ((T.1 1)))))]) E dX5_minutesFrom_19 3 rfl (by decide) rfl ?_
    refine z_iload_n E dX5_minutesFrom_20 3 rfl rfl ?_
    refine z_bipush (v := (-9)) E dX5_minutesFrom_21 (by decide) ?_
    refine z_icmpC_ne E dX5_minutesFrom_23 31 (by decide) (by have := frT_le T ((V.2 2)) ((V.1 1)) ((V.2 3)) b p ((T.1 1)); omega) (fun c2 => ?_) (fun c2 => ?_)
    · refine z_lve (lv' := [(0, .ref v), (1, .int (nI p)), (2, .int (cm b)), (3, .int (nI ((frT T ((V.2 2)) ((V.1 1)) ((V.2 3)) b p ((T.1 1))) - 1)))]) (by rw [cm_pos c2]) ?_
      refine z_aload_n E dX5_minutesFrom_31 0 rfl rfl ?_
      refine z_iload_n E dX5_minutesFrom_32 3 rfl rfl ?_
      refine z_iload_n E dX5_minutesFrom_33 1 rfl rfl ?_
      refine z_iload_n E dX5_minutesFrom_34 2 rfl rfl ?_
      refine z_ro0 E (rV E hX (c_X5_minutesBy g v k V a h T ((frT T ((V.2 2)) ((V.1 1)) ((V.2 3)) b p ((T.1 1))) - 1) p b hsV hsT (by omega) hL hc (by omega) (by omega) (by omega) (by omega)) mw_X5_minutesBy ml_X5_100 dX5_minutesFrom_35 (Nat.le_of_ble_eq_true rfl) ⟨(Nat.le_of_ble_eq_true rfl), (Nat.le_of_ble_eq_true rfl)⟩ rfl rfl (Nat.le_of_ble_eq_true rfl) 0 rfl rfl) ?_
      refine z_iret E Er dX5_minutesFrom_38 ?_
      exact ⟨by rw [mf_mb c1 c2], rfl⟩
    · refine z_bipush (v := (-9)) E dX5_minutesFrom_26 (by decide) ?_
      refine z_goto E dX5_minutesFrom_28 38 (by decide) ?_
      refine z_iret E Er dX5_minutesFrom_38 ?_
      exact ⟨by unfold mfE farT; rw [if_neg c1, if_pos ((frT_0 _).mp c2)]; rfl, rfl⟩
  · refine z_iconst (v := (nI 0)) E dX5_minutesFrom_11 (by decide) ?_
    refine z_iret E Er dX5_minutesFrom_12 ?_
    exact ⟨by unfold mfE farT; rw [if_pos c1, if_neg (by decide)]; rfl, rfl⟩

def opn (T P : NS) : Nat := (1 <<< T.1 1 - 1) &&& (P.1 4 ^^^ 4294967295)
/-- what always holds of a voice's numbers -/
def vI (V : NS) : Prop := sm V ∧ (∀ a, V.2 3 a ≤ 1000000) ∧ (∀ a, V.2 4 a ≤ 1) ∧ ∀ r, V.2 2 r ≤ 100000
theorem opn_lt {T : NS} (P : NS) (h : T.1 1 ≤ 12) : opn T P < 4096 := by
  unfold opn
  have h1 : (1 <<< T.1 1 - 1) &&& (P.1 4 ^^^ 4294967295) ≤ 1 <<< T.1 1 - 1 := Nat.and_le_left
  have h2 : 1 <<< T.1 1 ≤ 4096 := by
    rw [Nat.one_shiftLeft]
    exact Nat.pow_le_pow_right (n := 2) (by decide) h
  have h3 : 1 ≤ 1 <<< T.1 1 := by rw [Nat.one_shiftLeft]; exact Nat.one_le_two_pow
  omega
def lkP (T P V2 : NS) : Prop := vI V2 ∧ V2.1 1 = opn T P ∧ (∀ r, r < T.1 1 → V2.2 2 r = T.2 8 r + P.2 5 r) ∧ Fix T (V2.2 2) (V2.1 1) (V2.2 3)

set_option maxHeartbeats 4000000 in
set_option maxRecDepth 100000 in
theorem l_look (g : GC) (v : Nat) (k : Nat → Nat) (V : NS) (t : Nat) (a : Nat) (h : Nat → Nat) (T : NS) (p : Nat) (q : Nat → Nat) (P : NS) (hv : vI V) (hsT : sm T) (hw : wfT T) (hn : T.1 4 ≤ 1000000) (hm : ∀ r, T.2 8 r ≤ 60) (hj : ∀ r, P.2 5 r ≤ 60) (X : XC) (E : Ob g X cX5_look 4 RX5) (hX : X.2.2.1 = zR 5 0 0) (K : ∀ (f : Nat → Nat), (∀ r, r < T.1 1 → f r = T.2 8 r + P.2 5 r) → (∀ r, f r ≤ 100000) → Z g X 4 0 0 (wVoice g v k a (sA (sF V 1 (opn T P)) 2 f) ++ (wTown g a h T ++ (wPres g p q P))) [(0, .ref v), (1, .ref a), (2, .ref p)] [] 55) : ∀ (n : Nat) (i : Nat) (f : Nat → Nat), (i ≤ T.1 1) → (∀ r, r < i → f r = T.2 8 r + P.2 5 r) → (∀ r, f r ≤ 100000) → (T.1 1 < i + n) → Z g X 4 0 0 (wVoice g v k a (sA (sF V 1 (opn T P)) 2 f) ++ (wTown g a h T ++ (wPres g p q P))) [(0, .ref v), (1, .ref a), (2, .ref p), (3, .int (nI i))] [] 22 := by
  intro n
  induction n with
  | zero =>
    intro i f hi hf0 hfl hf
    have hR := hw.1
    have e1 := hm i
    have e2 := hj i
    exfalso; omega
  | succ n ih =>
    intro i f hi hf0 hfl hf
    have hR := hw.1
    have e1 := hm i
    have e2 := hj i
    refine z_iload_n E dX5_look_22 3 rfl rfl ?_
    refine z_aload_n E dX5_look_23 1 rfl rfl ?_
    refine gt_X5_48 (v := .int (nI (T.1 1))) E dX5_look_24 6 rfl rfl ?_
    refine z_icmpN_ge E dX5_look_27 55 (by decide) (by omega) (hsT.1 _) (fun c1 => ?_) (fun c1 => ?_)
    · refine z_lv [0, 1, 2] rfl ?_; exact K f (fun r hr => hf0 r (by omega)) hfl
    · refine z_aload_n E dX5_look_30 0 rfl rfl ?_
      refine gt_X5_18 (v := .ref (k 2)) E dX5_look_31 0 rfl rfl ?_
      refine z_iload_n E dX5_look_34 3 rfl rfl ?_
      refine z_aload_n E dX5_look_35 1 rfl rfl ?_
      refine gt_X5_51 (v := .ref (h 8)) E dX5_look_36 6 rfl rfl ?_
      refine z_iload_n E dX5_look_39 3 rfl rfl ?_
      refine z_ialdN (f := (T.2 8)) E dX5_look_40 9 rfl (by omega) (by decide) ?_
      refine z_aload_n E dX5_look_41 2 rfl rfl ?_
      refine gt_X5_54 (v := .ref (q 5)) E dX5_look_42 11 rfl rfl ?_
      refine z_iload_n E dX5_look_45 3 rfl rfl ?_
      refine z_ialdN (f := (P.2 5)) E dX5_look_46 12 rfl (by omega) (by decide) ?_
      refine z_iaddN E dX5_look_47 ?_
      refine z_iastN (f := f) (i := i) (x := (((T.2 8) i) + ((P.2 5) i))) (ws' := wVoice g v k a (sA (sF V 1 (opn T P)) 2 (va_up f i (((T.2 8) i) + ((P.2 5) i)))) ++ (wTown g a h T ++ (wPres g p q P))) E dX5_look_48 1 rfl (by omega) (by decide) rfl ?_
      refine z_iincN (lv' := [(0, .ref v), (1, .ref a), (2, .ref p), (3, .int (nI (i + 1)))]) E dX5_look_49 3 rfl (by decide) rfl ?_
      refine z_goto E dX5_look_52 22 (by decide) ?_
      exact ih (i + 1) (va_up f i (((T.2 8) i) + ((P.2 5) i))) (by omega) (fun r hr => by unfold va_up; split; (rename_i e; rw [e]); exact hf0 r (by omega)) (fun r => by unfold va_up; split; omega; exact hfl r) (by omega)

set_option maxHeartbeats 4000000 in
set_option maxRecDepth 100000 in
theorem c_X5_look (g : GC) (v : Nat) (k : Nat → Nat) (V : NS) (t : Nat) (a : Nat) (h : Nat → Nat) (T : NS) (p : Nat) (q : Nat → Nat) (P : NS) (hv : vI V) (hsT : sm T) (hw : wfT T) (hn : T.1 4 ≤ 1000000) (hm : ∀ r, T.2 8 r ≤ 60) (hj : ∀ r, P.2 5 r ≤ 60) : Ct g yX5_look cX5_look 4 none 5 0 0 [.ref v, .ref a, .ref p] (wVoice g v k t V ++ (wTown g a h T ++ (wPres g p q P))) (QV (fun w_ => ∃ V2 : NS, w_ = wVoice g v k a V2 ++ (wTown g a h T ++ (wPres g p q P)) ∧ lkP T P V2)) := by
  refine Ct.of (by decide) (Nat.le_of_ble_eq_true rfl) ?_
  intro X E Er hX _ hnm
  have E : Ob g X cX5_look 4 RX5 := E
  have hR := hw.1
  have hop := opn_lt P hR
  refine z_lve (lv' := [(0, .ref v), (1, .ref a), (2, .ref p)]) rfl ?_
  refine z_aload_n E dX5_look_0 0 rfl rfl ?_
  refine z_aload_n E dX5_look_1 1 rfl rfl ?_
  refine pt_X5_12 (x := a) (ws' := wVoice g v k a V ++ (wTown g a h T ++ (wPres g p q P))) E dX5_look_2 0 rfl (Nat.le_of_ble_eq_true rfl) rfl ?_
  refine z_aload_n E dX5_look_5 0 rfl rfl ?_
  refine z_aload_n E dX5_look_6 1 rfl rfl ?_
  refine z_ro E (rV E hX (c_X4_allRoads g a h T (by omega)) mw_X4_allRoads ml_X5_35 dX5_look_7 (Nat.le_of_ble_eq_true rfl) ⟨(Nat.le_of_ble_eq_true rfl), (Nat.le_of_ble_eq_true rfl)⟩ rfl rfl (Nat.le_of_ble_eq_true rfl) 0 rfl rfl) [6, 7, 8, 9, 10] rfl (by decide) ?_
  refine z_aload_n E dX5_look_10 2 rfl rfl ?_
  refine gt_X5_39 (v := .int (nI (P.1 4))) E dX5_look_11 11 rfl rfl ?_
  refine z_iconst (v := (-1)) E dX5_look_14 (by decide) ?_
  refine z_topi (y := nI 4294967295) rfl ?_
  refine z_ixorN E dX5_look_15 ?_
  refine z_iandN E dX5_look_16 ?_
  refine z_topi (y := nI (opn T P)) rfl ?_
  refine pt_X5_45 (x := nI (opn T P)) (ws' := wVoice g v k a (sF V 1 (opn T P)) ++ (wTown g a h T ++ (wPres g p q P))) E dX5_look_17 0 rfl (Nat.le_of_ble_eq_true rfl) rfl ?_
  refine z_iconst (v := (nI 0)) E dX5_look_20 (by decide) ?_
  refine z_istore_n (lv' := [(0, .ref v), (1, .ref a), (2, .ref p), (3, .int (nI 0))]) E dX5_look_21 3 rfl (by decide) rfl ?_
  refine l_look g v k V t a h T p q P hv hsT hw hn hm hj X E hX (fun f hf0 hfl => ?_) (T.1 1 + 1) 0 (V.2 2) (by omega) (fun r hr => absurd hr (Nat.not_lt_zero r)) hv.2.2.2 (by omega)
  refine z_aload_n E dX5_look_55 0 rfl rfl ?_
  refine z_qv E (rV E hX (c_X5_measure g v k (sA (sF V 1 (opn T P)) 2 f) a h T ((hv.1.F (show opn T P < 2 ^ 31 by omega)).A (fun r => Nat.lt_of_le_of_lt (hfl r) (by decide))) hsT (by assumption) hv.2.1 hv.2.2.1 (fun r => Nat.le_trans (hfl r) (by decide)) hn) mw_X5_measure ml_X5_57 dX5_look_56 (Nat.le_of_ble_eq_true rfl) ⟨(Nat.le_of_ble_eq_true rfl), (Nat.le_of_ble_eq_true rfl)⟩ rfl rfl (Nat.le_of_ble_eq_true rfl) 0 rfl rfl) [0, 1, 2, 3, 4, 5, 6, 7, 8, 9, 10] rfl (by decide) (fun w2 hw => ?_)
  obtain ⟨V3, rfl, ⟨L, S, rfl, hF, hLl, hSl⟩⟩ := hw
  refine ⟨rfl, ?_⟩
  refine z_ws (ws' := wVoice g v k a (sA (sA (sA (sF V 1 (opn T P)) 2 f) 3 L) 4 S) ++ (wTown g a h T ++ (wPres g p q P))) rfl ?_
  refine z_vret E Er dX5_look_59 ?_
  exact ⟨rfl, _, rfl, ⟨(((hv.1.F (show opn T P < 2 ^ 31 by omega)).A (fun r => Nat.lt_of_le_of_lt (hfl r) (by decide))).A (fun a => Nat.lt_of_le_of_lt (hLl a) (by decide))).A (fun a => Nat.lt_of_le_of_lt (hSl a) (by decide)), hLl, hSl, hfl⟩, rfl, hf0, hF⟩

set_option maxHeartbeats 4000000 in
set_option maxRecDepth 100000 in
theorem c_X5_lookAtOpen (g : GC) (v : Nat) (k : Nat → Nat) (V : NS) (a : Nat) (h : Nat → Nat) (T : NS) (x : Nat) (hv : vI V) (hsT : sm T) (hw : wfT T) (hn : T.1 4 ≤ 1000000) (hx : x < 2 ^ 31) : Ct g yX5_lookAtOpen cX5_lookAtOpen 2 none 5 0 0 [.ref v, .int (nI x)] (wVoice g v k a V ++ (wTown g a h T)) (QV (fun w_ => ∃ V2 : NS, w_ = wVoice g v k a V2 ++ (wTown g a h T) ∧ (vI V2 ∧ V2.1 1 = x ∧ (∀ r, V2.2 2 r = V.2 2 r) ∧ Fix T (V2.2 2) (V2.1 1) (V2.2 3)))) := by
  refine Ct.of (by decide) (Nat.le_of_ble_eq_true rfl) ?_
  intro X E Er hX _ hnm
  have E : Ob g X cX5_lookAtOpen 2 RX5 := E
  refine z_lve (lv' := [(0, .ref v), (1, .int (nI x))]) rfl ?_
  refine z_aload_n E dX5_lookAtOpen_0 0 rfl rfl ?_
  refine z_iload_n E dX5_lookAtOpen_1 1 rfl rfl ?_
  refine pt_X5_45 (x := nI x) (ws' := wVoice g v k a (sF V 1 x) ++ (wTown g a h T)) E dX5_lookAtOpen_2 0 rfl (Nat.le_of_ble_eq_true rfl) rfl ?_
  refine z_aload_n E dX5_lookAtOpen_5 0 rfl rfl ?_
  refine z_qv0 E (rV E hX (c_X5_measure g v k (sF V 1 x) a h T (hv.1.F hx) hsT (by assumption) hv.2.1 hv.2.2.1 (fun r => Nat.le_trans (hv.2.2.2 r) (by decide)) hn) mw_X5_measure ml_X5_57 dX5_lookAtOpen_6 (Nat.le_of_ble_eq_true rfl) ⟨(Nat.le_of_ble_eq_true rfl), (Nat.le_of_ble_eq_true rfl)⟩ rfl rfl (Nat.le_of_ble_eq_true rfl) 0 rfl rfl) (fun w2 hw => ?_)
  obtain ⟨V3, rfl, ⟨L, S, rfl, hF, hLl, hSl⟩⟩ := hw
  refine ⟨rfl, ?_⟩
  refine z_ws (ws' := wVoice g v k a (sA (sA (sF V 1 x) 3 L) 4 S) ++ (wTown g a h T)) rfl ?_
  refine z_vret E Er dX5_lookAtOpen_9 ?_
  exact ⟨rfl, _, rfl, ⟨((hv.1.F hx).A (fun a => Nat.lt_of_le_of_lt (hLl a) (by decide))).A (fun a => Nat.lt_of_le_of_lt (hSl a) (by decide)), hLl, hSl, hv.2.2.2⟩, rfl, fun _ => rfl, hF⟩
