set_option maxHeartbeats 4000000 in
set_option maxRecDepth 100000 in
theorem c_X3_readNumber (g : GC) (e : Nat) (u : Nat → Nat) (R : NS) (lo : Int32) (hi : Int32) (bt : Int32) (hr : rdJ R) : Ct g yX3_readNumber cX3_readNumber 5 (some .int) 4 0 0 [.ref e, .int lo, .int hi, .int bt] (wRead g e u R) (DI (pm (rnE R lo hi bt)) (wRead g e u (rnS R lo hi bt))) := by
  refine Ct.of (by decide) (Nat.le_of_ble_eq_true rfl) ?_
  intro X E Er hX _ hnm
  have E : Ob g X cX3_readNumber 5 RX3 := E
  have ht := tkOK_lt hr.2.2.1
  have hn5 := hr.1.1.1 5
  refine z_lve (lv' := [(0, .ref e), (1, .int lo), (2, .int hi), (3, .int bt)]) rfl ?_
  refine z_aload_n E dX3_readNumber_0 0 rfl rfl ?_
  refine gt_X3_23 (v := .int (tk (R.1 3))) E dX3_readNumber_1 0 rfl rfl ?_
  refine z_iconst (v := (-1)) E dX3_readNumber_4 (by decide) ?_
  refine z_icmpT_ne (q := 2) E dX3_readNumber_5 28 (by decide) (by omega) (by decide) (fun c1 => ?_) (fun c1 => ?_)
  · refine z_iconst (v := (-1)) E dX3_readNumber_28 (by decide) ?_
    refine z_iret E Er dX3_readNumber_29 ?_
    exact ⟨by rw [rnE_n (fun q => c1 q.1)]; rfl, by rw [rnS_n (fun q => c1 q.1)]⟩
  · refine z_aload_n E dX3_readNumber_8 0 rfl rfl ?_
    refine gt_X3_107 (v := .int (nI (R.1 5))) E dX3_readNumber_9 0 rfl rfl ?_
    refine z_iload_n E dX3_readNumber_12 1 rfl rfl ?_
    refine z_iload_n E dX3_readNumber_13 2 rfl rfl ?_
    refine z_se E (rSN E hX (c_X6_isWithin g (nI (R.1 5)) lo hi) mw_X6_isWithin ms_X6_isWithin mn_X3_110 dX3_readNumber_14 (Nat.le_of_ble_eq_true rfl) ⟨(Nat.le_of_ble_eq_true rfl), (Nat.le_of_ble_eq_true rfl)⟩ rfl rfl (Nat.le_of_ble_eq_true rfl)) ?_
    refine z_ifB_eq E dX3_readNumber_17 28 (by decide) (fun c2 => ?_) (fun c2 => ?_)
    · refine z_iconst (v := (-1)) E dX3_readNumber_28 (by decide) ?_
      refine z_iret E Er dX3_readNumber_29 ?_
      exact ⟨by rw [rnE_n (fun q => absurd (c2.symm.trans q.2.1) (by decide))]; rfl, by rw [rnS_n (fun q => absurd (c2.symm.trans q.2.1) (by decide))]⟩
    · refine z_aload_n E dX3_readNumber_20 0 rfl rfl ?_
      refine gt_X3_107 (v := .int (nI (R.1 5))) E dX3_readNumber_21 0 rfl rfl ?_
      refine z_iload_n E dX3_readNumber_24 3 rfl rfl ?_
      refine z_icmp_ne E dX3_readNumber_25 30 (by decide) (fun c3 => ?_) (fun c3 => ?_)
      · refine z_aload_n E dX3_readNumber_30 0 rfl rfl ?_
        refine gt_X3_107 (v := .int (nI (R.1 5))) E dX3_readNumber_31 0 rfl rfl ?_
        refine z_istore (lv' := [(0, .ref e), (1, .int lo), (2, .int hi), (3, .int bt), (4, .int (nI (R.1 5)))]) E dX3_readNumber_34 (by decide) rfl ?_
        refine z_aload_n E dX3_readNumber_36 0 rfl rfl ?_
        refine z_rwv0 (w2 := wRead g e u (tokR R)) E (rV E hX (c_X3_readToken g e u R hr.1 hr.2.1) mw_X3_readToken ml_X3_33 dX3_readNumber_37 (Nat.le_of_ble_eq_true rfl) ⟨(Nat.le_of_ble_eq_true rfl), (Nat.le_of_ble_eq_true rfl)⟩ rfl rfl (Nat.le_of_ble_eq_true rfl) 0 rfl rfl) rfl ?_
        refine z_iload E dX3_readNumber_40 4 rfl ?_
        refine z_iret E Er dX3_readNumber_42 ?_
        exact ⟨by rw [rnE_y ⟨c1, c2, c3⟩]; rfl, by rw [rnS_y ⟨c1, c2, c3⟩]⟩
      · refine z_iconst (v := (-1)) E dX3_readNumber_28 (by decide) ?_
        refine z_iret E Er dX3_readNumber_29 ?_
        exact ⟨by rw [rnE_n (fun q => q.2.2 c3)]; rfl, by rw [rnS_n (fun q => q.2.2 c3)]⟩

noncomputable def spPl (R T : NS) : Bool × NS × NS := if (rnE R (nI 2) (nI 8) (-9)) = 0 then (false, (rnS R (nI 2) (nI 8) (-9)), T) else (true, (rnS R (nI 2) (nI 8) (-9)), sF T 0 ((rnE R (nI 2) (nI 8) (-9)) - 1))

noncomputable def spRo (R T : NS) : Bool × NS × NS := if (rnE R (nI 0) (nI (T.1 0 - 1)) (-9)) = 0 then (false, (rnS R (nI 0) (nI (T.1 0 - 1)) (-9)), T) else if (rnE (rnS R (nI 0) (nI (T.1 0 - 1)) (-9)) (nI 0) (nI (T.1 0 - 1)) (nI ((rnE R (nI 0) (nI (T.1 0 - 1)) (-9)) - 1))) = 0 then (false, (rnS (rnS R (nI 0) (nI (T.1 0 - 1)) (-9)) (nI 0) (nI (T.1 0 - 1)) (nI ((rnE R (nI 0) (nI (T.1 0 - 1)) (-9)) - 1))), T) else if (rnE (rnS (rnS R (nI 0) (nI (T.1 0 - 1)) (-9)) (nI 0) (nI (T.1 0 - 1)) (nI ((rnE R (nI 0) (nI (T.1 0 - 1)) (-9)) - 1))) (nI 1) (nI 60) (-9)) = 0 then (false, (rnS (rnS (rnS R (nI 0) (nI (T.1 0 - 1)) (-9)) (nI 0) (nI (T.1 0 - 1)) (nI ((rnE R (nI 0) (nI (T.1 0 - 1)) (-9)) - 1))) (nI 1) (nI 60) (-9)), T) else (true, (rnS (rnS (rnS R (nI 0) (nI (T.1 0 - 1)) (-9)) (nI 0) (nI (T.1 0 - 1)) (nI ((rnE R (nI 0) (nI (T.1 0 - 1)) (-9)) - 1))) (nI 1) (nI 60) (-9)), addT T ((rnE R (nI 0) (nI (T.1 0 - 1)) (-9)) - 1) ((rnE (rnS R (nI 0) (nI (T.1 0 - 1)) (-9)) (nI 0) (nI (T.1 0 - 1)) (nI ((rnE R (nI 0) (nI (T.1 0 - 1)) (-9)) - 1))) - 1) ((rnE (rnS (rnS R (nI 0) (nI (T.1 0 - 1)) (-9)) (nI 0) (nI (T.1 0 - 1)) (nI ((rnE R (nI 0) (nI (T.1 0 - 1)) (-9)) - 1))) (nI 1) (nI 60) (-9)) - 1))

noncomputable def spSt (R T : NS) : Bool × NS × NS := if (rnE R (nI 0) (nI (T.1 1) - nI 1) (-9)) = 0 then (false, (rnS R (nI 0) (nI (T.1 1) - nI 1) (-9)), T) else if (rnE (rnS R (nI 0) (nI (T.1 1) - nI 1) (-9)) (nI 0) (nI (T.1 1) - nI 1) (nI ((rnE R (nI 0) (nI (T.1 1) - nI 1) (-9)) - 1))) = 0 then (false, (rnS (rnS R (nI 0) (nI (T.1 1) - nI 1) (-9)) (nI 0) (nI (T.1 1) - nI 1) (nI ((rnE R (nI 0) (nI (T.1 1) - nI 1) (-9)) - 1))), T) else (true, (rnS (rnS R (nI 0) (nI (T.1 1) - nI 1) (-9)) (nI 0) (nI (T.1 1) - nI 1) (nI ((rnE R (nI 0) (nI (T.1 1) - nI 1) (-9)) - 1))), strT T ((rnE R (nI 0) (nI (T.1 1) - nI 1) (-9)) - 1) ((rnE (rnS R (nI 0) (nI (T.1 1) - nI 1) (-9)) (nI 0) (nI (T.1 1) - nI 1) (nI ((rnE R (nI 0) (nI (T.1 1) - nI 1) (-9)) - 1))) - 1))

noncomputable def spGo (R T : NS) : Bool × NS × NS := if (rnE R (nI 0) (nI (T.1 0 - 1)) (-9)) = 0 then (false, (rnS R (nI 0) (nI (T.1 0 - 1)) (-9)), T) else if (rnE (rnS R (nI 0) (nI (T.1 0 - 1)) (-9)) (nI 0) (nI (T.1 0 - 1)) (-9)) = 0 then (false, (rnS (rnS R (nI 0) (nI (T.1 0 - 1)) (-9)) (nI 0) (nI (T.1 0 - 1)) (-9)), T) else (true, sF (rnS (rnS R (nI 0) (nI (T.1 0 - 1)) (-9)) (nI 0) (nI (T.1 0 - 1)) (-9)) 6 1, sF (sF T 2 ((rnE R (nI 0) (nI (T.1 0 - 1)) (-9)) - 1)) 3 ((rnE (rnS R (nI 0) (nI (T.1 0 - 1)) (-9)) (nI 0) (nI (T.1 0 - 1)) (-9)) - 1))

noncomputable def spNe (R T : NS) : Bool × NS × NS := if (rnE R (nI 0) (nI 20) (-9)) = 0 then (false, (rnS R (nI 0) (nI 20) (-9)), T) else (true, sF (rnS R (nI 0) (nI 20) (-9)) 7 1, sF T 4 ((rnE R (nI 0) (nI 20) (-9)) - 1))

noncomputable def spLo (R T : NS) : Bool × NS × NS := if (rnE R (nI 0) (nI 9) (-9)) = 0 then (false, (rnS R (nI 0) (nI 9) (-9)), T) else (true, sF (rnS R (nI 0) (nI 9) (-9)) 8 1, sF T 5 ((rnE R (nI 0) (nI 9) (-9)) - 1))

theorem rn_val {R : NS} {lo hi bt : Int32} (h : rnE R lo hi bt ≠ 0) : rnC R lo hi bt ∧ rnE R lo hi bt - 1 = R.1 5 := by
  by_cases q : rnC R lo hi bt
  · exact ⟨q, by rw [rnE_y q]; rfl⟩
  · exact absurd (rnE_n q) h
theorem wi_hi {x m : Nat} {lo : Int32} (hx : x < 2 ^ 31) (hm : m < 2 ^ 31) (h : wi (nI x) lo (nI m) = true) : x ≤ m := by
  unfold wi at h
  simp only [Bool.and_eq_true, Bool.not_eq_true', decide_eq_false_iff_not] at h
  exact Nat.le_of_not_lt (fun q => h.2 ((nI_ltI hm hx).mpr q))
theorem wi_lo {x m : Nat} {hi : Int32} (hx : x < 2 ^ 31) (hm : m < 2 ^ 31) (h : wi (nI x) (nI m) hi = true) : m ≤ x := by
  unfold wi at h
  simp only [Bool.and_eq_true, Bool.not_eq_true', decide_eq_false_iff_not] at h
  exact Nat.le_of_not_lt (fun q => h.1 ((nI_ltI hx hm).mpr q))
theorem wi_h1 {x k : Nat} {lo : Int32} (hx : x < 2 ^ 31) (hk : k < 2 ^ 31) (h : wi (nI x) lo (nI k - nI 1) = true) : x < k := by
  cases k with
  | zero =>
    unfold wi at h
    simp only [Bool.and_eq_true, Bool.not_eq_true', decide_eq_false_iff_not] at h
    exfalso
    apply h.2
    have h1 : nI 0 - nI 1 = -1 := by decide
    rw [h1, Int32.lt_iff_toInt_lt, nI_toInt hx]
    have : (-1 : Int32).toInt = -1 := by decide
    omega
  | succ m =>
    rw [show nI (m + 1) - nI 1 = nI m from nI_pred m] at h
    have := wi_hi hx (by omega) h
    omega
theorem rn_hi {R : NS} {lo bt : Int32} {m : Nat} (hJ : rdJ R) (hm : m < 2 ^ 31) (h : rnE R lo (nI m) bt ≠ 0) : rnE R lo (nI m) bt - 1 ≤ m := by
  obtain ⟨h1, h2⟩ := rn_val h
  rw [h2]
  exact wi_hi (hJ.1.1.1 5) hm h1.2.1
theorem rn_lo {R : NS} {hi bt : Int32} {m : Nat} (hJ : rdJ R) (hm : m < 2 ^ 31) (h : rnE R (nI m) hi bt ≠ 0) : m ≤ rnE R (nI m) hi bt - 1 := by
  obtain ⟨h1, h2⟩ := rn_val h
  rw [h2]
  exact wi_lo (hJ.1.1.1 5) hm h1.2.1
theorem rn_h1 {R : NS} {lo bt : Int32} {k : Nat} (hJ : rdJ R) (hk : k < 2 ^ 31) (h : rnE R lo (nI k - nI 1) bt ≠ 0) : rnE R lo (nI k - nI 1) bt - 1 < k := by
  obtain ⟨h1, h2⟩ := rn_val h
  rw [h2]
  exact wi_h1 (hJ.1.1.1 5) hk h1.2.1
theorem rn_bt {R : NS} {lo hi : Int32} {m : Nat} (h : rnE R lo hi (nI m) ≠ 0) : rnE R lo hi (nI m) - 1 ≠ m := by
  obtain ⟨h1, h2⟩ := rn_val h
  rw [h2]
  exact fun e => h1.2.2 (by rw [e])

set_option maxHeartbeats 4000000 in
set_option maxRecDepth 100000 in
theorem c_X3_readPlaces (g : GC) (e : Nat) (u : Nat → Nat) (R : NS) (a : Nat) (h : Nat → Nat) (T : NS) (hr : rdJ R) : Ct g yX3_readPlaces cX3_readPlaces 3 (some .boolean) 5 0 0 [.ref e, .ref a] (wRead g e u R ++ (wTown g a h T)) (DI (bI ((spPl R T).1)) (wRead g e u ((spPl R T).2.1) ++ (wTown g a h ((spPl R T).2.2)))) := by
  refine Ct.of (by decide) (Nat.le_of_ble_eq_true rfl) ?_
  intro X E Er hX _ hnm
  have E : Ob g X cX3_readPlaces 3 RX3 := E
  have hJ0 := hr
  have hJ1 : rdJ (rnS R (nI 2) (nI 8) (-9)) := rnS_J hJ0
  have hx1 : (rnE R (nI 2) (nI 8) (-9)) < 2 ^ 31 := rnE_lt hJ0
  refine z_lve (lv' := [(0, .ref e), (1, .ref a)]) rfl ?_
  refine z_aload_n E dX3_readPlaces_0 0 rfl rfl ?_
  refine z_iconst (v := (nI 2)) E dX3_readPlaces_1 (by decide) ?_
  refine z_bipush (v := (nI 8)) E dX3_readPlaces_2 (by decide) ?_
  refine z_bipush (v := (-9)) E dX3_readPlaces_4 (by decide) ?_
  refine z_rw (ws2 := wRead g e u (rnS R (nI 2) (nI 8) (-9)) ++ (wTown g a h T)) E (rV E hX (c_X3_readNumber g e u R (nI 2) (nI 8) (-9) (by assumption)) mw_X3_readNumber ml_X3_80 dX3_readPlaces_6 (Nat.le_of_ble_eq_true rfl) ⟨(Nat.le_of_ble_eq_true rfl), (Nat.le_of_ble_eq_true rfl)⟩ rfl rfl (Nat.le_of_ble_eq_true rfl) 0 rfl rfl) [0, 1] rfl (by decide) rfl rfl ?_
  refine z_istore_n (lv' := [(0, .ref e), (1, .ref a), (2, .int (pm (rnE R (nI 2) (nI 8) (-9))))]) E dX3_readPlaces_9 2 rfl (by decide) rfl ?_
  refine z_iload_n E dX3_readPlaces_10 2 rfl rfl ?_
  refine z_iconst (v := (-1)) E dX3_readPlaces_11 (by decide) ?_
  refine z_icmpP_ne (q := 0) E dX3_readPlaces_12 17 (by decide) (by assumption) (by decide) (fun c1 => ?_) (fun c1 => ?_)
  · refine z_lve (lv' := [(0, .ref e), (1, .ref a), (2, .int (nI ((rnE R (nI 2) (nI 8) (-9)) - 1)))]) (by rw [pm_pos c1]) ?_
    refine z_aload_n E dX3_readPlaces_17 1 rfl rfl ?_
    refine z_iload_n E dX3_readPlaces_18 2 rfl rfl ?_
    refine pt_X3_84 (x := nI ((rnE R (nI 2) (nI 8) (-9)) - 1)) (ws' := wRead g e u (rnS R (nI 2) (nI 8) (-9)) ++ (wTown g a h (sF T 0 ((rnE R (nI 2) (nI 8) (-9)) - 1)))) E dX3_readPlaces_19 2 rfl (Nat.le_of_ble_eq_true rfl) rfl ?_
    refine z_iconst (v := (nI 1)) E dX3_readPlaces_22 (by decide) ?_
    refine z_zret E Er dX3_readPlaces_23 (by decide) ?_
    exact ⟨bz1 (by simp only [spPl, if_neg c1]), by simp only [spPl, if_neg c1]⟩
  · refine z_iconst (v := (nI 0)) E dX3_readPlaces_15 (by decide) ?_
    refine z_zret E Er dX3_readPlaces_16 (by decide) ?_
    exact ⟨bz0 (by simp only [spPl, if_pos c1]), by simp only [spPl, if_pos c1]⟩

set_option maxHeartbeats 4000000 in
set_option maxRecDepth 100000 in
theorem c_X3_readRoad (g : GC) (e : Nat) (u : Nat → Nat) (R : NS) (a : Nat) (h : Nat → Nat) (T : NS) (hr : rdJ R) (hp : 1 ≤ T.1 0) (hR : T.1 1 < 12) : Ct g yX3_readRoad cX3_readRoad 5 (some .boolean) 5 0 0 [.ref e, .ref a] (wRead g e u R ++ (wTown g a h T)) (DI (bI ((spRo R T).1)) (wRead g e u ((spRo R T).2.1) ++ (wTown g a h ((spRo R T).2.2)))) := by
  refine Ct.of (by decide) (Nat.le_of_ble_eq_true rfl) ?_
  intro X E Er hX _ hnm
  have E : Ob g X cX3_readRoad 5 RX3 := E
  have hJ0 := hr
  have hJ1 : rdJ (rnS R (nI 0) (nI (T.1 0 - 1)) (-9)) := rnS_J hJ0
  have hJ2 : rdJ (rnS (rnS R (nI 0) (nI (T.1 0 - 1)) (-9)) (nI 0) (nI (T.1 0 - 1)) (nI ((rnE R (nI 0) (nI (T.1 0 - 1)) (-9)) - 1))) := rnS_J hJ1
  have hJ3 : rdJ (rnS (rnS (rnS R (nI 0) (nI (T.1 0 - 1)) (-9)) (nI 0) (nI (T.1 0 - 1)) (nI ((rnE R (nI 0) (nI (T.1 0 - 1)) (-9)) - 1))) (nI 1) (nI 60) (-9)) := rnS_J hJ2
  have hx1 : (rnE R (nI 0) (nI (T.1 0 - 1)) (-9)) < 2 ^ 31 := rnE_lt hJ0
  have hx2 : (rnE (rnS R (nI 0) (nI (T.1 0 - 1)) (-9)) (nI 0) (nI (T.1 0 - 1)) (nI ((rnE R (nI 0) (nI (T.1 0 - 1)) (-9)) - 1))) < 2 ^ 31 := rnE_lt hJ1
  have hx3 : (rnE (rnS (rnS R (nI 0) (nI (T.1 0 - 1)) (-9)) (nI 0) (nI (T.1 0 - 1)) (nI ((rnE R (nI 0) (nI (T.1 0 - 1)) (-9)) - 1))) (nI 1) (nI 60) (-9)) < 2 ^ 31 := rnE_lt hJ2
  refine z_lve (lv' := [(0, .ref e), (1, .ref a)]) rfl ?_
  refine z_aload_n E dX3_readRoad_0 0 rfl rfl ?_
  refine z_iconst (v := (nI 0)) E dX3_readRoad_1 (by decide) ?_
  refine z_aload_n E dX3_readRoad_2 1 rfl rfl ?_
  refine gt_X3_84 (v := .int (nI (T.1 0))) E dX3_readRoad_3 2 rfl rfl ?_
  refine z_iconst (v := (nI 1)) E dX3_readRoad_6 (by decide) ?_
  refine z_isubN E dX3_readRoad_7 (by omega) ?_
  refine z_bipush (v := (-9)) E dX3_readRoad_8 (by decide) ?_
  refine z_rw (ws2 := wRead g e u (rnS R (nI 0) (nI ((T.1 0) - 1)) (-9)) ++ (wTown g a h T)) E (rV E hX (c_X3_readNumber g e u R (nI 0) (nI ((T.1 0) - 1)) (-9) (by assumption)) mw_X3_readNumber ml_X3_80 dX3_readRoad_10 (Nat.le_of_ble_eq_true rfl) ⟨(Nat.le_of_ble_eq_true rfl), (Nat.le_of_ble_eq_true rfl)⟩ rfl rfl (Nat.le_of_ble_eq_true rfl) 0 rfl rfl) [0, 1] rfl (by decide) rfl rfl ?_
  refine z_istore_n (lv' := [(0, .ref e), (1, .ref a), (2, .int (pm (rnE R (nI 0) (nI ((T.1 0) - 1)) (-9))))]) E dX3_readRoad_13 2 rfl (by decide) rfl ?_
  refine z_iload_n E dX3_readRoad_14 2 rfl rfl ?_
  refine z_iconst (v := (-1)) E dX3_readRoad_15 (by decide) ?_
  refine z_icmpP_ne (q := 0) E dX3_readRoad_16 21 (by decide) (by assumption) (by decide) (fun c1 => ?_) (fun c1 => ?_)
  · refine z_lve (lv' := [(0, .ref e), (1, .ref a), (2, .int (nI ((rnE R (nI 0) (nI ((T.1 0) - 1)) (-9)) - 1)))]) (by rw [pm_pos c1]) ?_
    refine z_aload_n E dX3_readRoad_21 0 rfl rfl ?_
    refine z_iconst (v := (nI 0)) E dX3_readRoad_22 (by decide) ?_
    refine z_aload_n E dX3_readRoad_23 1 rfl rfl ?_
    refine gt_X3_84 (v := .int (nI (T.1 0))) E dX3_readRoad_24 2 rfl rfl ?_
    refine z_iconst (v := (nI 1)) E dX3_readRoad_27 (by decide) ?_
    refine z_isubN E dX3_readRoad_28 (by omega) ?_
    refine z_iload_n E dX3_readRoad_29 2 rfl rfl ?_
    refine z_rw (ws2 := wRead g e u (rnS (rnS R (nI 0) (nI ((T.1 0) - 1)) (-9)) (nI 0) (nI ((T.1 0) - 1)) (nI ((rnE R (nI 0) (nI ((T.1 0) - 1)) (-9)) - 1))) ++ (wTown g a h T)) E (rV E hX (c_X3_readNumber g e u (rnS R (nI 0) (nI ((T.1 0) - 1)) (-9)) (nI 0) (nI ((T.1 0) - 1)) (nI ((rnE R (nI 0) (nI ((T.1 0) - 1)) (-9)) - 1)) (by assumption)) mw_X3_readNumber ml_X3_80 dX3_readRoad_30 (Nat.le_of_ble_eq_true rfl) ⟨(Nat.le_of_ble_eq_true rfl), (Nat.le_of_ble_eq_true rfl)⟩ rfl rfl (Nat.le_of_ble_eq_true rfl) 0 rfl rfl) [0, 1] rfl (by decide) rfl rfl ?_
    refine z_istore_n (lv' := [(0, .ref e), (1, .ref a), (2, .int (nI ((rnE R (nI 0) (nI ((T.1 0) - 1)) (-9)) - 1))), (3, .int (pm (rnE (rnS R (nI 0) (nI ((T.1 0) - 1)) (-9)) (nI 0) (nI ((T.1 0) - 1)) (nI ((rnE R (nI 0) (nI ((T.1 0) - 1)) (-9)) - 1)))))]) E dX3_readRoad_33 3 rfl (by decide) rfl ?_
    refine z_iload_n E dX3_readRoad_34 3 rfl rfl ?_
    refine z_iconst (v := (-1)) E dX3_readRoad_35 (by decide) ?_
    refine z_icmpP_ne (q := 0) E dX3_readRoad_36 41 (by decide) (by assumption) (by decide) (fun c2 => ?_) (fun c2 => ?_)
    · refine z_lve (lv' := [(0, .ref e), (1, .ref a), (2, .int (nI ((rnE R (nI 0) (nI ((T.1 0) - 1)) (-9)) - 1))), (3, .int (nI ((rnE (rnS R (nI 0) (nI ((T.1 0) - 1)) (-9)) (nI 0) (nI ((T.1 0) - 1)) (nI ((rnE R (nI 0) (nI ((T.1 0) - 1)) (-9)) - 1))) - 1)))]) (by rw [pm_pos c2]) ?_
      refine z_aload_n E dX3_readRoad_41 0 rfl rfl ?_
      refine z_iconst (v := (nI 1)) E dX3_readRoad_42 (by decide) ?_
      refine z_bipush (v := (nI 60)) E dX3_readRoad_43 (by decide) ?_
      refine z_bipush (v := (-9)) E dX3_readRoad_45 (by decide) ?_
      refine z_rw (ws2 := wRead g e u (rnS (rnS (rnS R (nI 0) (nI ((T.1 0) - 1)) (-9)) (nI 0) (nI ((T.1 0) - 1)) (nI ((rnE R (nI 0) (nI ((T.1 0) - 1)) (-9)) - 1))) (nI 1) (nI 60) (-9)) ++ (wTown g a h T)) E (rV E hX (c_X3_readNumber g e u (rnS (rnS R (nI 0) (nI ((T.1 0) - 1)) (-9)) (nI 0) (nI ((T.1 0) - 1)) (nI ((rnE R (nI 0) (nI ((T.1 0) - 1)) (-9)) - 1))) (nI 1) (nI 60) (-9) (by assumption)) mw_X3_readNumber ml_X3_80 dX3_readRoad_47 (Nat.le_of_ble_eq_true rfl) ⟨(Nat.le_of_ble_eq_true rfl), (Nat.le_of_ble_eq_true rfl)⟩ rfl rfl (Nat.le_of_ble_eq_true rfl) 0 rfl rfl) [0, 1] rfl (by decide) rfl rfl ?_
      refine z_istore (lv' := [(0, .ref e), (1, .ref a), (2, .int (nI ((rnE R (nI 0) (nI ((T.1 0) - 1)) (-9)) - 1))), (3, .int (nI ((rnE (rnS R (nI 0) (nI ((T.1 0) - 1)) (-9)) (nI 0) (nI ((T.1 0) - 1)) (nI ((rnE R (nI 0) (nI ((T.1 0) - 1)) (-9)) - 1))) - 1))), (4, .int (pm (rnE (rnS (rnS R (nI 0) (nI ((T.1 0) - 1)) (-9)) (nI 0) (nI ((T.1 0) - 1)) (nI ((rnE R (nI 0) (nI ((T.1 0) - 1)) (-9)) - 1))) (nI 1) (nI 60) (-9))))]) E dX3_readRoad_50 (by decide) rfl ?_
      refine z_iload E dX3_readRoad_52 4 rfl ?_
      refine z_iconst (v := (-1)) E dX3_readRoad_54 (by decide) ?_
      refine z_icmpP_ne (q := 0) E dX3_readRoad_55 60 (by decide) (by assumption) (by decide) (fun c3 => ?_) (fun c3 => ?_)
      · refine z_lve (lv' := [(0, .ref e), (1, .ref a), (2, .int (nI ((rnE R (nI 0) (nI ((T.1 0) - 1)) (-9)) - 1))), (3, .int (nI ((rnE (rnS R (nI 0) (nI ((T.1 0) - 1)) (-9)) (nI 0) (nI ((T.1 0) - 1)) (nI ((rnE R (nI 0) (nI ((T.1 0) - 1)) (-9)) - 1))) - 1))), (4, .int (nI ((rnE (rnS (rnS R (nI 0) (nI ((T.1 0) - 1)) (-9)) (nI 0) (nI ((T.1 0) - 1)) (nI ((rnE R (nI 0) (nI ((T.1 0) - 1)) (-9)) - 1))) (nI 1) (nI 60) (-9)) - 1)))]) (by rw [pm_pos c3]) ?_
        refine z_aload_n E dX3_readRoad_60 1 rfl rfl ?_
        refine z_iload_n E dX3_readRoad_61 2 rfl rfl ?_
        refine z_iload_n E dX3_readRoad_62 3 rfl rfl ?_
        refine z_iload E dX3_readRoad_63 4 rfl ?_
        refine z_rwv (ws2 := wRead g e u (rnS (rnS (rnS R (nI 0) (nI ((T.1 0) - 1)) (-9)) (nI 0) (nI ((T.1 0) - 1)) (nI ((rnE R (nI 0) (nI ((T.1 0) - 1)) (-9)) - 1))) (nI 1) (nI 60) (-9)) ++ (wTown g a h (addT T ((rnE R (nI 0) (nI ((T.1 0) - 1)) (-9)) - 1) ((rnE (rnS R (nI 0) (nI ((T.1 0) - 1)) (-9)) (nI 0) (nI ((T.1 0) - 1)) (nI ((rnE R (nI 0) (nI ((T.1 0) - 1)) (-9)) - 1))) - 1) ((rnE (rnS (rnS R (nI 0) (nI ((T.1 0) - 1)) (-9)) (nI 0) (nI ((T.1 0) - 1)) (nI ((rnE R (nI 0) (nI ((T.1 0) - 1)) (-9)) - 1))) (nI 1) (nI 60) (-9)) - 1)))) E (rV E hX (c_X4_addRoad g a h T ((rnE R (nI 0) (nI ((T.1 0) - 1)) (-9)) - 1) ((rnE (rnS R (nI 0) (nI ((T.1 0) - 1)) (-9)) (nI 0) (nI ((T.1 0) - 1)) (nI ((rnE R (nI 0) (nI ((T.1 0) - 1)) (-9)) - 1))) - 1) ((rnE (rnS (rnS R (nI 0) (nI ((T.1 0) - 1)) (-9)) (nI 0) (nI ((T.1 0) - 1)) (nI ((rnE R (nI 0) (nI ((T.1 0) - 1)) (-9)) - 1))) (nI 1) (nI 60) (-9)) - 1) (by omega)) mw_X4_addRoad ml_X3_87 dX3_readRoad_65 (Nat.le_of_ble_eq_true rfl) ⟨(Nat.le_of_ble_eq_true rfl), (Nat.le_of_ble_eq_true rfl)⟩ rfl rfl (Nat.le_of_ble_eq_true rfl) 0 rfl rfl) [2, 3, 4, 5, 6] rfl (by decide) rfl rfl ?_
        refine z_iconst (v := (nI 1)) E dX3_readRoad_68 (by decide) ?_
        refine z_zret E Er dX3_readRoad_69 (by decide) ?_
        exact ⟨bz1 (by simp only [spRo, if_neg c1, if_neg c2, if_neg c3]), by simp only [spRo, if_neg c1, if_neg c2, if_neg c3]⟩
      · refine z_iconst (v := (nI 0)) E dX3_readRoad_58 (by decide) ?_
        refine z_zret E Er dX3_readRoad_59 (by decide) ?_
        exact ⟨bz0 (by simp only [spRo, if_neg c1, if_neg c2, if_pos c3]), by simp only [spRo, if_neg c1, if_neg c2, if_pos c3]⟩
    · refine z_iconst (v := (nI 0)) E dX3_readRoad_39 (by decide) ?_
      refine z_zret E Er dX3_readRoad_40 (by decide) ?_
      exact ⟨bz0 (by simp only [spRo, if_neg c1, if_pos c2]), by simp only [spRo, if_neg c1, if_pos c2]⟩
  · refine z_iconst (v := (nI 0)) E dX3_readRoad_19 (by decide) ?_
    refine z_zret E Er dX3_readRoad_20 (by decide) ?_
    exact ⟨bz0 (by simp only [spRo, if_pos c1]), by simp only [spRo, if_pos c1]⟩

set_option maxHeartbeats 4000000 in
set_option maxRecDepth 100000 in
theorem c_X3_readStraight (g : GC) (e : Nat) (u : Nat → Nat) (R : NS) (a : Nat) (h : Nat → Nat) (T : NS) (hr : rdJ R) (hR : T.1 1 ≤ 12) : Ct g yX3_readStraight cX3_readStraight 4 (some .boolean) 5 0 0 [.ref e, .ref a] (wRead g e u R ++ (wTown g a h T)) (DI (bI ((spSt R T).1)) (wRead g e u ((spSt R T).2.1) ++ (wTown g a h ((spSt R T).2.2)))) := by
  refine Ct.of (by decide) (Nat.le_of_ble_eq_true rfl) ?_
  intro X E Er hX _ hnm
  have E : Ob g X cX3_readStraight 4 RX3 := E
  have hJ0 := hr
  have hJ1 : rdJ (rnS R (nI 0) (nI (T.1 1) - nI 1) (-9)) := rnS_J hJ0
  have hJ2 : rdJ (rnS (rnS R (nI 0) (nI (T.1 1) - nI 1) (-9)) (nI 0) (nI (T.1 1) - nI 1) (nI ((rnE R (nI 0) (nI (T.1 1) - nI 1) (-9)) - 1))) := rnS_J hJ1
  have hx1 : (rnE R (nI 0) (nI (T.1 1) - nI 1) (-9)) < 2 ^ 31 := rnE_lt hJ0
  have hx2 : (rnE (rnS R (nI 0) (nI (T.1 1) - nI 1) (-9)) (nI 0) (nI (T.1 1) - nI 1) (nI ((rnE R (nI 0) (nI (T.1 1) - nI 1) (-9)) - 1))) < 2 ^ 31 := rnE_lt hJ1
  refine z_lve (lv' := [(0, .ref e), (1, .ref a)]) rfl ?_
  refine z_aload_n E dX3_readStraight_0 0 rfl rfl ?_
  refine z_iconst (v := (nI 0)) E dX3_readStraight_1 (by decide) ?_
  refine z_aload_n E dX3_readStraight_2 1 rfl rfl ?_
  refine gt_X3_58 (v := .int (nI (T.1 1))) E dX3_readStraight_3 2 rfl rfl ?_
  refine z_iconst (v := (nI 1)) E dX3_readStraight_6 (by decide) ?_
  refine z_isub E dX3_readStraight_7 ?_
  refine z_bipush (v := (-9)) E dX3_readStraight_8 (by decide) ?_
  refine z_rw (ws2 := wRead g e u (rnS R (nI 0) ((nI (T.1 1)) - (nI 1)) (-9)) ++ (wTown g a h T)) E (rV E hX (c_X3_readNumber g e u R (nI 0) ((nI (T.1 1)) - (nI 1)) (-9) (by assumption)) mw_X3_readNumber ml_X3_80 dX3_readStraight_10 (Nat.le_of_ble_eq_true rfl) ⟨(Nat.le_of_ble_eq_true rfl), (Nat.le_of_ble_eq_true rfl)⟩ rfl rfl (Nat.le_of_ble_eq_true rfl) 0 rfl rfl) [0, 1] rfl (by decide) rfl rfl ?_
  refine z_istore_n (lv' := [(0, .ref e), (1, .ref a), (2, .int (pm (rnE R (nI 0) ((nI (T.1 1)) - (nI 1)) (-9))))]) E dX3_readStraight_13 2 rfl (by decide) rfl ?_
  refine z_iload_n E dX3_readStraight_14 2 rfl rfl ?_
  refine z_iconst (v := (-1)) E dX3_readStraight_15 (by decide) ?_
  refine z_icmpP_ne (q := 0) E dX3_readStraight_16 21 (by decide) (by assumption) (by decide) (fun c1 => ?_) (fun c1 => ?_)
  · refine z_lve (lv' := [(0, .ref e), (1, .ref a), (2, .int (nI ((rnE R (nI 0) ((nI (T.1 1)) - (nI 1)) (-9)) - 1)))]) (by rw [pm_pos c1]) ?_
    refine z_aload_n E dX3_readStraight_21 0 rfl rfl ?_
    refine z_iconst (v := (nI 0)) E dX3_readStraight_22 (by decide) ?_
    refine z_aload_n E dX3_readStraight_23 1 rfl rfl ?_
    refine gt_X3_58 (v := .int (nI (T.1 1))) E dX3_readStraight_24 2 rfl rfl ?_
    refine z_iconst (v := (nI 1)) E dX3_readStraight_27 (by decide) ?_
    refine z_isub E dX3_readStraight_28 ?_
    refine z_iload_n E dX3_readStraight_29 2 rfl rfl ?_
    refine z_rw (ws2 := wRead g e u (rnS (rnS R (nI 0) ((nI (T.1 1)) - (nI 1)) (-9)) (nI 0) ((nI (T.1 1)) - (nI 1)) (nI ((rnE R (nI 0) ((nI (T.1 1)) - (nI 1)) (-9)) - 1))) ++ (wTown g a h T)) E (rV E hX (c_X3_readNumber g e u (rnS R (nI 0) ((nI (T.1 1)) - (nI 1)) (-9)) (nI 0) ((nI (T.1 1)) - (nI 1)) (nI ((rnE R (nI 0) ((nI (T.1 1)) - (nI 1)) (-9)) - 1)) (by assumption)) mw_X3_readNumber ml_X3_80 dX3_readStraight_30 (Nat.le_of_ble_eq_true rfl) ⟨(Nat.le_of_ble_eq_true rfl), (Nat.le_of_ble_eq_true rfl)⟩ rfl rfl (Nat.le_of_ble_eq_true rfl) 0 rfl rfl) [0, 1] rfl (by decide) rfl rfl ?_
    refine z_istore_n (lv' := [(0, .ref e), (1, .ref a), (2, .int (nI ((rnE R (nI 0) ((nI (T.1 1)) - (nI 1)) (-9)) - 1))), (3, .int (pm (rnE (rnS R (nI 0) ((nI (T.1 1)) - (nI 1)) (-9)) (nI 0) ((nI (T.1 1)) - (nI 1)) (nI ((rnE R (nI 0) ((nI (T.1 1)) - (nI 1)) (-9)) - 1)))))]) E dX3_readStraight_33 3 rfl (by decide) rfl ?_
    refine z_iload_n E dX3_readStraight_34 3 rfl rfl ?_
    refine z_iconst (v := (-1)) E dX3_readStraight_35 (by decide) ?_
    refine z_icmpP_ne (q := 0) E dX3_readStraight_36 41 (by decide) (by assumption) (by decide) (fun c2 => ?_) (fun c2 => ?_)
    · refine z_lve (lv' := [(0, .ref e), (1, .ref a), (2, .int (nI ((rnE R (nI 0) ((nI (T.1 1)) - (nI 1)) (-9)) - 1))), (3, .int (nI ((rnE (rnS R (nI 0) ((nI (T.1 1)) - (nI 1)) (-9)) (nI 0) ((nI (T.1 1)) - (nI 1)) (nI ((rnE R (nI 0) ((nI (T.1 1)) - (nI 1)) (-9)) - 1))) - 1)))]) (by rw [pm_pos c2]) ?_
      refine z_aload_n E dX3_readStraight_41 1 rfl rfl ?_
      refine z_iload_n E dX3_readStraight_42 2 rfl rfl ?_
      refine z_iload_n E dX3_readStraight_43 3 rfl rfl ?_
      refine z_rwv (ws2 := wRead g e u (rnS (rnS R (nI 0) ((nI (T.1 1)) - (nI 1)) (-9)) (nI 0) ((nI (T.1 1)) - (nI 1)) (nI ((rnE R (nI 0) ((nI (T.1 1)) - (nI 1)) (-9)) - 1))) ++ (wTown g a h (strT T ((rnE R (nI 0) ((nI (T.1 1)) - (nI 1)) (-9)) - 1) ((rnE (rnS R (nI 0) ((nI (T.1 1)) - (nI 1)) (-9)) (nI 0) ((nI (T.1 1)) - (nI 1)) (nI ((rnE R (nI 0) ((nI (T.1 1)) - (nI 1)) (-9)) - 1))) - 1)))) E (rV E hX (c_X4_makeStraight g a h T ((rnE R (nI 0) ((nI (T.1 1)) - (nI 1)) (-9)) - 1) ((rnE (rnS R (nI 0) ((nI (T.1 1)) - (nI 1)) (-9)) (nI 0) ((nI (T.1 1)) - (nI 1)) (nI ((rnE R (nI 0) ((nI (T.1 1)) - (nI 1)) (-9)) - 1))) - 1) (Nat.lt_of_lt_of_le (rn_h1 hJ0 (by omega) c1) hR) (Nat.lt_of_lt_of_le (rn_h1 hJ1 (by omega) c2) hR)) mw_X4_makeStraight ml_X3_91 dX3_readStraight_44 (Nat.le_of_ble_eq_true rfl) ⟨(Nat.le_of_ble_eq_true rfl), (Nat.le_of_ble_eq_true rfl)⟩ rfl rfl (Nat.le_of_ble_eq_true rfl) 0 rfl rfl) [2, 3, 4, 5, 6] rfl (by decide) rfl rfl ?_
      refine z_iconst (v := (nI 1)) E dX3_readStraight_47 (by decide) ?_
      refine z_zret E Er dX3_readStraight_48 (by decide) ?_
      exact ⟨bz1 (by simp only [spSt, if_neg c1, if_neg c2]), by simp only [spSt, if_neg c1, if_neg c2]⟩
    · refine z_iconst (v := (nI 0)) E dX3_readStraight_39 (by decide) ?_
      refine z_zret E Er dX3_readStraight_40 (by decide) ?_
      exact ⟨bz0 (by simp only [spSt, if_neg c1, if_pos c2]), by simp only [spSt, if_neg c1, if_pos c2]⟩
  · refine z_iconst (v := (nI 0)) E dX3_readStraight_19 (by decide) ?_
    refine z_zret E Er dX3_readStraight_20 (by decide) ?_
    exact ⟨bz0 (by simp only [spSt, if_pos c1]), by simp only [spSt, if_pos c1]⟩

set_option maxHeartbeats 4000000 in
set_option maxRecDepth 100000 in
theorem c_X3_readGoal (g : GC) (e : Nat) (u : Nat → Nat) (R : NS) (a : Nat) (h : Nat → Nat) (T : NS) (hr : rdJ R) (hp : 1 ≤ T.1 0) : Ct g yX3_readGoal cX3_readGoal 4 (some .boolean) 5 0 0 [.ref e, .ref a] (wRead g e u R ++ (wTown g a h T)) (DI (bI ((spGo R T).1)) (wRead g e u ((spGo R T).2.1) ++ (wTown g a h ((spGo R T).2.2)))) := by
  refine Ct.of (by decide) (Nat.le_of_ble_eq_true rfl) ?_
  intro X E Er hX _ hnm
  have E : Ob g X cX3_readGoal 4 RX3 := E
  have hJ0 := hr
  have hJ1 : rdJ (rnS R (nI 0) (nI (T.1 0 - 1)) (-9)) := rnS_J hJ0
  have hJ2 : rdJ (rnS (rnS R (nI 0) (nI (T.1 0 - 1)) (-9)) (nI 0) (nI (T.1 0 - 1)) (-9)) := rnS_J hJ1
  have hx1 : (rnE R (nI 0) (nI (T.1 0 - 1)) (-9)) < 2 ^ 31 := rnE_lt hJ0
  have hx2 : (rnE (rnS R (nI 0) (nI (T.1 0 - 1)) (-9)) (nI 0) (nI (T.1 0 - 1)) (-9)) < 2 ^ 31 := rnE_lt hJ1
  refine z_lve (lv' := [(0, .ref e), (1, .ref a)]) rfl ?_
  refine z_aload_n E dX3_readGoal_0 0 rfl rfl ?_
  refine z_iconst (v := (nI 0)) E dX3_readGoal_1 (by decide) ?_
  refine z_aload_n E dX3_readGoal_2 1 rfl rfl ?_
  refine gt_X3_84 (v := .int (nI (T.1 0))) E dX3_readGoal_3 2 rfl rfl ?_
  refine z_iconst (v := (nI 1)) E dX3_readGoal_6 (by decide) ?_
  refine z_isubN E dX3_readGoal_7 (by omega) ?_
  refine z_bipush (v := (-9)) E dX3_readGoal_8 (by decide) ?_
  refine z_rw (ws2 := wRead g e u (rnS R (nI 0) (nI ((T.1 0) - 1)) (-9)) ++ (wTown g a h T)) E (rV E hX (c_X3_readNumber g e u R (nI 0) (nI ((T.1 0) - 1)) (-9) (by assumption)) mw_X3_readNumber ml_X3_80 dX3_readGoal_10 (Nat.le_of_ble_eq_true rfl) ⟨(Nat.le_of_ble_eq_true rfl), (Nat.le_of_ble_eq_true rfl)⟩ rfl rfl (Nat.le_of_ble_eq_true rfl) 0 rfl rfl) [0, 1] rfl (by decide) rfl rfl ?_
  refine z_istore_n (lv' := [(0, .ref e), (1, .ref a), (2, .int (pm (rnE R (nI 0) (nI ((T.1 0) - 1)) (-9))))]) E dX3_readGoal_13 2 rfl (by decide) rfl ?_
  refine z_iload_n E dX3_readGoal_14 2 rfl rfl ?_
  refine z_iconst (v := (-1)) E dX3_readGoal_15 (by decide) ?_
  refine z_icmpP_ne (q := 0) E dX3_readGoal_16 21 (by decide) (by assumption) (by decide) (fun c1 => ?_) (fun c1 => ?_)
  · refine z_lve (lv' := [(0, .ref e), (1, .ref a), (2, .int (nI ((rnE R (nI 0) (nI ((T.1 0) - 1)) (-9)) - 1)))]) (by rw [pm_pos c1]) ?_
    refine z_aload_n E dX3_readGoal_21 0 rfl rfl ?_
    refine z_iconst (v := (nI 0)) E dX3_readGoal_22 (by decide) ?_
    refine z_aload_n E dX3_readGoal_23 1 rfl rfl ?_
    refine gt_X3_84 (v := .int (nI (T.1 0))) E dX3_readGoal_24 2 rfl rfl ?_
    refine z_iconst (v := (nI 1)) E dX3_readGoal_27 (by decide) ?_
    refine z_isubN E dX3_readGoal_28 (by omega) ?_
    refine z_bipush (v := (-9)) E dX3_readGoal_29 (by decide) ?_
    refine z_rw (ws2 := wRead g e u (rnS (rnS R (nI 0) (nI ((T.1 0) - 1)) (-9)) (nI 0) (nI ((T.1 0) - 1)) (-9)) ++ (wTown g a h T)) E (rV E hX (c_X3_readNumber g e u (rnS R (nI 0) (nI ((T.1 0) - 1)) (-9)) (nI 0) (nI ((T.1 0) - 1)) (-9) (by assumption)) mw_X3_readNumber ml_X3_80 dX3_readGoal_31 (Nat.le_of_ble_eq_true rfl) ⟨(Nat.le_of_ble_eq_true rfl), (Nat.le_of_ble_eq_true rfl)⟩ rfl rfl (Nat.le_of_ble_eq_true rfl) 0 rfl rfl) [0, 1] rfl (by decide) rfl rfl ?_
    refine z_istore_n (lv' := [(0, .ref e), (1, .ref a), (2, .int (nI ((rnE R (nI 0) (nI ((T.1 0) - 1)) (-9)) - 1))), (3, .int (pm (rnE (rnS R (nI 0) (nI ((T.1 0) - 1)) (-9)) (nI 0) (nI ((T.1 0) - 1)) (-9))))]) E dX3_readGoal_34 3 rfl (by decide) rfl ?_
    refine z_iload_n E dX3_readGoal_35 3 rfl rfl ?_
    refine z_iconst (v := (-1)) E dX3_readGoal_36 (by decide) ?_
    refine z_icmpP_ne (q := 0) E dX3_readGoal_37 42 (by decide) (by assumption) (by decide) (fun c2 => ?_) (fun c2 => ?_)
    · refine z_lve (lv' := [(0, .ref e), (1, .ref a), (2, .int (nI ((rnE R (nI 0) (nI ((T.1 0) - 1)) (-9)) - 1))), (3, .int (nI ((rnE (rnS R (nI 0) (nI ((T.1 0) - 1)) (-9)) (nI 0) (nI ((T.1 0) - 1)) (-9)) - 1)))]) (by rw [pm_pos c2]) ?_
      refine z_aload_n E dX3_readGoal_42 1 rfl rfl ?_
      refine z_iload_n E dX3_readGoal_43 2 rfl rfl ?_
      refine pt_X3_95 (x := nI ((rnE R (nI 0) (nI ((T.1 0) - 1)) (-9)) - 1)) (ws' := wRead g e u (rnS (rnS R (nI 0) (nI ((T.1 0) - 1)) (-9)) (nI 0) (nI ((T.1 0) - 1)) (-9)) ++ (wTown g a h (sF T 2 ((rnE R (nI 0) (nI ((T.1 0) - 1)) (-9)) - 1)))) E dX3_readGoal_44 2 rfl (Nat.le_of_ble_eq_true rfl) rfl ?_
      refine z_aload_n E dX3_readGoal_47 1 rfl rfl ?_
      refine z_iload_n E dX3_readGoal_48 3 rfl rfl ?_
      refine pt_X3_98 (x := nI ((rnE (rnS R (nI 0) (nI ((T.1 0) - 1)) (-9)) (nI 0) (nI ((T.1 0) - 1)) (-9)) - 1)) (ws' := wRead g e u (rnS (rnS R (nI 0) (nI ((T.1 0) - 1)) (-9)) (nI 0) (nI ((T.1 0) - 1)) (-9)) ++ (wTown g a h (sF (sF T 2 ((rnE R (nI 0) (nI ((T.1 0) - 1)) (-9)) - 1)) 3 ((rnE (rnS R (nI 0) (nI ((T.1 0) - 1)) (-9)) (nI 0) (nI ((T.1 0) - 1)) (-9)) - 1)))) E dX3_readGoal_49 2 rfl (Nat.le_of_ble_eq_true rfl) rfl ?_
      refine z_aload_n E dX3_readGoal_52 0 rfl rfl ?_
      refine z_iconst (v := (nI 1)) E dX3_readGoal_53 (by decide) ?_
      refine pt_X3_45 (x := 1) (ws' := wRead g e u (sF (rnS (rnS R (nI 0) (nI ((T.1 0) - 1)) (-9)) (nI 0) (nI ((T.1 0) - 1)) (-9)) 6 1) ++ (wTown g a h (sF (sF T 2 ((rnE R (nI 0) (nI ((T.1 0) - 1)) (-9)) - 1)) 3 ((rnE (rnS R (nI 0) (nI ((T.1 0) - 1)) (-9)) (nI 0) (nI ((T.1 0) - 1)) (-9)) - 1)))) E dX3_readGoal_54 0 rfl (Nat.le_of_ble_eq_true rfl) (by decide) rfl ?_
      refine z_iconst (v := (nI 1)) E dX3_readGoal_57 (by decide) ?_
      refine z_zret E Er dX3_readGoal_58 (by decide) ?_
      exact ⟨bz1 (by simp only [spGo, if_neg c1, if_neg c2]), by simp only [spGo, if_neg c1, if_neg c2]⟩
    · refine z_iconst (v := (nI 0)) E dX3_readGoal_40 (by decide) ?_
      refine z_zret E Er dX3_readGoal_41 (by decide) ?_
      exact ⟨bz0 (by simp only [spGo, if_neg c1, if_pos c2]), by simp only [spGo, if_neg c1, if_pos c2]⟩
  · refine z_iconst (v := (nI 0)) E dX3_readGoal_19 (by decide) ?_
    refine z_zret E Er dX3_readGoal_20 (by decide) ?_
    exact ⟨bz0 (by simp only [spGo, if_pos c1]), by simp only [spGo, if_pos c1]⟩

set_option maxHeartbeats 4000000 in
set_option maxRecDepth 100000 in
theorem c_X3_readNerves (g : GC) (e : Nat) (u : Nat → Nat) (R : NS) (a : Nat) (h : Nat → Nat) (T : NS) (hr : rdJ R) : Ct g yX3_readNerves cX3_readNerves 3 (some .boolean) 5 0 0 [.ref e, .ref a] (wRead g e u R ++ (wTown g a h T)) (DI (bI ((spNe R T).1)) (wRead g e u ((spNe R T).2.1) ++ (wTown g a h ((spNe R T).2.2)))) := by
  refine Ct.of (by decide) (Nat.le_of_ble_eq_true rfl) ?_
  intro X E Er hX _ hnm
  have E : Ob g X cX3_readNerves 3 RX3 := E
  have hJ0 := hr
  have hJ1 : rdJ (rnS R (nI 0) (nI 20) (-9)) := rnS_J hJ0
  have hx1 : (rnE R (nI 0) (nI 20) (-9)) < 2 ^ 31 := rnE_lt hJ0
  refine z_lve (lv' := [(0, .ref e), (1, .ref a)]) rfl ?_
  refine z_aload_n E dX3_readNerves_0 0 rfl rfl ?_
  refine z_iconst (v := (nI 0)) E dX3_readNerves_1 (by decide) ?_
  refine z_bipush (v := (nI 20)) E dX3_readNerves_2 (by decide) ?_
  refine z_bipush (v := (-9)) E dX3_readNerves_4 (by decide) ?_
  refine z_rw (ws2 := wRead g e u (rnS R (nI 0) (nI 20) (-9)) ++ (wTown g a h T)) E (rV E hX (c_X3_readNumber g e u R (nI 0) (nI 20) (-9) (by assumption)) mw_X3_readNumber ml_X3_80 dX3_readNerves_6 (Nat.le_of_ble_eq_true rfl) ⟨(Nat.le_of_ble_eq_true rfl), (Nat.le_of_ble_eq_true rfl)⟩ rfl rfl (Nat.le_of_ble_eq_true rfl) 0 rfl rfl) [0, 1] rfl (by decide) rfl rfl ?_
  refine z_istore_n (lv' := [(0, .ref e), (1, .ref a), (2, .int (pm (rnE R (nI 0) (nI 20) (-9))))]) E dX3_readNerves_9 2 rfl (by decide) rfl ?_
  refine z_iload_n E dX3_readNerves_10 2 rfl rfl ?_
  refine z_iconst (v := (-1)) E dX3_readNerves_11 (by decide) ?_
  refine z_icmpP_ne (q := 0) E dX3_readNerves_12 17 (by decide) (by assumption) (by decide) (fun c1 => ?_) (fun c1 => ?_)
  · refine z_lve (lv' := [(0, .ref e), (1, .ref a), (2, .int (nI ((rnE R (nI 0) (nI 20) (-9)) - 1)))]) (by rw [pm_pos c1]) ?_
    refine z_aload_n E dX3_readNerves_17 1 rfl rfl ?_
    refine z_iload_n E dX3_readNerves_18 2 rfl rfl ?_
    refine pt_X3_101 (x := nI ((rnE R (nI 0) (nI 20) (-9)) - 1)) (ws' := wRead g e u (rnS R (nI 0) (nI 20) (-9)) ++ (wTown g a h (sF T 4 ((rnE R (nI 0) (nI 20) (-9)) - 1)))) E dX3_readNerves_19 2 rfl (Nat.le_of_ble_eq_true rfl) rfl ?_
    refine z_aload_n E dX3_readNerves_22 0 rfl rfl ?_
    refine z_iconst (v := (nI 1)) E dX3_readNerves_23 (by decide) ?_
    refine pt_X3_49 (x := 1) (ws' := wRead g e u (sF (rnS R (nI 0) (nI 20) (-9)) 7 1) ++ (wTown g a h (sF T 4 ((rnE R (nI 0) (nI 20) (-9)) - 1)))) E dX3_readNerves_24 0 rfl (Nat.le_of_ble_eq_true rfl) (by decide) rfl ?_
    refine z_iconst (v := (nI 1)) E dX3_readNerves_27 (by decide) ?_
    refine z_zret E Er dX3_readNerves_28 (by decide) ?_
    exact ⟨bz1 (by simp only [spNe, if_neg c1]), by simp only [spNe, if_neg c1]⟩
  · refine z_iconst (v := (nI 0)) E dX3_readNerves_15 (by decide) ?_
    refine z_zret E Er dX3_readNerves_16 (by decide) ?_
    exact ⟨bz0 (by simp only [spNe, if_pos c1]), by simp only [spNe, if_pos c1]⟩

set_option maxHeartbeats 4000000 in
set_option maxRecDepth 100000 in
theorem c_X3_readLoad (g : GC) (e : Nat) (u : Nat → Nat) (R : NS) (a : Nat) (h : Nat → Nat) (T : NS) (hr : rdJ R) : Ct g yX3_readLoad cX3_readLoad 3 (some .boolean) 5 0 0 [.ref e, .ref a] (wRead g e u R ++ (wTown g a h T)) (DI (bI ((spLo R T).1)) (wRead g e u ((spLo R T).2.1) ++ (wTown g a h ((spLo R T).2.2)))) := by
  refine Ct.of (by decide) (Nat.le_of_ble_eq_true rfl) ?_
  intro X E Er hX _ hnm
  have E : Ob g X cX3_readLoad 3 RX3 := E
  have hJ0 := hr
  have hJ1 : rdJ (rnS R (nI 0) (nI 9) (-9)) := rnS_J hJ0
  have hx1 : (rnE R (nI 0) (nI 9) (-9)) < 2 ^ 31 := rnE_lt hJ0
  refine z_lve (lv' := [(0, .ref e), (1, .ref a)]) rfl ?_
  refine z_aload_n E dX3_readLoad_0 0 rfl rfl ?_
  refine z_iconst (v := (nI 0)) E dX3_readLoad_1 (by decide) ?_
  refine z_bipush (v := (nI 9)) E dX3_readLoad_2 (by decide) ?_
  refine z_bipush (v := (-9)) E dX3_readLoad_4 (by decide) ?_
  refine z_rw (ws2 := wRead g e u (rnS R (nI 0) (nI 9) (-9)) ++ (wTown g a h T)) E (rV E hX (c_X3_readNumber g e u R (nI 0) (nI 9) (-9) (by assumption)) mw_X3_readNumber ml_X3_80 dX3_readLoad_6 (Nat.le_of_ble_eq_true rfl) ⟨(Nat.le_of_ble_eq_true rfl), (Nat.le_of_ble_eq_true rfl)⟩ rfl rfl (Nat.le_of_ble_eq_true rfl) 0 rfl rfl) [0, 1] rfl (by decide) rfl rfl ?_
  refine z_istore_n (lv' := [(0, .ref e), (1, .ref a), (2, .int (pm (rnE R (nI 0) (nI 9) (-9))))]) E dX3_readLoad_9 2 rfl (by decide) rfl ?_
  refine z_iload_n E dX3_readLoad_10 2 rfl rfl ?_
  refine z_iconst (v := (-1)) E dX3_readLoad_11 (by decide) ?_
  refine z_icmpP_ne (q := 0) E dX3_readLoad_12 17 (by decide) (by assumption) (by decide) (fun c1 => ?_) (fun c1 => ?_)
  · refine z_lve (lv' := [(0, .ref e), (1, .ref a), (2, .int (nI ((rnE R (nI 0) (nI 9) (-9)) - 1)))]) (by rw [pm_pos c1]) ?_
    refine z_aload_n E dX3_readLoad_17 1 rfl rfl ?_
    refine z_iload_n E dX3_readLoad_18 2 rfl rfl ?_
    refine pt_X3_104 (x := nI ((rnE R (nI 0) (nI 9) (-9)) - 1)) (ws' := wRead g e u (rnS R (nI 0) (nI 9) (-9)) ++ (wTown g a h (sF T 5 ((rnE R (nI 0) (nI 9) (-9)) - 1)))) E dX3_readLoad_19 2 rfl (Nat.le_of_ble_eq_true rfl) rfl ?_
    refine z_aload_n E dX3_readLoad_22 0 rfl rfl ?_
    refine z_iconst (v := (nI 1)) E dX3_readLoad_23 (by decide) ?_
    refine pt_X3_52 (x := 1) (ws' := wRead g e u (sF (rnS R (nI 0) (nI 9) (-9)) 8 1) ++ (wTown g a h (sF T 5 ((rnE R (nI 0) (nI 9) (-9)) - 1)))) E dX3_readLoad_24 0 rfl (Nat.le_of_ble_eq_true rfl) (by decide) rfl ?_
    refine z_iconst (v := (nI 1)) E dX3_readLoad_27 (by decide) ?_
    refine z_zret E Er dX3_readLoad_28 (by decide) ?_
    exact ⟨bz1 (by simp only [spLo, if_neg c1]), by simp only [spLo, if_neg c1]⟩
  · refine z_iconst (v := (nI 0)) E dX3_readLoad_15 (by decide) ?_
    refine z_zret E Er dX3_readLoad_16 (by decide) ?_
    exact ⟨bz0 (by simp only [spLo, if_pos c1]), by simp only [spLo, if_pos c1]⟩

def cbF (R T : NS) (x f : Nat) : Bool := if x = 115 then decide (f ≠ 0) else if x = 117 then decide (T.1 1 < 12) else if x = 118 then true else if x = 106 then decide (R.1 6 = 0) else if x = 113 then decide (R.1 7 = 0) else if x = 111 then decide (R.1 8 = 0) else false
noncomputable def spNum (R T : NS) (x : Nat) : Bool × NS × NS := if x = 115 then spPl R T else if x = 117 then spRo R T else if x = 118 then spSt R T else if x = 106 then spGo R T else if x = 113 then spNe R T else if x = 111 then spLo R T else (false, R, T)
theorem bzN {f : Nat} {b : Bool} (h : f ≤ 1) (hb : b = decide (f ≠ 0)) : some (Value.int (nI f)) = some (.int (bI b)) := by
  rcases (show f = 0 ∨ f = 1 by omega) with rfl | rfl <;> rw [hb] <;> rfl

set_option maxHeartbeats 4000000 in
set_option maxRecDepth 100000 in
theorem c_X3_canBegin (g : GC) (e : Nat) (u : Nat → Nat) (R : NS) (a : Nat) (h : Nat → Nat) (T : NS) (x : Nat) (f : Nat) (hsR : sm R) (hR : T.1 1 ≤ 12) (hx : tkOK x) (hf : f ≤ 1) : Ct g yX3_canBegin cX3_canBegin 4 (some .boolean) 0 0 0 [.ref e, .int (tk x), .ref a, .int (nI f)] (wRead g e u R ++ (wTown g a h T)) (DI (bI (cbF R T x f)) (wRead g e u R ++ (wTown g a h T))) := by
  refine Ct.of (by decide) (Nat.le_of_ble_eq_true rfl) ?_
  intro X E Er hX _ hnm
  have E : Ob g X cX3_canBegin 4 RX3 := E
  have h6 := hsR.1 6
  have h7 := hsR.1 7
  have h8 := hsR.1 8
  refine z_lve (lv' := [(0, .ref e), (1, .int (tk x)), (2, .ref a), (3, .int (nI f))]) rfl ?_
  refine z_iload_n E dX3_canBegin_0 1 rfl rfl ?_
  rcases hx with rfl | rfl | rfl | rfl | rfl | rfl | rfl | rfl | rfl | rfl
  · refine z_tabOut E dX3_canBegin_1 126 (by decide) (by decide) ?_
    refine z_iconst (v := (nI 0)) E dX3_canBegin_126 (by decide) ?_
    refine z_zret E Er dX3_canBegin_127 (by decide) ?_
    exact ⟨bz0 (by simp [cbF]), rfl⟩
  · refine z_tabOut E dX3_canBegin_1 126 (by decide) (by decide) ?_
    refine z_iconst (v := (nI 0)) E dX3_canBegin_126 (by decide) ?_
    refine z_zret E Er dX3_canBegin_127 (by decide) ?_
    exact ⟨bz0 (by simp [cbF]), rfl⟩
  · refine z_tabOut E dX3_canBegin_1 126 (by decide) (by decide) ?_
    refine z_iconst (v := (nI 0)) E dX3_canBegin_126 (by decide) ?_
    refine z_zret E Er dX3_canBegin_127 (by decide) ?_
    exact ⟨bz0 (by simp [cbF]), rfl⟩
  · refine z_tabOut E dX3_canBegin_1 126 (by decide) (by decide) ?_
    refine z_iconst (v := (nI 0)) E dX3_canBegin_126 (by decide) ?_
    refine z_zret E Er dX3_canBegin_127 (by decide) ?_
    exact ⟨bz0 (by simp [cbF]), rfl⟩
  · refine z_tabIn (off := 86) E dX3_canBegin_1 87 (by decide) (by decide) (by decide) (by decide) ?_
    refine z_aload_n E dX3_canBegin_87 0 rfl rfl ?_
    refine gt_X3_45 (v := .int (nI (R.1 6))) E dX3_canBegin_88 0 rfl rfl ?_
    refine z_ifN_ne E dX3_canBegin_91 98 (by decide) (hsR.1 _) (fun c1 => ?_) (fun c1 => ?_)
    · refine z_iconst (v := (nI 0)) E dX3_canBegin_98 (by decide) ?_
      refine z_zret E Er dX3_canBegin_99 (by decide) ?_
      exact ⟨bz0 (by simp [cbF, c1]), rfl⟩
    · refine z_iconst (v := (nI 1)) E dX3_canBegin_94 (by decide) ?_
      refine z_goto E dX3_canBegin_95 99 (by decide) ?_
      refine z_zret E Er dX3_canBegin_99 (by decide) ?_
      exact ⟨bz1 (by simp [cbF, c1]), rfl⟩
  · refine z_tabIn (off := 112) E dX3_canBegin_1 113 (by decide) (by decide) (by decide) (by decide) ?_
    refine z_aload_n E dX3_canBegin_113 0 rfl rfl ?_
    refine gt_X3_52 (v := .int (nI (R.1 8))) E dX3_canBegin_114 0 rfl rfl ?_
    refine z_ifN_ne E dX3_canBegin_117 124 (by decide) (hsR.1 _) (fun c1 => ?_) (fun c1 => ?_)
    · refine z_iconst (v := (nI 0)) E dX3_canBegin_124 (by decide) ?_
      refine z_zret E Er dX3_canBegin_125 (by decide) ?_
      exact ⟨bz0 (by simp [cbF, c1]), rfl⟩
    · refine z_iconst (v := (nI 1)) E dX3_canBegin_120 (by decide) ?_
      refine z_goto E dX3_canBegin_121 125 (by decide) ?_
      refine z_zret E Er dX3_canBegin_125 (by decide) ?_
      exact ⟨bz1 (by simp [cbF, c1]), rfl⟩
  · refine z_tabIn (off := 99) E dX3_canBegin_1 100 (by decide) (by decide) (by decide) (by decide) ?_
    refine z_aload_n E dX3_canBegin_100 0 rfl rfl ?_
    refine gt_X3_49 (v := .int (nI (R.1 7))) E dX3_canBegin_101 0 rfl rfl ?_
    refine z_ifN_ne E dX3_canBegin_104 111 (by decide) (hsR.1 _) (fun c1 => ?_) (fun c1 => ?_)
    · refine z_iconst (v := (nI 0)) E dX3_canBegin_111 (by decide) ?_
      refine z_zret E Er dX3_canBegin_112 (by decide) ?_
      exact ⟨bz0 (by simp [cbF, c1]), rfl⟩
    · refine z_iconst (v := (nI 1)) E dX3_canBegin_107 (by decide) ?_
      refine z_goto E dX3_canBegin_108 112 (by decide) ?_
      refine z_zret E Er dX3_canBegin_112 (by decide) ?_
      exact ⟨bz1 (by simp [cbF, c1]), rfl⟩
  · refine z_tabIn (off := 67) E dX3_canBegin_1 68 (by decide) (by decide) (by decide) (by decide) ?_
    refine z_iload_n E dX3_canBegin_68 3 rfl rfl ?_
    refine z_zret E Er dX3_canBegin_69 (narb01 hf) ?_
    exact ⟨bzN hf (by simp [cbF]), rfl⟩
  · refine z_tabIn (off := 69) E dX3_canBegin_1 70 (by decide) (by decide) (by decide) (by decide) ?_
    refine z_aload_n E dX3_canBegin_70 2 rfl rfl ?_
    refine gt_X3_58 (v := .int (nI (T.1 1))) E dX3_canBegin_71 2 rfl rfl ?_
    refine z_bipush (v := (nI 12)) E dX3_canBegin_74 (by decide) ?_
    refine z_icmpN_ge E dX3_canBegin_76 83 (by decide) (by omega) (by decide) (fun c1 => ?_) (fun c1 => ?_)
    · refine z_iconst (v := (nI 0)) E dX3_canBegin_83 (by decide) ?_
      refine z_zret E Er dX3_canBegin_84 (by decide) ?_
      exact ⟨bz0 (by simp [cbF, c1]), rfl⟩
    · refine z_iconst (v := (nI 1)) E dX3_canBegin_79 (by decide) ?_
      refine z_goto E dX3_canBegin_80 84 (by decide) ?_
      refine z_zret E Er dX3_canBegin_84 (by decide) ?_
      exact ⟨bz1 (by simp [cbF, c1]), rfl⟩
  · refine z_tabIn (off := 84) E dX3_canBegin_1 85 (by decide) (by decide) (by decide) (by decide) ?_
    refine z_iconst (v := (nI 1)) E dX3_canBegin_85 (by decide) ?_
    refine z_zret E Er dX3_canBegin_86 (by decide) ?_
    exact ⟨bz1 (by simp [cbF]), rfl⟩

set_option maxHeartbeats 4000000 in
set_option maxRecDepth 100000 in
theorem c_X3_readNumbers (g : GC) (e : Nat) (u : Nat → Nat) (R : NS) (a : Nat) (h : Nat → Nat) (T : NS) (x : Nat) (hr : rdJ R) (hx : tkOK x) (hp : 1 ≤ T.1 0) (hR : T.1 1 ≤ 12) (hR2 : x = 117 → T.1 1 < 12) : Ct g yX3_readNumbers cX3_readNumbers 3 (some .boolean) 6 0 0 [.ref e, .int (tk x), .ref a] (wRead g e u R ++ (wTown g a h T)) (DI (bI ((spNum R T x).1)) (wRead g e u ((spNum R T x).2.1) ++ (wTown g a h ((spNum R T x).2.2)))) := by
  refine Ct.of (by decide) (Nat.le_of_ble_eq_true rfl) ?_
  intro X E Er hX _ hnm
  have E : Ob g X cX3_readNumbers 3 RX3 := E
  refine z_lve (lv' := [(0, .ref e), (1, .int (tk x)), (2, .ref a)]) rfl ?_
  refine z_iload_n E dX3_readNumbers_0 1 rfl rfl ?_
  rcases hx with rfl | rfl | rfl | rfl | rfl | rfl | rfl | rfl | rfl | rfl
  · refine z_tabOut E dX3_readNumbers_1 104 (by decide) (by decide) ?_
    refine z_iconst (v := (nI 0)) E dX3_readNumbers_104 (by decide) ?_
    refine z_zret E Er dX3_readNumbers_105 (by decide) ?_
    exact ⟨bz0 (by simp [spNum]), by simp [spNum]⟩
  · refine z_tabOut E dX3_readNumbers_1 104 (by decide) (by decide) ?_
    refine z_iconst (v := (nI 0)) E dX3_readNumbers_104 (by decide) ?_
    refine z_zret E Er dX3_readNumbers_105 (by decide) ?_
    exact ⟨bz0 (by simp [spNum]), by simp [spNum]⟩
  · refine z_tabOut E dX3_readNumbers_1 104 (by decide) (by decide) ?_
    refine z_iconst (v := (nI 0)) E dX3_readNumbers_104 (by decide) ?_
    refine z_zret E Er dX3_readNumbers_105 (by decide) ?_
    exact ⟨bz0 (by simp [spNum]), by simp [spNum]⟩
  · refine z_tabOut E dX3_readNumbers_1 104 (by decide) (by decide) ?_
    refine z_iconst (v := (nI 0)) E dX3_readNumbers_104 (by decide) ?_
    refine z_zret E Er dX3_readNumbers_105 (by decide) ?_
    exact ⟨bz0 (by simp [spNum]), by simp [spNum]⟩
  · refine z_tabIn (off := 85) E dX3_readNumbers_1 86 (by decide) (by decide) (by decide) (by decide) ?_
    refine z_aload_n E dX3_readNumbers_86 0 rfl rfl ?_
    refine z_aload_n E dX3_readNumbers_87 2 rfl rfl ?_
    refine z_rw0 (w2 := wRead g e u ((spGo R T).2.1) ++ (wTown g a h ((spGo R T).2.2))) E (rV E hX (c_X3_readGoal g e u R a h T (by assumption) (by omega)) mw_X3_readGoal ml_X3_71 dX3_readNumbers_88 (Nat.le_of_ble_eq_true rfl) ⟨(Nat.le_of_ble_eq_true rfl), (Nat.le_of_ble_eq_true rfl)⟩ rfl rfl (Nat.le_of_ble_eq_true rfl) 0 rfl rfl) rfl ?_
    refine z_zret E Er dX3_readNumbers_91 (bI_nar _) ?_
    exact ⟨by simp [spNum], by simp [spNum]⟩
  · refine z_tabIn (off := 97) E dX3_readNumbers_1 98 (by decide) (by decide) (by decide) (by decide) ?_
    refine z_aload_n E dX3_readNumbers_98 0 rfl rfl ?_
    refine z_aload_n E dX3_readNumbers_99 2 rfl rfl ?_
    refine z_rw0 (w2 := wRead g e u ((spLo R T).2.1) ++ (wTown g a h ((spLo R T).2.2))) E (rV E hX (c_X3_readLoad g e u R a h T (by assumption)) mw_X3_readLoad ml_X3_77 dX3_readNumbers_100 (Nat.le_of_ble_eq_true rfl) ⟨(Nat.le_of_ble_eq_true rfl), (Nat.le_of_ble_eq_true rfl)⟩ rfl rfl (Nat.le_of_ble_eq_true rfl) 0 rfl rfl) rfl ?_
    refine z_zret E Er dX3_readNumbers_103 (bI_nar _) ?_
    exact ⟨by simp [spNum], by simp [spNum]⟩
  · refine z_tabIn (off := 91) E dX3_readNumbers_1 92 (by decide) (by decide) (by decide) (by decide) ?_
    refine z_aload_n E dX3_readNumbers_92 0 rfl rfl ?_
    refine z_aload_n E dX3_readNumbers_93 2 rfl rfl ?_
    refine z_rw0 (w2 := wRead g e u ((spNe R T).2.1) ++ (wTown g a h ((spNe R T).2.2))) E (rV E hX (c_X3_readNerves g e u R a h T (by assumption)) mw_X3_readNerves ml_X3_74 dX3_readNumbers_94 (Nat.le_of_ble_eq_true rfl) ⟨(Nat.le_of_ble_eq_true rfl), (Nat.le_of_ble_eq_true rfl)⟩ rfl rfl (Nat.le_of_ble_eq_true rfl) 0 rfl rfl) rfl ?_
    refine z_zret E Er dX3_readNumbers_97 (bI_nar _) ?_
    exact ⟨by simp [spNum], by simp [spNum]⟩
  · refine z_tabIn (off := 67) E dX3_readNumbers_1 68 (by decide) (by decide) (by decide) (by decide) ?_
    refine z_aload_n E dX3_readNumbers_68 0 rfl rfl ?_
    refine z_aload_n E dX3_readNumbers_69 2 rfl rfl ?_
    refine z_rw0 (w2 := wRead g e u ((spPl R T).2.1) ++ (wTown g a h ((spPl R T).2.2))) E (rV E hX (c_X3_readPlaces g e u R a h T (by assumption)) mw_X3_readPlaces ml_X3_61 dX3_readNumbers_70 (Nat.le_of_ble_eq_true rfl) ⟨(Nat.le_of_ble_eq_true rfl), (Nat.le_of_ble_eq_true rfl)⟩ rfl rfl (Nat.le_of_ble_eq_true rfl) 0 rfl rfl) rfl ?_
    refine z_zret E Er dX3_readNumbers_73 (bI_nar _) ?_
    exact ⟨by simp [spNum], by simp [spNum]⟩
  · refine z_tabIn (off := 73) E dX3_readNumbers_1 74 (by decide) (by decide) (by decide) (by decide) ?_
    refine z_aload_n E dX3_readNumbers_74 0 rfl rfl ?_
    refine z_aload_n E dX3_readNumbers_75 2 rfl rfl ?_
    refine z_rw0 (w2 := wRead g e u ((spRo R T).2.1) ++ (wTown g a h ((spRo R T).2.2))) E (rV E hX (c_X3_readRoad g e u R a h T (by assumption) (by omega) (hR2 rfl)) mw_X3_readRoad ml_X3_65 dX3_readNumbers_76 (Nat.le_of_ble_eq_true rfl) ⟨(Nat.le_of_ble_eq_true rfl), (Nat.le_of_ble_eq_true rfl)⟩ rfl rfl (Nat.le_of_ble_eq_true rfl) 0 rfl rfl) rfl ?_
    refine z_zret E Er dX3_readNumbers_79 (bI_nar _) ?_
    exact ⟨by simp [spNum], by simp [spNum]⟩
  · refine z_tabIn (off := 79) E dX3_readNumbers_1 80 (by decide) (by decide) (by decide) (by decide) ?_
    refine z_aload_n E dX3_readNumbers_80 0 rfl rfl ?_
    refine z_aload_n E dX3_readNumbers_81 2 rfl rfl ?_
    refine z_rw0 (w2 := wRead g e u ((spSt R T).2.1) ++ (wTown g a h ((spSt R T).2.2))) E (rV E hX (c_X3_readStraight g e u R a h T (by assumption) (by omega)) mw_X3_readStraight ml_X3_68 dX3_readNumbers_82 (Nat.le_of_ble_eq_true rfl) ⟨(Nat.le_of_ble_eq_true rfl), (Nat.le_of_ble_eq_true rfl)⟩ rfl rfl (Nat.le_of_ble_eq_true rfl) 0 rfl rfl) rfl ?_
    refine z_zret E Er dX3_readNumbers_85 (bI_nar _) ?_
    exact ⟨by simp [spNum], by simp [spNum]⟩
