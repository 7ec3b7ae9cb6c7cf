theorem wi_nI {x : Int32} {lo hi : Nat} (hlo : lo < 2 ^ 31) (hhi : hi < 2 ^ 31) (h : wi x (nI lo) (nI hi) = true) : ∃ j, lo ≤ j ∧ j ≤ hi ∧ x = nI j := by
  unfold wi at h
  simp only [Bool.and_eq_true, Bool.not_eq_true', decide_eq_false_iff_not] at h
  have h1 := h.1
  have h2 := h.2
  rw [Int32.lt_iff_toInt_lt, nI_toInt hlo] at h1
  rw [Int32.lt_iff_toInt_lt, nI_toInt hhi] at h2
  have h0 : ¬ x < 0 := by
    rw [Int32.lt_iff_toInt_lt]
    have : (0 : Int32).toInt = 0 := by decide
    omega
  obtain ⟨j, hj, rfl⟩ := nI_of h0
  rw [nI_toInt hj] at h1 h2
  exact ⟨j, by omega, by omega, rfl⟩
theorem hasR_nI {T : NS} {r : Int32} (hR : T.1 1 < 2 ^ 31) (h : hasR T r = true) : ∃ j, j < T.1 1 ∧ r = nI j := by
  unfold hasR at h
  simp only [Bool.and_eq_true, Bool.not_eq_true', decide_eq_false_iff_not] at h
  obtain ⟨j, hj, rfl⟩ := nI_of h.1
  exact ⟨j, Nat.lt_of_not_le (fun q => h.2 ((nI_leI hR hj).mpr q)), rfl⟩
theorem hasP_nI {T : NS} {r : Int32} (hR : T.1 0 < 2 ^ 31) (h : hasP T r = true) : ∃ j, j < T.1 0 ∧ r = nI j := by
  unfold hasP at h
  simp only [Bool.and_eq_true, Bool.not_eq_true', decide_eq_false_iff_not] at h
  obtain ⟨j, hj, rfl⟩ := nI_of h.1
  exact ⟨j, Nat.lt_of_not_le (fun q => h.2 ((nI_leI hR hj).mpr q)), rfl⟩
/-- a choice by a number -/
def swF (w : Int32) (l : List Int32) (d : Int32) : Int32 := if 0 ≤ w.toInt ∧ w.toInt < l.length then l.getD w.toInt.toNat d else d
theorem swF_k {l : List Int32} {d : Int32} (k : Nat) (hk : k < l.length) (h31 : k < 2 ^ 31) : swF (nI k) l d = l.getD k d := by
  unfold swF
  rw [nI_toInt h31, if_pos ⟨by omega, by omega⟩]
  rfl
theorem swF_o {w : Int32} {l : List Int32} {d : Int32} (h : w.toInt < 0 ∨ (l.length : Int) ≤ w.toInt) : swF w l d = d := by
  unfold swF
  rw [if_neg (by omega)]
theorem sw_cases (w : Int32) (n : Nat) : (w.toInt < 0 ∨ (n : Int) < w.toInt) ∨ ∃ k, k ≤ n ∧ w = nI k := by
  by_cases h : w.toInt < 0 ∨ (n : Int) < w.toInt
  · exact Or.inl h
  · right
    have h0 : ¬ w < 0 := by
      rw [Int32.lt_iff_toInt_lt]
      have : (0 : Int32).toInt = 0 := by decide
      omega
    obtain ⟨j, hj, rfl⟩ := nI_of h0
    rw [nI_toInt hj] at h
    exact ⟨j, by omega, rfl⟩

set_option maxHeartbeats 4000000 in
set_option maxRecDepth 100000 in
theorem c_X6_type (g : GC) (x : Nat) (y : Nat → Nat) (W : NS) (im : Nat → Nat) (rd : Nat) (hr : Nat → Nat) (R : NS) (a : Nat) (h : Nat → Nat) (T : NS) (dr : Nat) (hd : Nat → Nat) (D : NS) (p : Nat) (q : Nat → Nat) (P : NS) (pa : Nat) (hpa : Nat → Nat) (S : NS) (b : Nat → Nat) (j : Nat → Nat → Nat) (U : Nat → NS) (vo : Nat) (hv : Nat → Nat) (V : NS) (t : Nat) (ch : Nat) (ho : Nat → Nat) (O : NS) (i0 : Nat → Nat) (I0 : NS) (i1 : Nat → Nat) (I1 : NS) (l : Int32) (hrI : rdI R) (hT : tdI T) (hs4 : P.1 4 < 4096) : Ct g yX6_type cX6_type 2 (some .int) 2 0 0 [.ref x, .int l] (wTV g x y rd a dr p pa vo ch im W ++ (wRead g rd hr R ++ (wTown g a h T ++ (wTown g dr hd D ++ (wPres g p q P ++ (wPast g pa hpa b j U S ++ (wVoice g vo hv t V ++ (wOdds g ch ho O ++ (wPres g (im 0) i0 I0 ++ (wPres g (im 1) i1 I1)))))))))) (DI (if wi l (nI 0) (nI 255) = true then (if R.1 1 < 200 then nI (R.1 1 + 1) else -3) else -1) (wTV g x y rd a dr p pa vo ch im W ++ (wRead g rd hr (if wi l (nI 0) (nI 255) = true then (if R.1 1 < 200 then sA (sF R 1 (R.1 1 + 1)) 0 (va_up (R.2 0) (R.1 1) l.toNatClampNeg) else R) else R) ++ (wTown g a h T ++ (wTown g dr hd D ++ (wPres g p q P ++ (wPast g pa hpa b j U S ++ (wVoice g vo hv t V ++ (wOdds g ch ho O ++ (wPres g (im 0) i0 I0 ++ (wPres g (im 1) i1 I1))))))))))) := by
  refine Ct.of (by decide) (Nat.le_of_ble_eq_true rfl) ?_
  intro X E Er hX _ hnm
  have E : Ob g X cX6_type 2 RX6 := E
  refine z_lve (lv' := [(0, .ref x), (1, .int l)]) rfl ?_
  refine z_iload_n E dX6_type_0 1 rfl rfl ?_
  refine z_iconst (v := (nI 0)) E dX6_type_1 (by decide) ?_
  refine z_sipush (v := (nI 255)) E dX6_type_2 (by decide) ?_
  refine z_se E (rS E hX (c_X6_isWithin g l (nI 0) (nI 255)) mw_X6_isWithin ms_X6_isWithin ml_X6_80 dX6_type_5 (Nat.le_of_ble_eq_true rfl) ⟨(Nat.le_of_ble_eq_true rfl), (Nat.le_of_ble_eq_true rfl)⟩ rfl rfl (Nat.le_of_ble_eq_true rfl)) ?_
  refine z_ifB_ne E dX6_type_8 13 (by decide) (fun c1 => ?_) (fun c1 => ?_)
  · obtain ⟨l2, -, hl2, rfl⟩ := wi_nI (by decide) (by decide) c1
    refine z_aload_n E dX6_type_13 0 rfl rfl ?_
    refine gt_X6_10 (v := .ref rd) E dX6_type_14 0 rfl rfl ?_
    refine z_iload_n E dX6_type_17 1 rfl rfl ?_
    refine z_rw (ws2 := wTV g x y rd a dr p pa vo ch im W ++ (wRead g rd hr (if (R.1 1) < 200 then sA (sF R 1 ((R.1 1) + 1)) 0 (va_up ((R.2 0)) ((R.1 1)) l2) else R) ++ (wTown g a h T ++ (wTown g dr hd D ++ (wPres g p q P ++ (wPast g pa hpa b j U S ++ (wVoice g vo hv t V ++ (wOdds g ch ho O ++ (wPres g (im 0) i0 I0 ++ (wPres g (im 1) i1 I1)))))))))) E (rV E hX (c_X3_add g rd hr R l2 hrI) mw_X3_add ml_X6_84 dX6_type_18 (Nat.le_of_ble_eq_true rfl) ⟨(Nat.le_of_ble_eq_true rfl), (Nat.le_of_ble_eq_true rfl)⟩ rfl rfl (Nat.le_of_ble_eq_true rfl) 0 rfl rfl) [6, 7] rfl (by decide) rfl rfl ?_
    refine z_ifB_eq E dX6_type_21 34 (by decide) (fun c2 => ?_) (fun c2 => ?_)
    · refine z_bipush (v := (-3)) E dX6_type_34 (by decide) ?_
      refine z_iret E Er dX6_type_36 ?_
      exact ⟨by rw [if_pos c1, if_neg (of_decide_eq_false c2)], by rw [if_pos c1, if_neg (of_decide_eq_false c2), if_neg (of_decide_eq_false c2)]⟩
    · refine z_aload_n E dX6_type_24 0 rfl rfl ?_
      refine gt_X6_10 (v := .ref rd) E dX6_type_25 0 rfl rfl ?_
      refine z_ro E (rV E hX (c_X3_size g rd hr (if (R.1 1) < 200 then sA (sF R 1 ((R.1 1) + 1)) 0 (va_up ((R.2 0)) ((R.1 1)) l2) else R)) mw_X3_size ml_X6_88 dX6_type_28 (Nat.le_of_ble_eq_true rfl) ⟨(Nat.le_of_ble_eq_true rfl), (Nat.le_of_ble_eq_true rfl)⟩ rfl rfl (Nat.le_of_ble_eq_true rfl) 0 rfl rfl) [6, 7] rfl (by decide) ?_
      refine z_goto E dX6_type_31 36 (by decide) ?_
      refine z_iret E Er dX6_type_36 ?_
      exact ⟨by rw [if_pos c1, if_pos (of_decide_eq_true c2), if_pos (of_decide_eq_true c2)]; rfl, by rw [if_pos c1, if_pos (of_decide_eq_true c2), if_pos (of_decide_eq_true c2), nI_clamp (by omega)]⟩
  · refine z_iconst (v := (-1)) E dX6_type_11 (by decide) ?_
    refine z_iret E Er dX6_type_12 ?_
    exact ⟨by rw [if_neg (show ¬ wi l (nI 0) (nI 255) = true by rw [c1]; decide)], by rw [if_neg (show ¬ wi l (nI 0) (nI 255) = true by rw [c1]; decide)]⟩

set_option maxHeartbeats 4000000 in
set_option maxRecDepth 100000 in
theorem c_X6_clear (g : GC) (x : Nat) (y : Nat → Nat) (W : NS) (im : Nat → Nat) (rd : Nat) (hr : Nat → Nat) (R : NS) (a : Nat) (h : Nat → Nat) (T : NS) (dr : Nat) (hd : Nat → Nat) (D : NS) (p : Nat) (q : Nat → Nat) (P : NS) (pa : Nat) (hpa : Nat → Nat) (S : NS) (b : Nat → Nat) (j : Nat → Nat → Nat) (U : Nat → NS) (vo : Nat) (hv : Nat → Nat) (V : NS) (t : Nat) (ch : Nat) (ho : Nat → Nat) (O : NS) (i0 : Nat → Nat) (I0 : NS) (i1 : Nat → Nat) (I1 : NS) : Ct g yX6_clear cX6_clear 1 (some .int) 1 0 0 [.ref x] (wTV g x y rd a dr p pa vo ch im W ++ (wRead g rd hr R ++ (wTown g a h T ++ (wTown g dr hd D ++ (wPres g p q P ++ (wPast g pa hpa b j U S ++ (wVoice g vo hv t V ++ (wOdds g ch ho O ++ (wPres g (im 0) i0 I0 ++ (wPres g (im 1) i1 I1)))))))))) (DI (nI (R.1 1)) (wTV g x y rd a dr p pa vo ch im W ++ (wRead g rd hr (sF R 1 0) ++ (wTown g a h T ++ (wTown g dr hd D ++ (wPres g p q P ++ (wPast g pa hpa b j U S ++ (wVoice g vo hv t V ++ (wOdds g ch ho O ++ (wPres g (im 0) i0 I0 ++ (wPres g (im 1) i1 I1))))))))))) := by
  refine Ct.of (by decide) (Nat.le_of_ble_eq_true rfl) ?_
  intro X E Er hX _ hnm
  have E : Ob g X cX6_clear 1 RX6 := E
  refine z_lve (lv' := [(0, .ref x)]) rfl ?_
  refine z_aload_n E dX6_clear_0 0 rfl rfl ?_
  refine gt_X6_10 (v := .ref rd) E dX6_clear_1 0 rfl rfl ?_
  refine z_rw (ws2 := wTV g x y rd a dr p pa vo ch im W ++ (wRead g rd hr (sF R 1 0) ++ (wTown g a h T ++ (wTown g dr hd D ++ (wPres g p q P ++ (wPast g pa hpa b j U S ++ (wVoice g vo hv t V ++ (wOdds g ch ho O ++ (wPres g (im 0) i0 I0 ++ (wPres g (im 1) i1 I1)))))))))) E (rV E hX (c_X3_empty g rd hr R) mw_X3_empty ml_X6_92 dX6_clear_4 (Nat.le_of_ble_eq_true rfl) ⟨(Nat.le_of_ble_eq_true rfl), (Nat.le_of_ble_eq_true rfl)⟩ rfl rfl (Nat.le_of_ble_eq_true rfl) 0 rfl rfl) [6, 7] rfl (by decide) rfl rfl ?_
  refine z_iret E Er dX6_clear_7 ?_
  exact ⟨rfl, rfl⟩

set_option maxHeartbeats 4000000 in
set_option maxRecDepth 100000 in
theorem c_X6_drops (g : GC) (x : Nat) (y : Nat → Nat) (W : NS) (im : Nat → Nat) (rd : Nat) (hr : Nat → Nat) (R : NS) (a : Nat) (h : Nat → Nat) (T : NS) (dr : Nat) (hd : Nat → Nat) (D : NS) (p : Nat) (q : Nat → Nat) (P : NS) (pa : Nat) (hpa : Nat → Nat) (S : NS) (b : Nat → Nat) (j : Nat → Nat → Nat) (U : Nat → NS) (vo : Nat) (hv : Nat → Nat) (V : NS) (t : Nat) (ch : Nat) (ho : Nat → Nat) (O : NS) (i0 : Nat → Nat) (I0 : NS) (i1 : Nat → Nat) (I1 : NS) : Ct g yX6_drops cX6_drops 2 (some .int) 0 0 0 [.ref x] (wTV g x y rd a dr p pa vo ch im W ++ (wRead g rd hr R ++ (wTown g a h T ++ (wTown g dr hd D ++ (wPres g p q P ++ (wPast g pa hpa b j U S ++ (wVoice g vo hv t V ++ (wOdds g ch ho O ++ (wPres g (im 0) i0 I0 ++ (wPres g (im 1) i1 I1)))))))))) (DI (nI (W.1 8)) (wTV g x y rd a dr p pa vo ch im (sF W 8 0) ++ (wRead g rd hr R ++ (wTown g a h T ++ (wTown g dr hd D ++ (wPres g p q P ++ (wPast g pa hpa b j U S ++ (wVoice g vo hv t V ++ (wOdds g ch ho O ++ (wPres g (im 0) i0 I0 ++ (wPres g (im 1) i1 I1))))))))))) := by
  refine Ct.of (by decide) (Nat.le_of_ble_eq_true rfl) ?_
  intro X E Er hX _ hnm
  have E : Ob g X cX6_drops 2 RX6 := E
  refine z_lve (lv' := [(0, .ref x)]) rfl ?_
  refine z_aload_n E dX6_drops_0 0 rfl rfl ?_
  refine gt_X6_214 (v := .int (nI (W.1 8))) E dX6_drops_1 0 rfl rfl ?_
  refine z_istore_n (lv' := [(0, .ref x), (1, .int (nI (W.1 8)))]) E dX6_drops_4 1 rfl (by decide) rfl ?_
  refine z_aload_n E dX6_drops_5 0 rfl rfl ?_
  refine z_iconst (v := (nI 0)) E dX6_drops_6 (by decide) ?_
  refine pt_X6_214 (x := nI 0) (ws' := wTV g x y rd a dr p pa vo ch im (sF W 8 0) ++ (wRead g rd hr R ++ (wTown g a h T ++ (wTown g dr hd D ++ (wPres g p q P ++ (wPast g pa hpa b j U S ++ (wVoice g vo hv t V ++ (wOdds g ch ho O ++ (wPres g (im 0) i0 I0 ++ (wPres g (im 1) i1 I1)))))))))) E dX6_drops_7 0 rfl (Nat.le_of_ble_eq_true rfl) rfl ?_
  refine z_iload_n E dX6_drops_10 1 rfl rfl ?_
  refine z_iret E Er dX6_drops_11 ?_
  exact ⟨rfl, rfl⟩

set_option maxHeartbeats 4000000 in
set_option maxRecDepth 100000 in
theorem c_X6_forget (g : GC) (x : Nat) (y : Nat → Nat) (W : NS) (im : Nat → Nat) (rd : Nat) (hr : Nat → Nat) (R : NS) (a : Nat) (h : Nat → Nat) (T : NS) (dr : Nat) (hd : Nat → Nat) (D : NS) (p : Nat) (q : Nat → Nat) (P : NS) (pa : Nat) (hpa : Nat → Nat) (S : NS) (b : Nat → Nat) (j : Nat → Nat → Nat) (U : Nat → NS) (vo : Nat) (hv : Nat → Nat) (V : NS) (t : Nat) (ch : Nat) (ho : Nat → Nat) (O : NS) (i0 : Nat → Nat) (I0 : NS) (i1 : Nat → Nat) (I1 : NS) : Ct g yX6_forget cX6_forget 2 (some .int) 0 0 0 [.ref x] (wTV g x y rd a dr p pa vo ch im W ++ (wRead g rd hr R ++ (wTown g a h T ++ (wTown g dr hd D ++ (wPres g p q P ++ (wPast g pa hpa b j U S ++ (wVoice g vo hv t V ++ (wOdds g ch ho O ++ (wPres g (im 0) i0 I0 ++ (wPres g (im 1) i1 I1)))))))))) (DI (nI (W.1 11)) (wTV g x y rd a dr p pa vo ch im (sF W 11 0) ++ (wRead g rd hr R ++ (wTown g a h T ++ (wTown g dr hd D ++ (wPres g p q P ++ (wPast g pa hpa b j U S ++ (wVoice g vo hv t V ++ (wOdds g ch ho O ++ (wPres g (im 0) i0 I0 ++ (wPres g (im 1) i1 I1))))))))))) := by
  refine Ct.of (by decide) (Nat.le_of_ble_eq_true rfl) ?_
  intro X E Er hX _ hnm
  have E : Ob g X cX6_forget 2 RX6 := E
  refine z_lve (lv' := [(0, .ref x)]) rfl ?_
  refine z_aload_n E dX6_forget_0 0 rfl rfl ?_
  refine gt_X6_226 (v := .int (nI (W.1 11))) E dX6_forget_1 0 rfl rfl ?_
  refine z_istore_n (lv' := [(0, .ref x), (1, .int (nI (W.1 11)))]) E dX6_forget_4 1 rfl (by decide) rfl ?_
  refine z_aload_n E dX6_forget_5 0 rfl rfl ?_
  refine z_iconst (v := (nI 0)) E dX6_forget_6 (by decide) ?_
  refine pt_X6_226 (x := nI 0) (ws' := wTV g x y rd a dr p pa vo ch im (sF W 11 0) ++ (wRead g rd hr R ++ (wTown g a h T ++ (wTown g dr hd D ++ (wPres g p q P ++ (wPast g pa hpa b j U S ++ (wVoice g vo hv t V ++ (wOdds g ch ho O ++ (wPres g (im 0) i0 I0 ++ (wPres g (im 1) i1 I1)))))))))) E dX6_forget_7 0 rfl (Nat.le_of_ble_eq_true rfl) rfl ?_
  refine z_iload_n E dX6_forget_10 1 rfl rfl ?_
  refine z_iret E Er dX6_forget_11 ?_
  exact ⟨rfl, rfl⟩

set_option maxHeartbeats 4000000 in
set_option maxRecDepth 100000 in
theorem c_X6_trace (g : GC) (x : Nat) (y : Nat → Nat) (W : NS) (im : Nat → Nat) (rd : Nat) (hr : Nat → Nat) (R : NS) (a : Nat) (h : Nat → Nat) (T : NS) (dr : Nat) (hd : Nat → Nat) (D : NS) (p : Nat) (q : Nat → Nat) (P : NS) (pa : Nat) (hpa : Nat → Nat) (S : NS) (b : Nat → Nat) (j : Nat → Nat → Nat) (U : Nat → NS) (vo : Nat) (hv : Nat → Nat) (V : NS) (t : Nat) (ch : Nat) (ho : Nat → Nat) (O : NS) (i0 : Nat → Nat) (I0 : NS) (i1 : Nat → Nat) (I1 : NS) : Ct g yX6_trace cX6_trace 1 (some .long) 0 0 0 [.ref x] (wTV g x y rd a dr p pa vo ch im W ++ (wRead g rd hr R ++ (wTown g a h T ++ (wTown g dr hd D ++ (wPres g p q P ++ (wPast g pa hpa b j U S ++ (wVoice g vo hv t V ++ (wOdds g ch ho O ++ (wPres g (im 0) i0 I0 ++ (wPres g (im 1) i1 I1)))))))))) (DL (lN (W.1 14)) (wTV g x y rd a dr p pa vo ch im W ++ (wRead g rd hr R ++ (wTown g a h T ++ (wTown g dr hd D ++ (wPres g p q P ++ (wPast g pa hpa b j U S ++ (wVoice g vo hv t V ++ (wOdds g ch ho O ++ (wPres g (im 0) i0 I0 ++ (wPres g (im 1) i1 I1))))))))))) := by
  refine Ct.of (by decide) (Nat.le_of_ble_eq_true rfl) ?_
  intro X E Er hX _ hnm
  have E : Ob g X cX6_trace 1 RX6 := E
  refine z_lve (lv' := [(0, .ref x)]) rfl ?_
  refine z_aload_n E dX6_trace_0 0 rfl rfl ?_
  refine gt_X6_267 (v := .long (lN (W.1 14))) E dX6_trace_1 0 rfl rfl ?_
  refine z_lret E Er dX6_trace_4 ?_
  exact ⟨rfl, rfl⟩

set_option maxHeartbeats 4000000 in
set_option maxRecDepth 100000 in
theorem c_X6_place (g : GC) (x : Nat) (y : Nat → Nat) (W : NS) (im : Nat → Nat) (rd : Nat) (hr : Nat → Nat) (R : NS) (a : Nat) (h : Nat → Nat) (T : NS) (dr : Nat) (hd : Nat → Nat) (D : NS) (p : Nat) (q : Nat → Nat) (P : NS) (pa : Nat) (hpa : Nat → Nat) (S : NS) (b : Nat → Nat) (j : Nat → Nat → Nat) (U : Nat → NS) (vo : Nat) (hv : Nat → Nat) (V : NS) (t : Nat) (ch : Nat) (ho : Nat → Nat) (O : NS) (i0 : Nat → Nat) (I0 : NS) (i1 : Nat → Nat) (I1 : NS) (z : Int32) (hrI : rdI R) (hT : tdI T) (hs4 : P.1 4 < 4096) : Ct g yX6_place cX6_place 2 (some .int) 2 0 0 [.ref x, .int z] (wTV g x y rd a dr p pa vo ch im W ++ (wRead g rd hr R ++ (wTown g a h T ++ (wTown g dr hd D ++ (wPres g p q P ++ (wPast g pa hpa b j U S ++ (wVoice g vo hv t V ++ (wOdds g ch ho O ++ (wPres g (im 0) i0 I0 ++ (wPres g (im 1) i1 I1)))))))))) (DI (if hasP T z = true then nI (rAt T z.toNatClampNeg (T.1 1) &&& opn T P) else -1) (wTV g x y rd a dr p pa vo ch im W ++ (wRead g rd hr R ++ (wTown g a h T ++ (wTown g dr hd D ++ (wPres g p q P ++ (wPast g pa hpa b j U S ++ (wVoice g vo hv t V ++ (wOdds g ch ho O ++ (wPres g (im 0) i0 I0 ++ (wPres g (im 1) i1 I1))))))))))) := by
  refine Ct.of (by decide) (Nat.le_of_ble_eq_true rfl) ?_
  intro X E Er hX _ hnm
  have E : Ob g X cX6_place 2 RX6 := E
  have hR := hT.2.2.1
  have hb := hT.2.1.2
  refine z_lve (lv' := [(0, .ref x), (1, .int z)]) rfl ?_
  refine z_aload_n E dX6_place_0 0 rfl rfl ?_
  refine gt_X6_19 (v := .ref a) E dX6_place_1 0 rfl rfl ?_
  refine z_iload_n E dX6_place_4 1 rfl rfl ?_
  refine z_ro E (rV E hX (c_X4_hasPlace g a h T z) mw_X4_hasPlace ml_X6_124 dX6_place_5 (Nat.le_of_ble_eq_true rfl) ⟨(Nat.le_of_ble_eq_true rfl), (Nat.le_of_ble_eq_true rfl)⟩ rfl rfl (Nat.le_of_ble_eq_true rfl) 0 rfl rfl) [8, 9, 10, 11, 12] rfl (by decide) ?_
  refine z_ifB_eq E dX6_place_8 27 (by decide) (fun c1 => ?_) (fun c1 => ?_)
  · refine z_iconst (v := (-1)) E dX6_place_27 (by decide) ?_
    refine z_iret E Er dX6_place_28 ?_
    exact ⟨by rw [if_neg (show ¬ hasP T z = true by rw [c1]; decide)], rfl⟩
  · obtain ⟨z2, hz2, rfl⟩ := hasP_nI (hT.1.1 0) c1
    refine z_aload_n E dX6_place_11 0 rfl rfl ?_
    refine gt_X6_19 (v := .ref a) E dX6_place_12 0 rfl rfl ?_
    refine z_iload_n E dX6_place_15 1 rfl rfl ?_
    refine z_ro E (rV E hX (c_X4_roadsAt g a h T z2 hT.1 (by omega) (by omega)) mw_X4_roadsAt ml_X6_127 dX6_place_16 (Nat.le_of_ble_eq_true rfl) ⟨(Nat.le_of_ble_eq_true rfl), (Nat.le_of_ble_eq_true rfl)⟩ rfl rfl (Nat.le_of_ble_eq_true rfl) 0 rfl rfl) [8, 9, 10, 11, 12] rfl (by decide) ?_
    refine z_aload_n E dX6_place_19 0 rfl rfl ?_
    refine z_ro E (rV E hX (c_X6_openRoads g x y W rd dr pa vo ch im a h T p q P (by assumption)) mw_X6_openRoads ml_X6_130 dX6_place_20 (Nat.le_of_ble_eq_true rfl) ⟨(Nat.le_of_ble_eq_true rfl), (Nat.le_of_ble_eq_true rfl)⟩ rfl rfl (Nat.le_of_ble_eq_true rfl) 0 rfl rfl) [0, 1, 2, 3, 4, 5, 8, 9, 10, 11, 12, 18, 19] rfl (by decide) ?_
    refine z_iandN E dX6_place_23 ?_
    refine z_goto E dX6_place_24 28 (by decide) ?_
    refine z_iret E Er dX6_place_28 ?_
    exact ⟨by rw [if_pos c1, nI_clamp (by omega)], rfl⟩

set_option maxHeartbeats 4000000 in
set_option maxRecDepth 100000 in
theorem c_X6_now (g : GC) (x : Nat) (y : Nat → Nat) (W : NS) (im : Nat → Nat) (rd : Nat) (hr : Nat → Nat) (R : NS) (a : Nat) (h : Nat → Nat) (T : NS) (dr : Nat) (hd : Nat → Nat) (D : NS) (p : Nat) (q : Nat → Nat) (P : NS) (pa : Nat) (hpa : Nat → Nat) (S : NS) (b : Nat → Nat) (j : Nat → Nat → Nat) (U : Nat → NS) (vo : Nat) (hv : Nat → Nat) (V : NS) (t : Nat) (ch : Nat) (ho : Nat → Nat) (O : NS) (i0 : Nat → Nat) (I0 : NS) (i1 : Nat → Nat) (I1 : NS) (w : Int32) (hrI : rdI R) (hT : tdI T) (hs4 : P.1 4 < 4096) : Ct g yX6_now cX6_now 2 (some .int) 1 0 0 [.ref x, .int w] (wTV g x y rd a dr p pa vo ch im W ++ (wRead g rd hr R ++ (wTown g a h T ++ (wTown g dr hd D ++ (wPres g p q P ++ (wPast g pa hpa b j U S ++ (wVoice g vo hv t V ++ (wOdds g ch ho O ++ (wPres g (im 0) i0 I0 ++ (wPres g (im 1) i1 I1)))))))))) (DI (swF w [nI (P.1 0), cm (P.1 1), nI (P.1 2), nI (P.1 3), nI (P.1 4), nI (S.1 2)] (-1)) (wTV g x y rd a dr p pa vo ch im W ++ (wRead g rd hr R ++ (wTown g a h T ++ (wTown g dr hd D ++ (wPres g p q P ++ (wPast g pa hpa b j U S ++ (wVoice g vo hv t V ++ (wOdds g ch ho O ++ (wPres g (im 0) i0 I0 ++ (wPres g (im 1) i1 I1))))))))))) := by
  refine Ct.of (by decide) (Nat.le_of_ble_eq_true rfl) ?_
  intro X E Er hX _ hnm
  have E : Ob g X cX6_now 2 RX6 := E
  refine z_lve (lv' := [(0, .ref x), (1, .int w)]) rfl ?_
  refine z_iload_n E dX6_now_0 1 rfl rfl ?_
  rcases sw_cases w 5 with hsw | ⟨k, hk, rfl⟩
  · refine z_tabOut E dX6_now_1 88 hsw (by decide) ?_
    refine z_iconst (v := (-1)) E dX6_now_88 (by decide) ?_
    refine z_iret E Er dX6_now_89 ?_
    exact ⟨by rw [swF_o (by show _ ∨ _ ≤ _; simp only [List.length]; omega)], rfl⟩
  · rcases (show k = 0 ∨ k = 1 ∨ k = 2 ∨ k = 3 ∨ k = 4 ∨ k = 5 by omega) with rfl | rfl | rfl | rfl | rfl | rfl
    · refine z_tabIn (off := 39) E dX6_now_1 40 (by decide) (by decide) (by decide) (by decide) ?_
      refine z_aload_n E dX6_now_40 0 rfl rfl ?_
      refine gt_X6_29 (v := .ref p) E dX6_now_41 0 rfl rfl ?_
      refine gt_X6_133 (v := .int (nI (P.1 0))) E dX6_now_44 18 rfl rfl ?_
      refine z_iret E Er dX6_now_47 ?_
      exact ⟨by rw [swF_k 0 (Nat.le_of_ble_eq_true rfl) (by decide)]; rfl, rfl⟩
    · refine z_tabIn (off := 47) E dX6_now_1 48 (by decide) (by decide) (by decide) (by decide) ?_
      refine z_aload_n E dX6_now_48 0 rfl rfl ?_
      refine gt_X6_29 (v := .ref p) E dX6_now_49 0 rfl rfl ?_
      refine gt_X6_136 (v := .int (cm (P.1 1))) E dX6_now_52 18 rfl rfl ?_
      refine z_iret E Er dX6_now_55 ?_
      exact ⟨by rw [swF_k 1 (Nat.le_of_ble_eq_true rfl) (by decide)]; rfl, rfl⟩
    · refine z_tabIn (off := 55) E dX6_now_1 56 (by decide) (by decide) (by decide) (by decide) ?_
      refine z_aload_n E dX6_now_56 0 rfl rfl ?_
      refine gt_X6_29 (v := .ref p) E dX6_now_57 0 rfl rfl ?_
      refine gt_X6_139 (v := .int (nI (P.1 2))) E dX6_now_60 18 rfl rfl ?_
      refine z_iret E Er dX6_now_63 ?_
      exact ⟨by rw [swF_k 2 (Nat.le_of_ble_eq_true rfl) (by decide)]; rfl, rfl⟩
    · refine z_tabIn (off := 63) E dX6_now_1 64 (by decide) (by decide) (by decide) (by decide) ?_
      refine z_aload_n E dX6_now_64 0 rfl rfl ?_
      refine gt_X6_29 (v := .ref p) E dX6_now_65 0 rfl rfl ?_
      refine gt_X6_142 (v := .int (nI (P.1 3))) E dX6_now_68 18 rfl rfl ?_
      refine z_iret E Er dX6_now_71 ?_
      exact ⟨by rw [swF_k 3 (Nat.le_of_ble_eq_true rfl) (by decide)]; rfl, rfl⟩
    · refine z_tabIn (off := 71) E dX6_now_1 72 (by decide) (by decide) (by decide) (by decide) ?_
      refine z_aload_n E dX6_now_72 0 rfl rfl ?_
      refine gt_X6_29 (v := .ref p) E dX6_now_73 0 rfl rfl ?_
      refine gt_X6_145 (v := .int (nI (P.1 4))) E dX6_now_76 18 rfl rfl ?_
      refine z_iret E Er dX6_now_79 ?_
      exact ⟨by rw [swF_k 4 (Nat.le_of_ble_eq_true rfl) (by decide)]; rfl, rfl⟩
    · refine z_tabIn (off := 79) E dX6_now_1 80 (by decide) (by decide) (by decide) (by decide) ?_
      refine z_aload_n E dX6_now_80 0 rfl rfl ?_
      refine gt_X6_36 (v := .ref pa) E dX6_now_81 0 rfl rfl ?_
      refine z_ro E (rV E hX (c_X1_size g pa hpa S b j U) mw_X1_size ml_X6_148 dX6_now_84 (Nat.le_of_ble_eq_true rfl) ⟨(Nat.le_of_ble_eq_true rfl), (Nat.le_of_ble_eq_true rfl)⟩ rfl rfl (Nat.le_of_ble_eq_true rfl) 0 rfl rfl) [20, 21, 22, 23, 24, 25, 26, 27, 28, 29, 30, 31, 32, 33, 34, 35, 36, 37, 38, 39, 40, 41] rfl (by decide) ?_
      refine z_iret E Er dX6_now_87 ?_
      exact ⟨by rw [swF_k 5 (Nat.le_of_ble_eq_true rfl) (by decide)]; rfl, rfl⟩

set_option maxHeartbeats 4000000 in
set_option maxRecDepth 100000 in
theorem c_X6_count (g : GC) (x : Nat) (y : Nat → Nat) (W : NS) (im : Nat → Nat) (rd : Nat) (hr : Nat → Nat) (R : NS) (a : Nat) (h : Nat → Nat) (T : NS) (dr : Nat) (hd : Nat → Nat) (D : NS) (p : Nat) (q : Nat → Nat) (P : NS) (pa : Nat) (hpa : Nat → Nat) (S : NS) (b : Nat → Nat) (j : Nat → Nat → Nat) (U : Nat → NS) (vo : Nat) (hv : Nat → Nat) (V : NS) (t : Nat) (ch : Nat) (ho : Nat → Nat) (O : NS) (i0 : Nat → Nat) (I0 : NS) (i1 : Nat → Nat) (I1 : NS) (w : Int32) (hrI : rdI R) (hT : tdI T) (hs4 : P.1 4 < 4096) : Ct g yX6_count cX6_count 2 (some .int) 1 0 0 [.ref x, .int w] (wTV g x y rd a dr p pa vo ch im W ++ (wRead g rd hr R ++ (wTown g a h T ++ (wTown g dr hd D ++ (wPres g p q P ++ (wPast g pa hpa b j U S ++ (wVoice g vo hv t V ++ (wOdds g ch ho O ++ (wPres g (im 0) i0 I0 ++ (wPres g (im 1) i1 I1)))))))))) (DI (swF w [nI (T.1 0), nI (T.1 1), nI (T.1 2), nI (T.1 3), nI (T.1 4), nI (T.1 5), nI (W.1 8), nI (W.1 11), nI (R.1 1)] (-1)) (wTV g x y rd a dr p pa vo ch im W ++ (wRead g rd hr R ++ (wTown g a h T ++ (wTown g dr hd D ++ (wPres g p q P ++ (wPast g pa hpa b j U S ++ (wVoice g vo hv t V ++ (wOdds g ch ho O ++ (wPres g (im 0) i0 I0 ++ (wPres g (im 1) i1 I1))))))))))) := by
  refine Ct.of (by decide) (Nat.le_of_ble_eq_true rfl) ?_
  intro X E Er hX _ hnm
  have E : Ob g X cX6_count 2 RX6 := E
  refine z_lve (lv' := [(0, .ref x), (1, .int w)]) rfl ?_
  refine z_iload_n E dX6_count_0 1 rfl rfl ?_
  rcases sw_cases w 8 with hsw | ⟨k, hk, rfl⟩
  · refine z_tabOut E dX6_count_1 118 hsw (by decide) ?_
    refine z_iconst (v := (-1)) E dX6_count_118 (by decide) ?_
    refine z_iret E Er dX6_count_119 ?_
    exact ⟨by rw [swF_o (by show _ ∨ _ ≤ _; simp only [List.length]; omega)], rfl⟩
  · rcases (show k = 0 ∨ k = 1 ∨ k = 2 ∨ k = 3 ∨ k = 4 ∨ k = 5 ∨ k = 6 ∨ k = 7 ∨ k = 8 by omega) with rfl | rfl | rfl | rfl | rfl | rfl | rfl | rfl | rfl
    · refine z_tabIn (off := 51) E dX6_count_1 52 (by decide) (by decide) (by decide) (by decide) ?_
      refine z_aload_n E dX6_count_52 0 rfl rfl ?_
      refine gt_X6_19 (v := .ref a) E dX6_count_53 0 rfl rfl ?_
      refine gt_X6_258 (v := .int (nI (T.1 0))) E dX6_count_56 8 rfl rfl ?_
      refine z_iret E Er dX6_count_59 ?_
      exact ⟨by rw [swF_k 0 (Nat.le_of_ble_eq_true rfl) (by decide)]; rfl, rfl⟩
    · refine z_tabIn (off := 59) E dX6_count_1 60 (by decide) (by decide) (by decide) (by decide) ?_
      refine z_aload_n E dX6_count_60 0 rfl rfl ?_
      refine gt_X6_19 (v := .ref a) E dX6_count_61 0 rfl rfl ?_
      refine gt_X6_205 (v := .int (nI (T.1 1))) E dX6_count_64 8 rfl rfl ?_
      refine z_iret E Er dX6_count_67 ?_
      exact ⟨by rw [swF_k 1 (Nat.le_of_ble_eq_true rfl) (by decide)]; rfl, rfl⟩
    · refine z_tabIn (off := 67) E dX6_count_1 68 (by decide) (by decide) (by decide) (by decide) ?_
      refine z_aload_n E dX6_count_68 0 rfl rfl ?_
      refine gt_X6_19 (v := .ref a) E dX6_count_69 0 rfl rfl ?_
      refine gt_X6_72 (v := .int (nI (T.1 2))) E dX6_count_72 8 rfl rfl ?_
      refine z_iret E Er dX6_count_75 ?_
      exact ⟨by rw [swF_k 2 (Nat.le_of_ble_eq_true rfl) (by decide)]; rfl, rfl⟩
    · refine z_tabIn (off := 75) E dX6_count_1 76 (by decide) (by decide) (by decide) (by decide) ?_
      refine z_aload_n E dX6_count_76 0 rfl rfl ?_
      refine gt_X6_19 (v := .ref a) E dX6_count_77 0 rfl rfl ?_
      refine gt_X6_192 (v := .int (nI (T.1 3))) E dX6_count_80 8 rfl rfl ?_
      refine z_iret E Er dX6_count_83 ?_
      exact ⟨by rw [swF_k 3 (Nat.le_of_ble_eq_true rfl) (by decide)]; rfl, rfl⟩
    · refine z_tabIn (off := 83) E dX6_count_1 84 (by decide) (by decide) (by decide) (by decide) ?_
      refine z_aload_n E dX6_count_84 0 rfl rfl ?_
      refine gt_X6_19 (v := .ref a) E dX6_count_85 0 rfl rfl ?_
      refine gt_X6_261 (v := .int (nI (T.1 4))) E dX6_count_88 8 rfl rfl ?_
      refine z_iret E Er dX6_count_91 ?_
      exact ⟨by rw [swF_k 4 (Nat.le_of_ble_eq_true rfl) (by decide)]; rfl, rfl⟩
    · refine z_tabIn (off := 91) E dX6_count_1 92 (by decide) (by decide) (by decide) (by decide) ?_
      refine z_aload_n E dX6_count_92 0 rfl rfl ?_
      refine gt_X6_19 (v := .ref a) E dX6_count_93 0 rfl rfl ?_
      refine gt_X6_264 (v := .int (nI (T.1 5))) E dX6_count_96 8 rfl rfl ?_
      refine z_iret E Er dX6_count_99 ?_
      exact ⟨by rw [swF_k 5 (Nat.le_of_ble_eq_true rfl) (by decide)]; rfl, rfl⟩
    · refine z_tabIn (off := 99) E dX6_count_1 100 (by decide) (by decide) (by decide) (by decide) ?_
      refine z_aload_n E dX6_count_100 0 rfl rfl ?_
      refine gt_X6_214 (v := .int (nI (W.1 8))) E dX6_count_101 0 rfl rfl ?_
      refine z_iret E Er dX6_count_104 ?_
      exact ⟨by rw [swF_k 6 (Nat.le_of_ble_eq_true rfl) (by decide)]; rfl, rfl⟩
    · refine z_tabIn (off := 104) E dX6_count_1 105 (by decide) (by decide) (by decide) (by decide) ?_
      refine z_aload_n E dX6_count_105 0 rfl rfl ?_
      refine gt_X6_226 (v := .int (nI (W.1 11))) E dX6_count_106 0 rfl rfl ?_
      refine z_iret E Er dX6_count_109 ?_
      exact ⟨by rw [swF_k 7 (Nat.le_of_ble_eq_true rfl) (by decide)]; rfl, rfl⟩
    · refine z_tabIn (off := 109) E dX6_count_1 110 (by decide) (by decide) (by decide) (by decide) ?_
      refine z_aload_n E dX6_count_110 0 rfl rfl ?_
      refine gt_X6_10 (v := .ref rd) E dX6_count_111 0 rfl rfl ?_
      refine z_ro E (rV E hX (c_X3_size g rd hr R) mw_X3_size ml_X6_88 dX6_count_114 (Nat.le_of_ble_eq_true rfl) ⟨(Nat.le_of_ble_eq_true rfl), (Nat.le_of_ble_eq_true rfl)⟩ rfl rfl (Nat.le_of_ble_eq_true rfl) 0 rfl rfl) [6, 7] rfl (by decide) ?_
      refine z_iret E Er dX6_count_117 ?_
      exact ⟨by rw [swF_k 8 (Nat.le_of_ble_eq_true rfl) (by decide)]; rfl, rfl⟩

set_option maxHeartbeats 4000000 in
set_option maxRecDepth 100000 in
theorem c_X6_road (g : GC) (x : Nat) (y : Nat → Nat) (W : NS) (im : Nat → Nat) (rd : Nat) (hr : Nat → Nat) (R : NS) (a : Nat) (h : Nat → Nat) (T : NS) (dr : Nat) (hd : Nat → Nat) (D : NS) (p : Nat) (q : Nat → Nat) (P : NS) (pa : Nat) (hpa : Nat → Nat) (S : NS) (b : Nat → Nat) (j : Nat → Nat → Nat) (U : Nat → NS) (vo : Nat) (hv : Nat → Nat) (V : NS) (t : Nat) (ch : Nat) (ho : Nat → Nat) (O : NS) (i0 : Nat → Nat) (I0 : NS) (i1 : Nat → Nat) (I1 : NS) (r : Int32) (w : Int32) (hrI : rdI R) (hT : tdI T) (hs4 : P.1 4 < 4096) : Ct g yX6_road cX6_road 3 (some .int) 2 0 0 [.ref x, .int r, .int w] (wTV g x y rd a dr p pa vo ch im W ++ (wRead g rd hr R ++ (wTown g a h T ++ (wTown g dr hd D ++ (wPres g p q P ++ (wPast g pa hpa b j U S ++ (wVoice g vo hv t V ++ (wOdds g ch ho O ++ (wPres g (im 0) i0 I0 ++ (wPres g (im 1) i1 I1)))))))))) (DI (if hasR T r = true then swF w [nI (T.2 6 r.toNatClampNeg), nI (T.2 7 r.toNatClampNeg), nI (T.2 8 r.toNatClampNeg + P.2 5 r.toNatClampNeg), nI (P.2 5 r.toNatClampNeg), bI ((P.1 4).testBit r.toNatClampNeg), nI (T.2 9 r.toNatClampNeg)] (-1) else -1) (wTV g x y rd a dr p pa vo ch im W ++ (wRead g rd hr R ++ (wTown g a h T ++ (wTown g dr hd D ++ (wPres g p q P ++ (wPast g pa hpa b j U S ++ (wVoice g vo hv t V ++ (wOdds g ch ho O ++ (wPres g (im 0) i0 I0 ++ (wPres g (im 1) i1 I1))))))))))) := by
  refine Ct.of (by decide) (Nat.le_of_ble_eq_true rfl) ?_
  intro X E Er hX _ hnm
  have E : Ob g X cX6_road 3 RX6 := E
  have hR := hT.2.2.1
  refine z_lve (lv' := [(0, .ref x), (1, .int r), (2, .int w)]) rfl ?_
  refine z_aload_n E dX6_road_0 0 rfl rfl ?_
  refine gt_X6_19 (v := .ref a) E dX6_road_1 0 rfl rfl ?_
  refine z_iload_n E dX6_road_4 1 rfl rfl ?_
  refine z_ro E (rV E hX (c_X4_hasRoad g a h T r) mw_X4_hasRoad ml_X6_102 dX6_road_5 (Nat.le_of_ble_eq_true rfl) ⟨(Nat.le_of_ble_eq_true rfl), (Nat.le_of_ble_eq_true rfl)⟩ rfl rfl (Nat.le_of_ble_eq_true rfl) 0 rfl rfl) [8, 9, 10, 11, 12] rfl (by decide) ?_
  refine z_ifB_ne E dX6_road_8 13 (by decide) (fun c1 => ?_) (fun c1 => ?_)
  · obtain ⟨j2, hj2, rfl⟩ := hasR_nI (hT.1.1 1) c1
    refine z_iload_n E dX6_road_13 2 rfl rfl ?_
    rcases sw_cases w 5 with hsw | ⟨k, hk, rfl⟩
    · refine z_tabOut E dX6_road_14 115 hsw (by decide) ?_
      refine z_iconst (v := (-1)) E dX6_road_115 (by decide) ?_
      refine z_iret E Er dX6_road_116 ?_
      exact ⟨by rw [if_pos c1, swF_o (by show _ ∨ _ ≤ _; simp only [List.length]; omega)], rfl⟩
    · rcases (show k = 0 ∨ k = 1 ∨ k = 2 ∨ k = 3 ∨ k = 4 ∨ k = 5 by omega) with rfl | rfl | rfl | rfl | rfl | rfl
      · refine z_tabIn (off := 38) E dX6_road_14 52 (by decide) (by decide) (by decide) (by decide) ?_
        refine z_aload_n E dX6_road_52 0 rfl rfl ?_
        refine gt_X6_19 (v := .ref a) E dX6_road_53 0 rfl rfl ?_
        refine gt_X6_105 (v := .ref (h 6)) E dX6_road_56 8 rfl rfl ?_
        refine z_iload_n E dX6_road_59 1 rfl rfl ?_
        refine z_ialdN (f := (T.2 6)) E dX6_road_60 9 rfl (by omega) (by decide) ?_
        refine z_iret E Er dX6_road_61 ?_
        exact ⟨by rw [if_pos c1, swF_k 0 (Nat.le_of_ble_eq_true rfl) (by decide), nI_clamp (by omega)]; rfl, rfl⟩
      · refine z_tabIn (off := 48) E dX6_road_14 62 (by decide) (by decide) (by decide) (by decide) ?_
        refine z_aload_n E dX6_road_62 0 rfl rfl ?_
        refine gt_X6_19 (v := .ref a) E dX6_road_63 0 rfl rfl ?_
        refine gt_X6_108 (v := .ref (h 7)) E dX6_road_66 8 rfl rfl ?_
        refine z_iload_n E dX6_road_69 1 rfl rfl ?_
        refine z_ialdN (f := (T.2 7)) E dX6_road_70 10 rfl (by omega) (by decide) ?_
        refine z_iret E Er dX6_road_71 ?_
        exact ⟨by rw [if_pos c1, swF_k 1 (Nat.le_of_ble_eq_true rfl) (by decide), nI_clamp (by omega)]; rfl, rfl⟩
      · refine z_tabIn (off := 58) E dX6_road_14 72 (by decide) (by decide) (by decide) (by decide) ?_
        refine z_aload_n E dX6_road_72 0 rfl rfl ?_
        refine z_iload_n E dX6_road_73 1 rfl rfl ?_
        refine z_ro E (rV E hX (c_X6_longOf g x y W rd dr pa vo ch im a h T p q P j2 (by omega)) mw_X6_longOf ml_X6_111 dX6_road_74 (Nat.le_of_ble_eq_true rfl) ⟨(Nat.le_of_ble_eq_true rfl), (Nat.le_of_ble_eq_true rfl)⟩ rfl rfl (Nat.le_of_ble_eq_true rfl) 0 rfl rfl) [0, 1, 2, 3, 4, 5, 8, 9, 10, 11, 12, 18, 19] rfl (by decide) ?_
        refine z_iret E Er dX6_road_77 ?_
        exact ⟨by rw [if_pos c1, swF_k 2 (Nat.le_of_ble_eq_true rfl) (by decide), nI_clamp (by omega)]; rfl, rfl⟩
      · refine z_tabIn (off := 64) E dX6_road_14 78 (by decide) (by decide) (by decide) (by decide) ?_
        refine z_aload_n E dX6_road_78 0 rfl rfl ?_
        refine gt_X6_29 (v := .ref p) E dX6_road_79 0 rfl rfl ?_
        refine gt_X6_115 (v := .ref (q 5)) E dX6_road_82 18 rfl rfl ?_
        refine z_iload_n E dX6_road_85 1 rfl rfl ?_
        refine z_ialdN (f := (P.2 5)) E dX6_road_86 19 rfl (by omega) (by decide) ?_
        refine z_iret E Er dX6_road_87 ?_
        exact ⟨by rw [if_pos c1, swF_k 3 (Nat.le_of_ble_eq_true rfl) (by decide), nI_clamp (by omega)]; rfl, rfl⟩
      · refine z_tabIn (off := 74) E dX6_road_14 88 (by decide) (by decide) (by decide) (by decide) ?_
        refine z_aload_n E dX6_road_88 0 rfl rfl ?_
        refine gt_X6_29 (v := .ref p) E dX6_road_89 0 rfl rfl ?_
        refine z_iload_n E dX6_road_92 1 rfl rfl ?_
        refine z_ro E (rV E hX (c_X2_isShut g p q P j2 (by omega) (by omega)) mw_X2_isShut ml_X6_118 dX6_road_93 (Nat.le_of_ble_eq_true rfl) ⟨(Nat.le_of_ble_eq_true rfl), (Nat.le_of_ble_eq_true rfl)⟩ rfl rfl (Nat.le_of_ble_eq_true rfl) 0 rfl rfl) [18, 19] rfl (by decide) ?_
        refine z_ifB_eq E dX6_road_96 103 (by decide) (fun c2 => ?_) (fun c2 => ?_)
        · refine z_iconst (v := (nI 0)) E dX6_road_103 (by decide) ?_
          refine z_iret E Er dX6_road_104 ?_
          exact ⟨by rw [if_pos c1, swF_k 4 (Nat.le_of_ble_eq_true rfl) (by decide), nI_clamp (by omega)]; show _ = some (Value.int (bI ((P.1 4).testBit j2))); rw [c2]; rfl, rfl⟩
        · refine z_iconst (v := (nI 1)) E dX6_road_99 (by decide) ?_
          refine z_goto E dX6_road_100 104 (by decide) ?_
          refine z_iret E Er dX6_road_104 ?_
          exact ⟨by rw [if_pos c1, swF_k 4 (Nat.le_of_ble_eq_true rfl) (by decide), nI_clamp (by omega)]; show _ = some (Value.int (bI ((P.1 4).testBit j2))); rw [c2]; rfl, rfl⟩
      · refine z_tabIn (off := 91) E dX6_road_14 105 (by decide) (by decide) (by decide) (by decide) ?_
        refine z_aload_n E dX6_road_105 0 rfl rfl ?_
        refine gt_X6_19 (v := .ref a) E dX6_road_106 0 rfl rfl ?_
        refine gt_X6_121 (v := .ref (h 9)) E dX6_road_109 8 rfl rfl ?_
        refine z_iload_n E dX6_road_112 1 rfl rfl ?_
        refine z_ialdN (f := (T.2 9)) E dX6_road_113 12 rfl (by omega) (by decide) ?_
        refine z_iret E Er dX6_road_114 ?_
        exact ⟨by rw [if_pos c1, swF_k 5 (Nat.le_of_ble_eq_true rfl) (by decide), nI_clamp (by omega)]; rfl, rfl⟩
  · refine z_iconst (v := (-1)) E dX6_road_11 (by decide) ?_
    refine z_iret E Er dX6_road_12 ?_
    exact ⟨by rw [if_neg (show ¬ hasR T r = true by rw [c1]; decide)], rfl⟩
