theorem dg_b {c : Nat} (h : dg c = true) : 48 ≤ c ∧ c ≤ 57 := by unfold dg at h; simpa using h
/-- what always holds of a reader's numbers -/
def rdI (R : NS) : Prop := sm R ∧ (∀ i, R.2 0 i < 256) ∧ R.1 1 ≤ 200 ∧ R.1 5 < 4096
def rdJ (R : NS) : Prop := rdI R ∧ R.1 2 ≤ R.1 1 ∧ tkOK (R.1 3) ∧ R.1 4 ≤ R.1 1
def tokR (R : NS) : NS := sF (sF (sF (sF R 2 (lxN (R.2 0) (R.1 1) (R.1 2))) 3 (lxT (R.2 0) (R.1 1) (R.1 2))) 4 (lxA (R.2 0) (R.1 1) (R.1 2))) 5 (lxV (R.2 0) (R.1 1) (R.1 2) (R.1 5))
theorem tokR_J {R : NS} (h : rdI R) (hi : R.1 2 ≤ R.1 1) : rdJ (tokR R) := by
  obtain ⟨h1, h2, h3, h4⟩ := h
  obtain ⟨a1, a2, a3⟩ := lxN_le (t := R.2 0) hi
  have h5 : lxV (R.2 0) (R.1 1) (R.1 2) (R.1 5) < 4096 := by
    unfold lxV
    have e1 := h2 (sk (R.2 0) (R.1 1) (R.1 2))
    have e2 := h2 (sk (R.2 0) (R.1 1) (R.1 2) + 1)
    unfold nbF
    split
    · omega
    · split <;> omega
  refine ⟨⟨?_, h2, h3, h5⟩, a1, lxT_ok _ _ _, a3⟩
  exact (((h1.F (by omega)).F (tkOK_lt (lxT_ok _ _ _))).F (by omega)).F (by omega)

set_option maxHeartbeats 4000000 in
set_option maxRecDepth 100000 in
theorem c_X3_isTokenLetter (g : GC) (c : Nat) (hc : c < 256) : Ct g yX3_isTokenLetter cX3_isTokenLetter 1 (some .boolean) 0 0 0 [.int (nI c)] (([] : va_W)) (DI (bI (tl c)) (([] : va_W))) := by
  refine Ct.of (by decide) (Nat.le_of_ble_eq_true rfl) ?_
  intro X E Er hX _ hnm
  have E : Ob g X cX3_isTokenLetter 1 RX3 := E
  refine z_lve (lv' := [(0, .int (nI c))]) rfl ?_
  refine z_iload_n E dX3_isTokenLetter_0 0 rfl rfl ?_
  by_cases htl : tl c = true
  · refine z_lookup (off := 67) E dX3_isTokenLetter_1 68 (by decide) (by rw [show (#[(59, 67), (103, 67), (108, 67), (110, 67), (112, 67), (114, 67), (115, 67)] : Array (Int × Int)).toList = [(59, 67), (103, 67), (108, 67), (110, 67), (112, 67), (114, 67), (115, 67)] from rfl, lk_all c hc, if_pos htl]) (by decide) ?_
    refine z_iconst (v := (nI 1)) E dX3_isTokenLetter_68 (by decide) ?_
    refine z_zret E Er dX3_isTokenLetter_69 (by decide) ?_
    exact ⟨bz1 htl, rfl⟩
  · refine z_lookup (off := 69) E dX3_isTokenLetter_1 70 (by decide) (by rw [show (#[(59, 67), (103, 67), (108, 67), (110, 67), (112, 67), (114, 67), (115, 67)] : Array (Int × Int)).toList = [(59, 67), (103, 67), (108, 67), (110, 67), (112, 67), (114, 67), (115, 67)] from rfl, lk_all c hc, if_neg htl]) (by decide) ?_
    refine z_iconst (v := (nI 0)) E dX3_isTokenLetter_70 (by decide) ?_
    refine z_zret E Er dX3_isTokenLetter_71 (by decide) ?_
    exact ⟨bz0 (Bool.eq_false_iff.mpr htl), rfl⟩

set_option maxHeartbeats 4000000 in
set_option maxRecDepth 100000 in
theorem c_X3_size (g : GC) (e : Nat) (u : Nat → Nat) (R : NS) : Ct g yX3_size cX3_size 1 (some .int) 0 0 0 [.ref e] (wRead g e u R) (DI (nI (R.1 1)) (wRead g e u R)) := by
  refine Ct.of (by decide) (Nat.le_of_ble_eq_true rfl) ?_
  intro X E Er hX _ hnm
  have E : Ob g X cX3_size 1 RX3 := E
  refine z_lve (lv' := [(0, .ref e)]) rfl ?_
  refine z_aload_n E dX3_size_0 0 rfl rfl ?_
  refine gt_X3_15 (v := .int (nI (R.1 1))) E dX3_size_1 0 rfl rfl ?_
  refine z_iret E Er dX3_size_4 ?_
  exact ⟨rfl, rfl⟩

set_option maxHeartbeats 4000000 in
set_option maxRecDepth 100000 in
theorem c_X3_empty (g : GC) (e : Nat) (u : Nat → Nat) (R : NS) : Ct g yX3_empty cX3_empty 2 (some .int) 0 0 0 [.ref e] (wRead g e u R) (DI (nI (R.1 1)) (wRead g e u (sF R 1 0))) := by
  refine Ct.of (by decide) (Nat.le_of_ble_eq_true rfl) ?_
  intro X E Er hX _ hnm
  have E : Ob g X cX3_empty 2 RX3 := E
  refine z_lve (lv' := [(0, .ref e)]) rfl ?_
  refine z_aload_n E dX3_empty_0 0 rfl rfl ?_
  refine gt_X3_15 (v := .int (nI (R.1 1))) E dX3_empty_1 0 rfl rfl ?_
  refine z_istore_n (lv' := [(0, .ref e), (1, .int (nI (R.1 1)))]) E dX3_empty_4 1 rfl (by decide) rfl ?_
  refine z_aload_n E dX3_empty_5 0 rfl rfl ?_
  refine z_iconst (v := (nI 0)) E dX3_empty_6 (by decide) ?_
  refine pt_X3_15 (x := nI 0) (ws' := wRead g e u (sF R 1 0)) E dX3_empty_7 0 rfl (Nat.le_of_ble_eq_true rfl) rfl ?_
  refine z_iload_n E dX3_empty_10 1 rfl rfl ?_
  refine z_iret E Er dX3_empty_11 ?_
  exact ⟨rfl, rfl⟩

set_option maxHeartbeats 4000000 in
set_option maxRecDepth 100000 in
theorem c_X3_add (g : GC) (e : Nat) (u : Nat → Nat) (R : NS) (l : Nat) (hr : rdI R) : Ct g yX3_add cX3_add 2 (some .boolean) 0 0 0 [.ref e, .int (nI l)] (wRead g e u R) (DI (bI (decide (R.1 1 < 200))) (wRead g e u (if R.1 1 < 200 then sA (sF R 1 (R.1 1 + 1)) 0 (va_up (R.2 0) (R.1 1) l) else R))) := by
  refine Ct.of (by decide) (Nat.le_of_ble_eq_true rfl) ?_
  intro X E Er hX _ hnm
  have E : Ob g X cX3_add 2 RX3 := E
  have hn := hr.2.2.1
  have hn2 := hr.1.1 1
  refine z_lve (lv' := [(0, .ref e), (1, .int (nI l))]) rfl ?_
  refine z_aload_n E dX3_add_0 0 rfl rfl ?_
  refine gt_X3_15 (v := .int (nI (R.1 1))) E dX3_add_1 0 rfl rfl ?_
  refine z_sipush (v := (nI 200)) E dX3_add_4 (by decide) ?_
  refine z_icmpN_lt E dX3_add_7 12 (by decide) (by omega) (by decide) (fun c1 => ?_) (fun c1 => ?_)
  · refine z_aload_n E dX3_add_12 0 rfl rfl ?_
    refine gt_X3_9 (v := .ref (u 0)) E dX3_add_13 0 rfl rfl ?_
    refine z_aload_n E dX3_add_16 0 rfl rfl ?_
    refine gt_X3_15 (v := .int (nI (R.1 1))) E dX3_add_17 0 rfl rfl ?_
    refine z_iload_n E dX3_add_20 1 rfl rfl ?_
    refine z_iastN (f := (R.2 0)) (i := (R.1 1)) (x := l) (ws' := wRead g e u (sA R 0 (va_up (R.2 0) (R.1 1) l))) E dX3_add_21 1 rfl (by omega) (by decide) rfl ?_
    refine z_aload_n E dX3_add_22 0 rfl rfl ?_
    refine z_dup E dX3_add_23 rfl ?_
    refine gt_X3_15 (v := .int (nI (R.1 1))) E dX3_add_24 0 rfl rfl ?_
    refine z_iconst (v := (nI 1)) E dX3_add_27 (by decide) ?_
    refine z_iaddN E dX3_add_28 ?_
    refine pt_X3_15 (x := nI ((R.1 1) + 1)) (ws' := wRead g e u (sA (sF R 1 ((R.1 1) + 1)) 0 (va_up (R.2 0) (R.1 1) l))) E dX3_add_29 0 rfl (Nat.le_of_ble_eq_true rfl) rfl ?_
    refine z_iconst (v := (nI 1)) E dX3_add_32 (by decide) ?_
    refine z_zret E Er dX3_add_33 (by decide) ?_
    exact ⟨bz1 (by simp [c1]), by rw [if_pos c1]⟩
  · refine z_iconst (v := (nI 0)) E dX3_add_10 (by decide) ?_
    refine z_zret E Er dX3_add_11 (by decide) ?_
    exact ⟨bz0 (by simp [c1]), by rw [if_neg (Nat.not_lt.mpr c1)]⟩

set_option maxHeartbeats 4000000 in
set_option maxRecDepth 100000 in
theorem l_digits (g : GC) (e : Nat) (u : Nat → Nat) (R : NS) (hr : rdI R) (hp : R.1 2 ≤ R.1 1) (ha : R.1 4 = R.1 2) (X : XC) (E : Ob g X cX3_readDigits 1 RX3) (hX : X.2.2.1 = zR 0 0 0) (K : ∀ (j : Nat) (v : Nat), (j = (de (R.2 0) (R.1 1) (R.1 2))) → (v = nbF (R.2 0) (R.1 2) (j - R.1 2)) → Z g X 1 0 0 (wRead g e u (sF (sF R 2 j) 5 v)) [(0, .ref e)] [] 94) : ∀ (n : Nat) (j : Nat) (v : Nat), (R.1 2 ≤ j) → (j ≤ R.1 1) → (v = nbF (R.2 0) (R.1 2) (j - R.1 2)) → (de (R.2 0) (R.1 1) j = (de (R.2 0) (R.1 1) (R.1 2))) → (R.1 1 < j + n) → Z g X 1 0 0 (wRead g e u (sF (sF R 2 j) 5 v)) [(0, .ref e)] [] 5 := by
  intro n
  induction n with
  | zero =>
    intro j v h1 h2 hv hde hf
    have hn := hr.2.2.1
    have hlj := hr.2.1 j
    exfalso; omega
  | succ n ih =>
    intro j v h1 h2 hv hde hf
    have hn := hr.2.2.1
    have hlj := hr.2.1 j
    refine z_aload_n E dX3_readDigits_5 0 rfl rfl ?_
    refine gt_X3_55 (v := .int (nI j)) E dX3_readDigits_6 0 rfl rfl ?_
    refine z_aload_n E dX3_readDigits_9 0 rfl rfl ?_
    refine gt_X3_15 (v := .int (nI (R.1 1))) E dX3_readDigits_10 0 rfl rfl ?_
    refine z_icmpN_ge E dX3_readDigits_13 94 (by decide) (by omega) (by omega) (fun c1 => ?_) (fun c1 => ?_)
    · exact K j v (by rw [← hde]; exact (de_n (fun q => by omega)).symm) hv
    · refine z_aload_n E dX3_readDigits_16 0 rfl rfl ?_
      refine gt_X3_9 (v := .ref (u 0)) E dX3_readDigits_17 0 rfl rfl ?_
      refine z_aload_n E dX3_readDigits_20 0 rfl rfl ?_
      refine gt_X3_55 (v := .int (nI j)) E dX3_readDigits_21 0 rfl rfl ?_
      refine z_ialdN (f := (R.2 0)) E dX3_readDigits_24 1 rfl (by omega) (by decide) ?_
      refine z_bipush (v := (nI 48)) E dX3_readDigits_25 (by decide) ?_
      refine z_icmpN_lt E dX3_readDigits_27 94 (by decide) (by omega) (by decide) (fun c2 => ?_) (fun c2 => ?_)
      · exact K j v (by rw [← hde]; exact (de_n (fun q => by have := dg_b q.2; omega)).symm) hv
      · refine z_aload_n E dX3_readDigits_30 0 rfl rfl ?_
        refine gt_X3_9 (v := .ref (u 0)) E dX3_readDigits_31 0 rfl rfl ?_
        refine z_aload_n E dX3_readDigits_34 0 rfl rfl ?_
        refine gt_X3_55 (v := .int (nI j)) E dX3_readDigits_35 0 rfl rfl ?_
        refine z_ialdN (f := (R.2 0)) E dX3_readDigits_38 1 rfl (by omega) (by decide) ?_
        refine z_bipush (v := (nI 57)) E dX3_readDigits_39 (by decide) ?_
        refine z_icmpN_gt E dX3_readDigits_41 94 (by decide) (by omega) (by decide) (fun c3 => ?_) (fun c3 => ?_)
        · exact K j v (by rw [← hde]; exact (de_n (fun q => by have := dg_b q.2; omega)).symm) hv
        · refine z_aload_n E dX3_readDigits_44 0 rfl rfl ?_
          refine gt_X3_55 (v := .int (nI j)) E dX3_readDigits_45 0 rfl rfl ?_
          refine z_aload_n E dX3_readDigits_48 0 rfl rfl ?_
          refine gt_X3_30 (v := .int (nI (R.1 4))) E dX3_readDigits_49 0 rfl rfl ?_
          refine z_isubN E dX3_readDigits_52 (by omega) ?_
          refine z_iconst (v := (nI 2)) E dX3_readDigits_53 (by decide) ?_
          refine z_icmpN_ge E dX3_readDigits_54 81 (by decide) (by omega) (by decide) (fun c4 => ?_) (fun c4 => ?_)
          · refine z_aload_n E dX3_readDigits_81 0 rfl rfl ?_
            refine z_dup E dX3_readDigits_82 rfl ?_
            refine gt_X3_55 (v := .int (nI j)) E dX3_readDigits_83 0 rfl rfl ?_
            refine z_iconst (v := (nI 1)) E dX3_readDigits_86 (by decide) ?_
            refine z_iaddN E dX3_readDigits_87 ?_
            refine pt_X3_55 (x := nI (j + 1)) (ws' := wRead g e u (sF (sF R 2 (j + 1)) 5 v)) E dX3_readDigits_88 0 rfl (Nat.le_of_ble_eq_true rfl) rfl ?_
            refine z_goto E dX3_readDigits_91 5 (by decide) ?_
            exact ih (j + 1) v (by omega) (by omega) (by rw [hv]; unfold nbF; rw [show j + 1 - R.1 2 = j - R.1 2 + 1 by omega]; (repeat' split) <;> first | omega | (rw [show R.1 2 = j by omega]; omega) | (rw [show R.1 2 + 1 = j by omega]; omega)) (by rw [← de_y c1 (dg_i c2 c3)]; exact hde) (by omega)
          · refine z_aload_n E dX3_readDigits_57 0 rfl rfl ?_
            refine z_aload_n E dX3_readDigits_58 0 rfl rfl ?_
            refine gt_X3_107 (v := .int (nI v)) E dX3_readDigits_59 0 rfl rfl ?_
            refine z_bipush (v := (nI 10)) E dX3_readDigits_62 (by decide) ?_
            refine z_imulN E dX3_readDigits_64 ?_
            refine z_aload_n E dX3_readDigits_65 0 rfl rfl ?_
            refine gt_X3_9 (v := .ref (u 0)) E dX3_readDigits_66 0 rfl rfl ?_
            refine z_aload_n E dX3_readDigits_69 0 rfl rfl ?_
            refine gt_X3_55 (v := .int (nI j)) E dX3_readDigits_70 0 rfl rfl ?_
            refine z_ialdN (f := (R.2 0)) E dX3_readDigits_73 1 rfl (by omega) (by decide) ?_
            refine z_iaddN E dX3_readDigits_74 ?_
            refine z_bipush (v := (nI 48)) E dX3_readDigits_75 (by decide) ?_
            refine z_isubN E dX3_readDigits_77 (by omega) ?_
            refine pt_X3_107 (x := nI (((v * 10) + ((R.2 0) j)) - 48)) (ws' := wRead g e u (sF (sF R 2 j) 5 (((v * 10) + ((R.2 0) j)) - 48))) E dX3_readDigits_78 0 rfl (Nat.le_of_ble_eq_true rfl) rfl ?_
            refine z_aload_n E dX3_readDigits_81 0 rfl rfl ?_
            refine z_dup E dX3_readDigits_82 rfl ?_
            refine gt_X3_55 (v := .int (nI j)) E dX3_readDigits_83 0 rfl rfl ?_
            refine z_iconst (v := (nI 1)) E dX3_readDigits_86 (by decide) ?_
            refine z_iaddN E dX3_readDigits_87 ?_
            refine pt_X3_55 (x := nI (j + 1)) (ws' := wRead g e u (sF (sF R 2 (j + 1)) 5 (((v * 10) + ((R.2 0) j)) - 48))) E dX3_readDigits_88 0 rfl (Nat.le_of_ble_eq_true rfl) rfl ?_
            refine z_goto E dX3_readDigits_91 5 (by decide) ?_
            exact ih (j + 1) (((v * 10) + ((R.2 0) j)) - 48) (by omega) (by omega) (by rw [hv]; unfold nbF; rw [show j + 1 - R.1 2 = j - R.1 2 + 1 by omega]; (repeat' split) <;> first | omega | (rw [show R.1 2 = j by omega]; omega) | (rw [show R.1 2 + 1 = j by omega]; omega)) (by rw [← de_y c1 (dg_i c2 c3)]; exact hde) (by omega)

set_option maxHeartbeats 4000000 in
set_option maxRecDepth 100000 in
theorem c_X3_readDigits (g : GC) (e : Nat) (u : Nat → Nat) (R : NS) (hr : rdI R) (hp : R.1 2 ≤ R.1 1) (ha : R.1 4 = R.1 2) : Ct g yX3_readDigits cX3_readDigits 1 none 0 0 0 [.ref e] (wRead g e u R) (DV (wRead g e u (sF (sF R 2 (de (R.2 0) (R.1 1) (R.1 2))) 5 (nbF (R.2 0) (R.1 2) (de (R.2 0) (R.1 1) (R.1 2) - R.1 2))))) := by
  refine Ct.of (by decide) (Nat.le_of_ble_eq_true rfl) ?_
  intro X E Er hX _ hnm
  have E : Ob g X cX3_readDigits 1 RX3 := E
  have hn := hr.2.2.1
  refine z_lve (lv' := [(0, .ref e)]) rfl ?_
  refine z_aload_n E dX3_readDigits_0 0 rfl rfl ?_
  refine z_iconst (v := (nI 0)) E dX3_readDigits_1 (by decide) ?_
  refine pt_X3_107 (x := nI 0) (ws' := wRead g e u (sF R 5 0)) E dX3_readDigits_2 0 rfl (Nat.le_of_ble_eq_true rfl) rfl ?_
  refine l_digits g e u R hr hp ha X E hX (fun j v hj hv => ?_) (R.1 1 + 1) (R.1 2) 0 (by omega) (by omega) (by rw [Nat.sub_self]; rfl) rfl (by omega)
  refine z_vret E Er dX3_readDigits_94 ?_
  exact ⟨rfl, by rw [← hj, ← hv]⟩

set_option maxHeartbeats 4000000 in
set_option maxRecDepth 100000 in
theorem l_skip (g : GC) (e : Nat) (u : Nat → Nat) (R : NS) (hr : rdI R) (hi : R.1 2 ≤ R.1 1) (X : XC) (E : Ob g X cX3_readToken 3 RX3) (hX : X.2.2.1 = zR 3 0 0) (K : ∀ (j : Nat), ((sk (R.2 0) (R.1 1) (R.1 2)) = j) → (j ≤ R.1 1) → Z g X 3 0 0 (wRead g e u (sF R 2 j)) [(0, .ref e)] [] 38) : ∀ (n : Nat) (j : Nat), (j ≤ R.1 1) → (sk (R.2 0) (R.1 1) j = (sk (R.2 0) (R.1 1) (R.1 2))) → (R.1 1 < j + n) → Z g X 3 0 0 (wRead g e u (sF R 2 j)) [(0, .ref e)] [] 0 := by
  intro n
  induction n with
  | zero =>
    intro j h2 hs hf
    have hn := hr.2.2.1
    have hlj := hr.2.1 j
    exfalso; omega
  | succ n ih =>
    intro j h2 hs hf
    have hn := hr.2.2.1
    have hlj := hr.2.1 j
    refine z_aload_n E dX3_readToken_0 0 rfl rfl ?_
    refine gt_X3_55 (v := .int (nI j)) E dX3_readToken_1 0 rfl rfl ?_
    refine z_aload_n E dX3_readToken_4 0 rfl rfl ?_
    refine gt_X3_15 (v := .int (nI (R.1 1))) E dX3_readToken_5 0 rfl rfl ?_
    refine z_icmpN_ge E dX3_readToken_8 38 (by decide) (by omega) (by omega) (fun c1 => ?_) (fun c1 => ?_)
    · exact K j (by rw [← hs]; exact sk_n (fun q => by omega)) h2
    · refine z_aload_n E dX3_readToken_11 0 rfl rfl ?_
      refine gt_X3_9 (v := .ref (u 0)) E dX3_readToken_12 0 rfl rfl ?_
      refine z_aload_n E dX3_readToken_15 0 rfl rfl ?_
      refine gt_X3_55 (v := .int (nI j)) E dX3_readToken_16 0 rfl rfl ?_
      refine z_ialdN (f := (R.2 0)) E dX3_readToken_19 1 rfl (by omega) (by decide) ?_
      refine z_bipush (v := (nI 32)) E dX3_readToken_20 (by decide) ?_
      refine z_icmpN_ne E dX3_readToken_22 38 (by decide) (by omega) (by decide) (fun c2 => ?_) (fun c2 => ?_)
      · exact K j (by rw [← hs]; exact sk_n (fun q => c2 q.2)) h2
      · refine z_aload_n E dX3_readToken_25 0 rfl rfl ?_
        refine z_dup E dX3_readToken_26 rfl ?_
        refine gt_X3_55 (v := .int (nI j)) E dX3_readToken_27 0 rfl rfl ?_
        refine z_iconst (v := (nI 1)) E dX3_readToken_30 (by decide) ?_
        refine z_iaddN E dX3_readToken_31 ?_
        refine pt_X3_55 (x := nI (j + 1)) (ws' := wRead g e u (sF R 2 (j + 1))) E dX3_readToken_32 0 rfl (Nat.le_of_ble_eq_true rfl) rfl ?_
        refine z_goto E dX3_readToken_35 0 (by decide) ?_
        exact ih (j + 1) (by omega) (by rw [← sk_y c1 c2]; exact hs) (by omega)

set_option maxHeartbeats 4000000 in
set_option maxRecDepth 100000 in
theorem c_X3_readToken (g : GC) (e : Nat) (u : Nat → Nat) (R : NS) (hr : rdI R) (hi : R.1 2 ≤ R.1 1) : Ct g yX3_readToken cX3_readToken 3 none 3 0 0 [.ref e] (wRead g e u R) (DV (wRead g e u (tokR R))) := by
  refine Ct.of (by decide) (Nat.le_of_ble_eq_true rfl) ?_
  intro X E Er hX _ hnm
  have E : Ob g X cX3_readToken 3 RX3 := E
  have hn := hr.2.2.1
  refine z_lve (lv' := [(0, .ref e)]) rfl ?_
  refine l_skip g e u R hr hi X E hX (fun j hj h2 => ?_) (R.1 1 + 1) (R.1 2) (by omega) rfl (by omega)
  have hlj := hr.2.1 j
  have hd1 := de_ge (R.2 0) (R.1 1) j
  have hd2 := de_le (t := R.2 0) h2
  refine z_aload_n E dX3_readToken_38 0 rfl rfl ?_
  refine z_aload_n E dX3_readToken_39 0 rfl rfl ?_
  refine gt_X3_55 (v := .int (nI j)) E dX3_readToken_40 0 rfl rfl ?_
  refine pt_X3_30 (x := nI j) (ws' := wRead g e u (sF (sF R 2 j) 4 j)) E dX3_readToken_43 0 rfl (Nat.le_of_ble_eq_true rfl) rfl ?_
  refine z_aload_n E dX3_readToken_46 0 rfl rfl ?_
  refine z_rwv0 (w2 := wRead g e u (sF (sF (sF R 2 (de (R.2 0) (R.1 1) j)) 4 j) 5 (nbF (R.2 0) j ((de (R.2 0) (R.1 1) j) - j)))) E (rV E hX (c_X3_readDigits g e u (sF (sF R 2 j) 4 j) (⟨(hr.1.F (show j < 2 ^ 31 by omega)).F (show j < 2 ^ 31 by omega), hr.2.1, hr.2.2.1, hr.2.2.2⟩) h2 rfl) mw_X3_readDigits ml_X3_114 dX3_readToken_47 (Nat.le_of_ble_eq_true rfl) ⟨(Nat.le_of_ble_eq_true rfl), (Nat.le_of_ble_eq_true rfl)⟩ rfl rfl (Nat.le_of_ble_eq_true rfl) 0 rfl rfl) rfl ?_
  refine z_aload_n E dX3_readToken_50 0 rfl rfl ?_
  refine gt_X3_55 (v := .int (nI (de (R.2 0) (R.1 1) j))) E dX3_readToken_51 0 rfl rfl ?_
  refine z_aload_n E dX3_readToken_54 0 rfl rfl ?_
  refine gt_X3_30 (v := .int (nI j)) E dX3_readToken_55 0 rfl rfl ?_
  refine z_isubN E dX3_readToken_58 (by omega) ?_
  refine z_istore_n (lv' := [(0, .ref e), (1, .int (nI ((de (R.2 0) (R.1 1) j) - j)))]) E dX3_readToken_59 1 rfl (by decide) rfl ?_
  refine z_iload_n E dX3_readToken_60 1 rfl rfl ?_
  refine z_ifN_le E dX3_readToken_61 111 (by decide) (by omega) (fun c1 => ?_) (fun c1 => ?_)
  · obtain ⟨hej, hdn⟩ := de_0 c1
    refine z_ws (ws' := wRead g e u (sF (sF (sF R 2 j) 4 j) 5 (nbF (R.2 0) j ((de (R.2 0) (R.1 1) j) - j)))) (by rw [hej]) ?_
    refine z_aload_n E dX3_readToken_111 0 rfl rfl ?_
    refine gt_X3_55 (v := .int (nI j)) E dX3_readToken_112 0 rfl rfl ?_
    refine z_aload_n E dX3_readToken_115 0 rfl rfl ?_
    refine gt_X3_15 (v := .int (nI (R.1 1))) E dX3_readToken_116 0 rfl rfl ?_
    refine z_icmpN_lt E dX3_readToken_119 131 (by decide) (by omega) (by omega) (fun c2 => ?_) (fun c2 => ?_)
    · refine z_aload_n E dX3_readToken_131 0 rfl rfl ?_
      refine z_aload_n E dX3_readToken_132 0 rfl rfl ?_
      refine gt_X3_9 (v := .ref (u 0)) E dX3_readToken_133 0 rfl rfl ?_
      refine z_aload_n E dX3_readToken_136 0 rfl rfl ?_
      refine gt_X3_55 (v := .int (nI j)) E dX3_readToken_137 0 rfl rfl ?_
      refine z_ialdN (f := (R.2 0)) E dX3_readToken_140 1 rfl (by omega) (by decide) ?_
      refine z_se E (rS E hX (c_X3_isTokenLetter g ((R.2 0) j) hlj) mw_X3_isTokenLetter ms_X3_isTokenLetter ml_X3_117 dX3_readToken_141 (Nat.le_of_ble_eq_true rfl) ⟨(Nat.le_of_ble_eq_true rfl), (Nat.le_of_ble_eq_true rfl)⟩ rfl rfl (Nat.le_of_ble_eq_true rfl)) ?_
      refine z_ifB_eq E dX3_readToken_144 159 (by decide) (fun c3 => ?_) (fun c3 => ?_)
      · refine z_bipush (v := (-3)) E dX3_readToken_159 (by decide) ?_
        refine pt_X3_23 (x := tk 0) (ws' := wRead g e u (sF (sF (sF (sF R 2 j) 3 0) 4 j) 5 (nbF (R.2 0) j ((de (R.2 0) (R.1 1) j) - j)))) E dX3_readToken_161 0 rfl (Nat.le_of_ble_eq_true rfl) rfl ?_
        refine z_aload_n E dX3_readToken_164 0 rfl rfl ?_
        refine z_dup E dX3_readToken_165 rfl ?_
        refine gt_X3_55 (v := .int (nI j)) E dX3_readToken_166 0 rfl rfl ?_
        refine z_iconst (v := (nI 1)) E dX3_readToken_169 (by decide) ?_
        refine z_iaddN E dX3_readToken_170 ?_
        refine pt_X3_55 (x := nI (j + 1)) (ws' := wRead g e u (sF (sF (sF (sF R 2 (j + 1)) 3 0) 4 j) 5 (nbF (R.2 0) j ((de (R.2 0) (R.1 1) j) - j)))) E dX3_readToken_171 0 rfl (Nat.le_of_ble_eq_true rfl) rfl ?_
        refine z_vret E Er dX3_readToken_174 ?_
        exact ⟨rfl, by unfold tokR; rw [show lxN (R.2 0) (R.1 1) (R.1 2) = (j + 1) from by unfold lxN; rw [hj, if_neg (Nat.not_le.mpr c2), if_neg (fun q => hdn ⟨c2, q⟩)], show lxT (R.2 0) (R.1 1) (R.1 2) = 0 from by unfold lxT; rw [hj, if_neg (Nat.not_le.mpr c2), if_neg (fun q => hdn ⟨c2, q⟩), if_neg (show ¬ tl (R.2 0 j) = true by rw [c3]; decide)], show lxA (R.2 0) (R.1 1) (R.1 2) = j from hj, show lxV (R.2 0) (R.1 1) (R.1 2) (R.1 5) = (nbF (R.2 0) j ((de (R.2 0) (R.1 1) j) - j)) from by unfold lxV; rw [hj]] <;> rfl⟩
      · refine z_aload_n E dX3_readToken_147 0 rfl rfl ?_
        refine gt_X3_9 (v := .ref (u 0)) E dX3_readToken_148 0 rfl rfl ?_
        refine z_aload_n E dX3_readToken_151 0 rfl rfl ?_
        refine gt_X3_55 (v := .int (nI j)) E dX3_readToken_152 0 rfl rfl ?_
        refine z_ialdN (f := (R.2 0)) E dX3_readToken_155 1 rfl (by omega) (by decide) ?_
        refine z_goto E dX3_readToken_156 161 (by decide) ?_
        refine pt_X3_23 (x := tk (((R.2 0) j) + 3)) (ws' := wRead g e u (sF (sF (sF (sF R 2 j) 3 (((R.2 0) j) + 3)) 4 j) 5 (nbF (R.2 0) j ((de (R.2 0) (R.1 1) j) - j)))) E dX3_readToken_161 0 rfl (Nat.le_of_ble_eq_true rfl) rfl ?_
        refine z_aload_n E dX3_readToken_164 0 rfl rfl ?_
        refine z_dup E dX3_readToken_165 rfl ?_
        refine gt_X3_55 (v := .int (nI j)) E dX3_readToken_166 0 rfl rfl ?_
        refine z_iconst (v := (nI 1)) E dX3_readToken_169 (by decide) ?_
        refine z_iaddN E dX3_readToken_170 ?_
        refine pt_X3_55 (x := nI (j + 1)) (ws' := wRead g e u (sF (sF (sF (sF R 2 (j + 1)) 3 (((R.2 0) j) + 3)) 4 j) 5 (nbF (R.2 0) j ((de (R.2 0) (R.1 1) j) - j)))) E dX3_readToken_171 0 rfl (Nat.le_of_ble_eq_true rfl) rfl ?_
        refine z_vret E Er dX3_readToken_174 ?_
        exact ⟨rfl, by unfold tokR; rw [show lxN (R.2 0) (R.1 1) (R.1 2) = (j + 1) from by unfold lxN; rw [hj, if_neg (Nat.not_le.mpr c2), if_neg (fun q => hdn ⟨c2, q⟩)], show lxT (R.2 0) (R.1 1) (R.1 2) = (((R.2 0) j) + 3) from by unfold lxT; rw [hj, if_neg (Nat.not_le.mpr c2), if_neg (fun q => hdn ⟨c2, q⟩), if_pos c3], show lxA (R.2 0) (R.1 1) (R.1 2) = j from hj, show lxV (R.2 0) (R.1 1) (R.1 2) (R.1 5) = (nbF (R.2 0) j ((de (R.2 0) (R.1 1) j) - j)) from by unfold lxV; rw [hj]] <;> rfl⟩
    · refine z_aload_n E dX3_readToken_122 0 rfl rfl ?_
      refine z_bipush (v := (-2)) E dX3_readToken_123 (by decide) ?_
      refine pt_X3_23 (x := tk 1) (ws' := wRead g e u (sF (sF (sF (sF R 2 j) 3 1) 4 j) 5 (nbF (R.2 0) j ((de (R.2 0) (R.1 1) j) - j)))) E dX3_readToken_125 0 rfl (Nat.le_of_ble_eq_true rfl) rfl ?_
      refine z_goto E dX3_readToken_128 174 (by decide) ?_
      refine z_vret E Er dX3_readToken_174 ?_
      exact ⟨rfl, by unfold tokR; rw [show lxN (R.2 0) (R.1 1) (R.1 2) = j from by unfold lxN; rw [hj, if_pos c2], show lxT (R.2 0) (R.1 1) (R.1 2) = 1 from by unfold lxT; rw [hj, if_pos c2], show lxA (R.2 0) (R.1 1) (R.1 2) = j from hj, show lxV (R.2 0) (R.1 1) (R.1 2) (R.1 5) = (nbF (R.2 0) j ((de (R.2 0) (R.1 1) j) - j)) from by unfold lxV; rw [hj]] <;> rfl⟩
  · have hdj := de_1 c1
    have hdk := hdj.1
    refine z_iload_n E dX3_readToken_64 1 rfl rfl ?_
    refine z_iconst (v := (nI 1)) E dX3_readToken_65 (by decide) ?_
    refine z_icmpN_le E dX3_readToken_66 87 (by decide) (by omega) (by decide) (fun c2 => ?_) (fun c2 => ?_)
    · refine z_iconst (v := (nI 0)) E dX3_readToken_87 (by decide) ?_
      refine z_istore_n (lv' := [(0, .ref e), (1, .int (nI ((de (R.2 0) (R.1 1) j) - j))), (2, .int (nI 0))]) E dX3_readToken_88 2 rfl (by decide) rfl ?_
      refine z_aload_n E dX3_readToken_89 0 rfl rfl ?_
      refine z_iload_n E dX3_readToken_90 1 rfl rfl ?_
      refine z_iconst (v := (nI 2)) E dX3_readToken_91 (by decide) ?_
      refine z_icmpN_gt E dX3_readToken_92 99 (by decide) (by omega) (by decide) (fun c3 => ?_) (fun c3 => ?_)
      · refine z_bipush (v := (-3)) E dX3_readToken_99 (by decide) ?_
        refine z_goto E dX3_readToken_101 105 (by decide) ?_
        refine pt_X3_23 (x := tk 0) (ws' := wRead g e u (sF (sF (sF (sF R 2 (de (R.2 0) (R.1 1) j)) 3 0) 4 j) 5 (nbF (R.2 0) j ((de (R.2 0) (R.1 1) j) - j)))) E dX3_readToken_105 0 rfl (Nat.le_of_ble_eq_true rfl) rfl ?_
        refine z_goto E dX3_readToken_108 174 (by decide) ?_
        refine z_vret E Er dX3_readToken_174 ?_
        exact ⟨rfl, by unfold tokR; rw [show lxN (R.2 0) (R.1 1) (R.1 2) = (de (R.2 0) (R.1 1) j) from by unfold lxN; rw [hj, if_neg (Nat.not_le.mpr hdj.1), if_pos hdj.2], show lxT (R.2 0) (R.1 1) (R.1 2) = 0 from by unfold lxT; rw [hj, if_neg (Nat.not_le.mpr hdj.1), if_pos hdj.2, show nkF (R.2 0) j (de (R.2 0) (R.1 1) j) = 0 from by unfold nkF; split <;> omega], show lxA (R.2 0) (R.1 1) (R.1 2) = j from hj, show lxV (R.2 0) (R.1 1) (R.1 2) (R.1 5) = (nbF (R.2 0) j ((de (R.2 0) (R.1 1) j) - j)) from by unfold lxV; rw [hj]] <;> rfl⟩
      · refine z_iload_n E dX3_readToken_95 2 rfl rfl ?_
        refine z_ifN_eq E dX3_readToken_96 104 (by decide) (by decide) (fun c4 => ?_) (fun c4 => ?_)
        · refine z_iconst (v := (-1)) E dX3_readToken_104 (by decide) ?_
          refine pt_X3_23 (x := tk 2) (ws' := wRead g e u (sF (sF (sF (sF R 2 (de (R.2 0) (R.1 1) j)) 3 2) 4 j) 5 (nbF (R.2 0) j ((de (R.2 0) (R.1 1) j) - j)))) E dX3_readToken_105 0 rfl (Nat.le_of_ble_eq_true rfl) rfl ?_
          refine z_goto E dX3_readToken_108 174 (by decide) ?_
          refine z_vret E Er dX3_readToken_174 ?_
          exact ⟨rfl, by unfold tokR; rw [show lxN (R.2 0) (R.1 1) (R.1 2) = (de (R.2 0) (R.1 1) j) from by unfold lxN; rw [hj, if_neg (Nat.not_le.mpr hdj.1), if_pos hdj.2], show lxT (R.2 0) (R.1 1) (R.1 2) = 2 from by unfold lxT; rw [hj, if_neg (Nat.not_le.mpr hdj.1), if_pos hdj.2, show nkF (R.2 0) j (de (R.2 0) (R.1 1) j) = 2 from by unfold nkF; split <;> omega], show lxA (R.2 0) (R.1 1) (R.1 2) = j from hj, show lxV (R.2 0) (R.1 1) (R.1 2) (R.1 5) = (nbF (R.2 0) j ((de (R.2 0) (R.1 1) j) - j)) from by unfold lxV; rw [hj]] <;> rfl⟩
        · refine z_bipush (v := (-3)) E dX3_readToken_99 (by decide) ?_
          refine z_goto E dX3_readToken_101 105 (by decide) ?_
          refine pt_X3_23 (x := tk 0) (ws' := wRead g e u (sF (sF (sF (sF R 2 (de (R.2 0) (R.1 1) j)) 3 0) 4 j) 5 (nbF (R.2 0) j ((de (R.2 0) (R.1 1) j) - j)))) E dX3_readToken_105 0 rfl (Nat.le_of_ble_eq_true rfl) rfl ?_
          refine z_goto E dX3_readToken_108 174 (by decide) ?_
          refine z_vret E Er dX3_readToken_174 ?_
          exact ⟨rfl, by unfold tokR; rw [show lxN (R.2 0) (R.1 1) (R.1 2) = (de (R.2 0) (R.1 1) j) from by unfold lxN; rw [hj, if_neg (Nat.not_le.mpr hdj.1), if_pos hdj.2], show lxT (R.2 0) (R.1 1) (R.1 2) = 0 from by unfold lxT; rw [hj, if_neg (Nat.not_le.mpr hdj.1), if_pos hdj.2, show nkF (R.2 0) j (de (R.2 0) (R.1 1) j) = 0 from by unfold nkF; split <;> omega], show lxA (R.2 0) (R.1 1) (R.1 2) = j from hj, show lxV (R.2 0) (R.1 1) (R.1 2) (R.1 5) = (nbF (R.2 0) j ((de (R.2 0) (R.1 1) j) - j)) from by unfold lxV; rw [hj]] <;> rfl⟩
    · refine z_aload_n E dX3_readToken_69 0 rfl rfl ?_
      refine gt_X3_9 (v := .ref (u 0)) E dX3_readToken_70 0 rfl rfl ?_
      refine z_aload_n E dX3_readToken_73 0 rfl rfl ?_
      refine gt_X3_30 (v := .int (nI j)) E dX3_readToken_74 0 rfl rfl ?_
      refine z_ialdN (f := (R.2 0)) E dX3_readToken_77 1 rfl (by omega) (by decide) ?_
      refine z_bipush (v := (nI 48)) E dX3_readToken_78 (by decide) ?_
      refine z_icmpN_ne E dX3_readToken_80 87 (by decide) (by omega) (by decide) (fun c3 => ?_) (fun c3 => ?_)
      · refine z_iconst (v := (nI 0)) E dX3_readToken_87 (by decide) ?_
        refine z_istore_n (lv' := [(0, .ref e), (1, .int (nI ((de (R.2 0) (R.1 1) j) - j))), (2, .int (nI 0))]) E dX3_readToken_88 2 rfl (by decide) rfl ?_
        refine z_aload_n E dX3_readToken_89 0 rfl rfl ?_
        refine z_iload_n E dX3_readToken_90 1 rfl rfl ?_
        refine z_iconst (v := (nI 2)) E dX3_readToken_91 (by decide) ?_
        refine z_icmpN_gt E dX3_readToken_92 99 (by decide) (by omega) (by decide) (fun c4 => ?_) (fun c4 => ?_)
        · refine z_bipush (v := (-3)) E dX3_readToken_99 (by decide) ?_
          refine z_goto E dX3_readToken_101 105 (by decide) ?_
          refine pt_X3_23 (x := tk 0) (ws' := wRead g e u (sF (sF (sF (sF R 2 (de (R.2 0) (R.1 1) j)) 3 0) 4 j) 5 (nbF (R.2 0) j ((de (R.2 0) (R.1 1) j) - j)))) E dX3_readToken_105 0 rfl (Nat.le_of_ble_eq_true rfl) rfl ?_
          refine z_goto E dX3_readToken_108 174 (by decide) ?_
          refine z_vret E Er dX3_readToken_174 ?_
          exact ⟨rfl, by unfold tokR; rw [show lxN (R.2 0) (R.1 1) (R.1 2) = (de (R.2 0) (R.1 1) j) from by unfold lxN; rw [hj, if_neg (Nat.not_le.mpr hdj.1), if_pos hdj.2], show lxT (R.2 0) (R.1 1) (R.1 2) = 0 from by unfold lxT; rw [hj, if_neg (Nat.not_le.mpr hdj.1), if_pos hdj.2, show nkF (R.2 0) j (de (R.2 0) (R.1 1) j) = 0 from by unfold nkF; split <;> omega], show lxA (R.2 0) (R.1 1) (R.1 2) = j from hj, show lxV (R.2 0) (R.1 1) (R.1 2) (R.1 5) = (nbF (R.2 0) j ((de (R.2 0) (R.1 1) j) - j)) from by unfold lxV; rw [hj]] <;> rfl⟩
        · refine z_iload_n E dX3_readToken_95 2 rfl rfl ?_
          refine z_ifN_eq E dX3_readToken_96 104 (by decide) (by decide) (fun c5 => ?_) (fun c5 => ?_)
          · refine z_iconst (v := (-1)) E dX3_readToken_104 (by decide) ?_
            refine pt_X3_23 (x := tk 2) (ws' := wRead g e u (sF (sF (sF (sF R 2 (de (R.2 0) (R.1 1) j)) 3 2) 4 j) 5 (nbF (R.2 0) j ((de (R.2 0) (R.1 1) j) - j)))) E dX3_readToken_105 0 rfl (Nat.le_of_ble_eq_true rfl) rfl ?_
            refine z_goto E dX3_readToken_108 174 (by decide) ?_
            refine z_vret E Er dX3_readToken_174 ?_
            exact ⟨rfl, by unfold tokR; rw [show lxN (R.2 0) (R.1 1) (R.1 2) = (de (R.2 0) (R.1 1) j) from by unfold lxN; rw [hj, if_neg (Nat.not_le.mpr hdj.1), if_pos hdj.2], show lxT (R.2 0) (R.1 1) (R.1 2) = 2 from by unfold lxT; rw [hj, if_neg (Nat.not_le.mpr hdj.1), if_pos hdj.2, show nkF (R.2 0) j (de (R.2 0) (R.1 1) j) = 2 from by unfold nkF; split <;> omega], show lxA (R.2 0) (R.1 1) (R.1 2) = j from hj, show lxV (R.2 0) (R.1 1) (R.1 2) (R.1 5) = (nbF (R.2 0) j ((de (R.2 0) (R.1 1) j) - j)) from by unfold lxV; rw [hj]] <;> rfl⟩
          · refine z_bipush (v := (-3)) E dX3_readToken_99 (by decide) ?_
            refine z_goto E dX3_readToken_101 105 (by decide) ?_
            refine pt_X3_23 (x := tk 0) (ws' := wRead g e u (sF (sF (sF (sF R 2 (de (R.2 0) (R.1 1) j)) 3 0) 4 j) 5 (nbF (R.2 0) j ((de (R.2 0) (R.1 1) j) - j)))) E dX3_readToken_105 0 rfl (Nat.le_of_ble_eq_true rfl) rfl ?_
            refine z_goto E dX3_readToken_108 174 (by decide) ?_
            refine z_vret E Er dX3_readToken_174 ?_
            exact ⟨rfl, by unfold tokR; rw [show lxN (R.2 0) (R.1 1) (R.1 2) = (de (R.2 0) (R.1 1) j) from by unfold lxN; rw [hj, if_neg (Nat.not_le.mpr hdj.1), if_pos hdj.2], show lxT (R.2 0) (R.1 1) (R.1 2) = 0 from by unfold lxT; rw [hj, if_neg (Nat.not_le.mpr hdj.1), if_pos hdj.2, show nkF (R.2 0) j (de (R.2 0) (R.1 1) j) = 0 from by unfold nkF; split <;> omega], show lxA (R.2 0) (R.1 1) (R.1 2) = j from hj, show lxV (R.2 0) (R.1 1) (R.1 2) (R.1 5) = (nbF (R.2 0) j ((de (R.2 0) (R.1 1) j) - j)) from by unfold lxV; rw [hj]] <;> rfl⟩
      · refine z_iconst (v := (nI 1)) E dX3_readToken_83 (by decide) ?_
        refine z_goto E dX3_readToken_84 88 (by decide) ?_
        refine z_istore_n (lv' := [(0, .ref e), (1, .int (nI ((de (R.2 0) (R.1 1) j) - j))), (2, .int (nI 1))]) E dX3_readToken_88 2 rfl (by decide) rfl ?_
        refine z_aload_n E dX3_readToken_89 0 rfl rfl ?_
        refine z_iload_n E dX3_readToken_90 1 rfl rfl ?_
        refine z_iconst (v := (nI 2)) E dX3_readToken_91 (by decide) ?_
        refine z_icmpN_gt E dX3_readToken_92 99 (by decide) (by omega) (by decide) (fun c4 => ?_) (fun c4 => ?_)
        · refine z_bipush (v := (-3)) E dX3_readToken_99 (by decide) ?_
          refine z_goto E dX3_readToken_101 105 (by decide) ?_
          refine pt_X3_23 (x := tk 0) (ws' := wRead g e u (sF (sF (sF (sF R 2 (de (R.2 0) (R.1 1) j)) 3 0) 4 j) 5 (nbF (R.2 0) j ((de (R.2 0) (R.1 1) j) - j)))) E dX3_readToken_105 0 rfl (Nat.le_of_ble_eq_true rfl) rfl ?_
          refine z_goto E dX3_readToken_108 174 (by decide) ?_
          refine z_vret E Er dX3_readToken_174 ?_
          exact ⟨rfl, by unfold tokR; rw [show lxN (R.2 0) (R.1 1) (R.1 2) = (de (R.2 0) (R.1 1) j) from by unfold lxN; rw [hj, if_neg (Nat.not_le.mpr hdj.1), if_pos hdj.2], show lxT (R.2 0) (R.1 1) (R.1 2) = 0 from by unfold lxT; rw [hj, if_neg (Nat.not_le.mpr hdj.1), if_pos hdj.2, show nkF (R.2 0) j (de (R.2 0) (R.1 1) j) = 0 from by unfold nkF; split <;> omega], show lxA (R.2 0) (R.1 1) (R.1 2) = j from hj, show lxV (R.2 0) (R.1 1) (R.1 2) (R.1 5) = (nbF (R.2 0) j ((de (R.2 0) (R.1 1) j) - j)) from by unfold lxV; rw [hj]] <;> rfl⟩
        · refine z_iload_n E dX3_readToken_95 2 rfl rfl ?_
          refine z_ifN_eq E dX3_readToken_96 104 (by decide) (by decide) (fun c5 => ?_) (fun c5 => ?_)
          · refine z_iconst (v := (-1)) E dX3_readToken_104 (by decide) ?_
            refine pt_X3_23 (x := tk 2) (ws' := wRead g e u (sF (sF (sF (sF R 2 (de (R.2 0) (R.1 1) j)) 3 2) 4 j) 5 (nbF (R.2 0) j ((de (R.2 0) (R.1 1) j) - j)))) E dX3_readToken_105 0 rfl (Nat.le_of_ble_eq_true rfl) rfl ?_
            refine z_goto E dX3_readToken_108 174 (by decide) ?_
            refine z_vret E Er dX3_readToken_174 ?_
            exact ⟨rfl, by unfold tokR; rw [show lxN (R.2 0) (R.1 1) (R.1 2) = (de (R.2 0) (R.1 1) j) from by unfold lxN; rw [hj, if_neg (Nat.not_le.mpr hdj.1), if_pos hdj.2], show lxT (R.2 0) (R.1 1) (R.1 2) = 2 from by unfold lxT; rw [hj, if_neg (Nat.not_le.mpr hdj.1), if_pos hdj.2, show nkF (R.2 0) j (de (R.2 0) (R.1 1) j) = 2 from by unfold nkF; split <;> omega], show lxA (R.2 0) (R.1 1) (R.1 2) = j from hj, show lxV (R.2 0) (R.1 1) (R.1 2) (R.1 5) = (nbF (R.2 0) j ((de (R.2 0) (R.1 1) j) - j)) from by unfold lxV; rw [hj]] <;> rfl⟩
          · refine z_bipush (v := (-3)) E dX3_readToken_99 (by decide) ?_
            refine z_goto E dX3_readToken_101 105 (by decide) ?_
            refine pt_X3_23 (x := tk 0) (ws' := wRead g e u (sF (sF (sF (sF R 2 (de (R.2 0) (R.1 1) j)) 3 0) 4 j) 5 (nbF (R.2 0) j ((de (R.2 0) (R.1 1) j) - j)))) E dX3_readToken_105 0 rfl (Nat.le_of_ble_eq_true rfl) rfl ?_
            refine z_goto E dX3_readToken_108 174 (by decide) ?_
            refine z_vret E Er dX3_readToken_174 ?_
            exact ⟨rfl, by unfold tokR; rw [show lxN (R.2 0) (R.1 1) (R.1 2) = (de (R.2 0) (R.1 1) j) from by unfold lxN; rw [hj, if_neg (Nat.not_le.mpr hdj.1), if_pos hdj.2], show lxT (R.2 0) (R.1 1) (R.1 2) = 0 from by unfold lxT; rw [hj, if_neg (Nat.not_le.mpr hdj.1), if_pos hdj.2, show nkF (R.2 0) j (de (R.2 0) (R.1 1) j) = 0 from by unfold nkF; split <;> omega], show lxA (R.2 0) (R.1 1) (R.1 2) = j from hj, show lxV (R.2 0) (R.1 1) (R.1 2) (R.1 5) = (nbF (R.2 0) j ((de (R.2 0) (R.1 1) j) - j)) from by unfold lxV; rw [hj]] <;> rfl⟩

def rnC (R : NS) (lo hi bt : Int32) : Prop := R.1 3 = 2 ∧ wi (nI (R.1 5)) lo hi = true ∧ ¬ nI (R.1 5) = bt
noncomputable def rnE (R : NS) (lo hi bt : Int32) : Nat := @ite _ (rnC R lo hi bt) (Classical.propDecidable _) (R.1 5 + 1) 0
noncomputable def rnS (R : NS) (lo hi bt : Int32) : NS := @ite _ (rnC R lo hi bt) (Classical.propDecidable _) (tokR R) R
theorem rnE_y {R : NS} {lo hi bt : Int32} (h : rnC R lo hi bt) : rnE R lo hi bt = R.1 5 + 1 := by unfold rnE; exact if_pos h
theorem rnE_n {R : NS} {lo hi bt : Int32} (h : ¬ rnC R lo hi bt) : rnE R lo hi bt = 0 := by unfold rnE; exact if_neg h
theorem rnS_y {R : NS} {lo hi bt : Int32} (h : rnC R lo hi bt) : rnS R lo hi bt = tokR R := by unfold rnS; exact if_pos h
theorem rnS_n {R : NS} {lo hi bt : Int32} (h : ¬ rnC R lo hi bt) : rnS R lo hi bt = R := by unfold rnS; exact if_neg h
theorem rnS_J {R : NS} {lo hi bt : Int32} (h : rdJ R) : rdJ (rnS R lo hi bt) := by
  by_cases q : rnC R lo hi bt
  · rw [rnS_y q]; exact tokR_J h.1 h.2.1
  · rw [rnS_n q]; exact h
theorem rnE_lt {R : NS} {lo hi bt : Int32} (h : rdJ R) : rnE R lo hi bt < 2 ^ 31 := by
  by_cases q : rnC R lo hi bt
  · rw [rnE_y q]
    have := h.1.2.2.2
    omega
  · rw [rnE_n q]; decide
