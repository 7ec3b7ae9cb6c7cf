theorem dQ_av {M M2 : NS} {x4 x5 x6 x7 : Nat} (e : M2 = sF (sF (sF (sF M 4 x4) 5 x5) 6 x6) 7 x7) : dQ M M2 := by
  subst e
  exact ((((dQ.rf M).F (by omega)).F (by omega)).F (by omega)).F (by omega)
/-- what town leaves behind -/
def twP (F : Int32 × NS × NS) (M M2 : NS) : Prop := M2.1 7 ≤ 999 ∧ (0 ≤ F.1 → mrT F.2.2 M2 ∧ mrP (st0 (F.2.2.1 2)) M2 ∧ M2.1 3 = 0 ∧ M2.1 18 = 0 ∧ M2.1 20 = 0 ∧ M2.1 23 = 0 ∧ M2.1 1 = M.1 1 ∧ M2.2 16 0 = 0 ∧ M2.2 16 1 = 0) ∧ (¬ 0 ≤ F.1 → dQ M M2)
theorem ft_neg {v : Nat} (h : v ≤ 300) : ¬ (0 : Int32) ≤ (-10) - nI v := fun q => by
  have a := Int32.le_iff_toInt_le.mp q
  have e : ((-10 : Int32) - nI v).toInt = -10 - (v : Int) := by
    rw [Int32.toInt_sub, nI_toInt (by omega)]
    have : (-10 : Int32).toInt = -10 := by decide
    rw [this]
    rw [Int.bmod_def]
    omega
  rw [e] at a
  have : (0 : Int32).toInt = 0 := by decide
  omega
theorem tkm_0 {x : Nat} (h : tkm x = 0) : x = 1 := by
  unfold tkm at h
  split at h
  · assumption
  · split at h
    · cases h
    · split at h
      · cases h
      · split at h <;> cases h
theorem tkm_1 {x : Nat} (hk : tkOK x) (h : tkm x = 1) : isLt (x - 3) ∧ 3 ≤ x := by
  unfold tkOK at hk
  rcases hk with rfl | rfl | rfl | rfl | rfl | rfl | rfl | rfl | rfl | rfl
  · exact absurd h (by decide)
  · exact absurd h (by decide)
  · exact absurd h (by decide)
  · exact absurd h (by decide)
  · exact ⟨Or.inr (Or.inr (Or.inr (Or.inl rfl))), by decide⟩
  · exact ⟨Or.inr (Or.inr (Or.inr (Or.inr (Or.inr rfl)))), by decide⟩
  · exact ⟨Or.inr (Or.inr (Or.inr (Or.inr (Or.inl rfl)))), by decide⟩
  · exact ⟨Or.inl rfl, by decide⟩
  · exact ⟨Or.inr (Or.inl rfl), by decide⟩
  · exact ⟨Or.inr (Or.inr (Or.inl rfl)), by decide⟩
theorem tkm_n1 {R T : NS} {x f : Nat} (hk : tkOK x) (h : tkm x ≠ 1) : cbF R T x f = false := by
  unfold tkOK at hk
  rcases hk with rfl | rfl | rfl | rfl | rfl | rfl | rfl | rfl | rfl | rfl
  · rfl
  · rfl
  · rfl
  · rfl
  · exact absurd rfl h
  · exact absurd rfl h
  · exact absurd rfl h
  · exact absurd rfl h
  · exact absurd rfl h
  · exact absurd rfl h
theorem tkm_3 {x : Nat} : tkm x = 3 ↔ x = 62 := by
  constructor
  · intro h
    unfold tkm at h
    split at h
    · cases h
    · split at h
      · cases h
      · split at h
        · assumption
        · split at h <;> cases h
  · intro h; rw [h]; rfl
theorem tdR_tok {R M : NS} (h : tdR R M) : tdR (tokR R) M := h
theorem spIt_a {R T : NS} {f : Nat} (h : cbF R T (R.1 3) f = false) : spIt R T f = (false, R, T) := by unfold spIt; rw [if_pos h]
theorem spIt_b {R T : NS} {f : Nat} (h : cbF R T (R.1 3) f = true) (h2 : (spNum (tokR R) T (R.1 3)).1 = false) : spIt R T f = (false, (spNum (tokR R) T (R.1 3)).2.1, (spNum (tokR R) T (R.1 3)).2.2) := by unfold spIt; rw [if_neg (by rw [h]; decide), if_pos h2]
theorem spIt_c {R T : NS} {f : Nat} (h : cbF R T (R.1 3) f = true) (h2 : (spNum (tokR R) T (R.1 3)).1 = true) (h3 : (spNum (tokR R) T (R.1 3)).2.1.1 3 = 62) : spIt R T f = (true, tokR (spNum (tokR R) T (R.1 3)).2.1, (spNum (tokR R) T (R.1 3)).2.2) := by unfold spIt; rw [if_neg (by rw [h]; decide), if_neg (by rw [h2]; decide), if_pos h3]
theorem spIt_d {R T : NS} {f : Nat} (h : cbF R T (R.1 3) f = true) (h2 : (spNum (tokR R) T (R.1 3)).1 = true) (h3 : (spNum (tokR R) T (R.1 3)).2.1.1 3 ≠ 62) : spIt R T f = (false, (spNum (tokR R) T (R.1 3)).2.1, (spNum (tokR R) T (R.1 3)).2.2) := by unfold spIt; rw [if_neg (by rw [h]; decide), if_neg (by rw [h2]; decide), if_neg h3]

set_option maxHeartbeats 4000000 in
set_option maxRecDepth 100000 in
theorem l_mtf (g : GC) (a : Nat) (h : Nat → Nat) (M : NS) (R : NS) (D : NS) (hrI : rdI R) (hX2 : mrX R M) (hDd : tdD D) (h7 : M.1 7 ≤ 999) (X : XC) (E : Ob g X cX7_town 3 RX7) (hX : X.2.2.1 = zR 5 0 0) (Er : Oe g X (some .int) (QI (fun r_ w_ => ∃ M2 : NS, r_ = ((rdF R D).1) ∧ w_ = wMod g a h M2 ∧ twP (rdF R D) M M2)) 0 0) (M5 : NS) (v i : Nat) (hv : M5.1 8 = v + 1) (hvl : v ≤ 300) (h57 : M5.1 7 ≤ 999) (hq : (rdF R D).1 = (-10) - nI v) (hdq : dQ M M5) : Z g X 3 0 0 (wMod g a h M5) [(0, .ref a), (1, .int (nI i))] [] 25 := by
  refine z_aload_n E dX7_town_25 0 rfl rfl ?_
  refine z_ro0 E (rV E hX (c_X7_isWell g a h M5 (by omega)) mw_X7_isWell ml_X7_103 dX7_town_26 (Nat.le_of_ble_eq_true rfl) ⟨(Nat.le_of_ble_eq_true rfl), (Nat.le_of_ble_eq_true rfl)⟩ rfl rfl (Nat.le_of_ble_eq_true rfl) 0 rfl rfl) ?_
  refine z_ifB_eq E dX7_town_29 101 (by decide) (fun _ => ?_) (fun h => absurd (of_decide_eq_true h) (by omega))
  refine z_aload_n E dX7_town_101 0 rfl rfl ?_
  refine z_ro0 E (rV E hX (c_X7_isWell g a h M5 (by omega)) mw_X7_isWell ml_X7_103 dX7_town_102 (Nat.le_of_ble_eq_true rfl) ⟨(Nat.le_of_ble_eq_true rfl), (Nat.le_of_ble_eq_true rfl)⟩ rfl rfl (Nat.le_of_ble_eq_true rfl) 0 rfl rfl) ?_
  refine z_ifB_ne E dX7_town_105 116 (by decide) (fun h => absurd (of_decide_eq_true h) (by omega)) (fun _ => ?_)
  refine z_bipush (v := (-10)) E dX7_town_108 (by decide) ?_
  refine z_aload_n E dX7_town_110 0 rfl rfl ?_
  refine gt_X7_100 (v := .int (pm (M5.1 8))) E dX7_town_111 0 rfl rfl ?_
  refine z_topi (y := nI v) (by rw [hv]; rfl) ?_
  refine z_isub E dX7_town_114 ?_
  refine z_iret E Er dX7_town_115 ?_
  exact ⟨_, rfl, _, hq.symm, rfl, h57, fun q => absurd (hq ▸ q) (ft_neg hvl), fun _ => hdq⟩

set_option maxHeartbeats 4000000 in
set_option maxRecDepth 100000 in
theorem l_mtown (g : GC) (a : Nat) (h : Nat → Nat) (M : NS) (R : NS) (D : NS) (hrI : rdI R) (hX2 : mrX R M) (hDd : tdD D) (h7 : M.1 7 ≤ 999) (X : XC) (E : Ob g X cX7_town 3 RX7) (hX : X.2.2.1 = zR 5 0 0) (Er : Oe g X (some .int) (QI (fun r_ w_ => ∃ M2 : NS, r_ = ((rdF R D).1) ∧ w_ = wMod g a h M2 ∧ twP (rdF R D) M M2)) 0 0) : ∀ (n : Nat) (i : Nat) (M5 R2 D2 : NS), (rdL (200 - i) i R2 D2 = rdF R D) → (rdJ R2) → (tdI D2) → (rdK R2) → (i ≤ R2.1 4) → (i = 0 → D2.1 1 = 0 ∧ D2.1 2 ≤ 1 ∧ D2.1 3 ≤ 1) → (M5.1 8 = 0) → (psR R2 M5) → (mdT D2 M5) → (tdR R2 M5) → (dQ M M5) → (200 < i + n) → Z g X 3 0 0 (wMod g a h M5) [(0, .ref a), (1, .int (nI i))] [] 25 := by
  intro n
  induction n with
  | zero =>
    intro i M5 R2 D2 hrd hJ hD2 hK hi h0 h8 hps hmd htd hdq hf
    have hJ4 := hJ.2.2.2
    have hJl := hJ.1.2.2.1
    have h57 := hps.2.2.2.2.2.2
    exfalso; omega
  | succ n ih =>
    intro i M5 R2 D2 hrd hJ hD2 hK hi h0 h8 hps hmd htd hdq hf
    have hJ4 := hJ.2.2.2
    have hJl := hJ.1.2.2.1
    have h57 := hps.2.2.2.2.2.2
    refine z_aload_n E dX7_town_25 0 rfl rfl ?_
    refine z_ro0 E (rV E hX (c_X7_isWell g a h M5 (by show M5.1 8 < 2 ^ 31; rw [h8]; decide)) mw_X7_isWell ml_X7_103 dX7_town_26 (Nat.le_of_ble_eq_true rfl) ⟨(Nat.le_of_ble_eq_true rfl), (Nat.le_of_ble_eq_true rfl)⟩ rfl rfl (Nat.le_of_ble_eq_true rfl) 0 rfl rfl) ?_
    refine z_ifB_eq E dX7_town_29 101 (by decide) (fun h => absurd h8 (of_decide_eq_false h)) (fun _ => ?_)
    refine z_aload_n E dX7_town_32 0 rfl rfl ?_
    refine gt_X7_90 (v := .int (nI (M5.1 5))) E dX7_town_33 0 rfl rfl ?_
    refine z_topi (y := nI (tkm (R2.1 3))) (congrArg nI (hps.2.2.1)) ?_
    refine z_ifN_eq E dX7_town_36 101 (by decide) (by have := tkm_le (R2.1 3); omega) (fun c1 => ?_) (fun c1 => ?_)
    · refine z_aload_n E dX7_town_101 0 rfl rfl ?_
      refine z_ro0 E (rV E hX (c_X7_isWell g a h M5 (by show M5.1 8 < 2 ^ 31; rw [h8]; decide)) mw_X7_isWell ml_X7_103 dX7_town_102 (Nat.le_of_ble_eq_true rfl) ⟨(Nat.le_of_ble_eq_true rfl), (Nat.le_of_ble_eq_true rfl)⟩ rfl rfl (Nat.le_of_ble_eq_true rfl) 0 rfl rfl) ?_
      refine z_ifB_ne E dX7_town_105 116 (by decide) (fun _ => ?_) (fun h => absurd h8 (of_decide_eq_false h))
      refine z_aload_n E dX7_town_116 0 rfl rfl ?_
      refine z_qv0 E (rV E hX (c_X7_settles g a h M5) mw_X7_settles ml_X7_66 dX7_town_117 (Nat.le_of_ble_eq_true rfl) ⟨(Nat.le_of_ble_eq_true rfl), (Nat.le_of_ble_eq_true rfl)⟩ rfl rfl (Nat.le_of_ble_eq_true rfl) 0 rfl rfl) (fun w2 hw => ?_)
      obtain ⟨M7, rfl, ⟨hse, g3, g18, g20, g23, g1, g160, g161, g7, g88⟩⟩ := hw
      refine ⟨rfl, ?_⟩
      refine z_ws (ws' := wMod g a h M7) rfl ?_
      refine z_iload_n E dX7_town_120 1 rfl rfl ?_
      refine z_iret E Er dX7_town_121 ?_
      exact ⟨_, rfl, _, by rw [← hrd, rdL_e (tkm_0 c1)], rfl, by rw [g7]; exact h57, fun _ => by rw [← hrd, rdL_e (tkm_0 c1)]; exact ⟨(hse D2 hmd hD2.2.2.1).1, (hse D2 hmd hD2.2.2.1).2, g3, g18, g20, g23, g1.trans (hdq.1 1 (by decide) (by decide) (by decide) (by decide) (by decide) (by decide) (by decide)), g160, g161⟩, fun q => absurd (by rw [← hrd, rdL_e (tkm_0 c1)]; exact Int32.not_lt.mp (nI_pos (by omega))) q⟩
    · have hne : R2.1 3 ≠ 1 := fun e => c1 (by rw [e]; rfl)
      have hKi := hK hne
      have hk : 200 - i = 199 - i + 1 := by omega
      have hf0 : (if i = 0 then 1 else 0) ≠ 0 → D2.1 1 = 0 ∧ D2.1 2 ≤ 1 ∧ D2.1 3 ≤ 1 := fun q => h0 (by rcases Nat.eq_zero_or_pos i with z | z; (exact z); (rw [if_neg (by omega)] at q; exact absurd rfl q))
      refine z_aload_n E dX7_town_39 0 rfl rfl ?_
      refine z_aload_n E dX7_town_40 0 rfl rfl ?_
      refine gt_X7_90 (v := .int (nI (M5.1 5))) E dX7_town_41 0 rfl rfl ?_
      refine z_topi (y := nI (tkm (R2.1 3))) (congrArg nI (hps.2.2.1)) ?_
      refine z_iconst (v := (nI 1)) E dX7_town_44 (by decide) ?_
      refine z_icmpN_ne E dX7_town_45 60 (by decide) (by have := tkm_le (R2.1 3); omega) (by decide) (fun c2 => ?_) (fun c2 => ?_)
      · refine z_iconst (v := (nI 0)) E dX7_town_60 (by decide) ?_
        refine z_rw0 (w2 := wMod g a h (sF M5 8 ((M5.1 6) + 1))) E (rV E hX (c_X7_takesToken_0 g a h M5 0 h8 rfl) mw_X7_takesToken ml_X7_110 dX7_town_61 (Nat.le_of_ble_eq_true rfl) ⟨(Nat.le_of_ble_eq_true rfl), (Nat.le_of_ble_eq_true rfl)⟩ rfl rfl (Nat.le_of_ble_eq_true rfl) 0 rfl rfl) rfl ?_
        have hpl : M5.1 6 ≤ 300 := by have := hps.2.2.2.1; have := hJ.2.2.2; have := hJ.1.2.2.1; omega
        refine z_istore_n (lv' := [(0, .ref a), (1, .int (nI i)), (2, .int (nI 0))]) E dX7_town_64 2 rfl (by decide) rfl ?_
        refine z_aload_n E dX7_town_65 0 rfl rfl ?_
        refine z_ro0 E (rV E hX (c_X7_isWell g a h (sF M5 8 ((M5.1 6) + 1)) (by show M5.1 6 + 1 < 2 ^ 31; omega)) mw_X7_isWell ml_X7_103 dX7_town_66 (Nat.le_of_ble_eq_true rfl) ⟨(Nat.le_of_ble_eq_true rfl), (Nat.le_of_ble_eq_true rfl)⟩ rfl rfl (Nat.le_of_ble_eq_true rfl) 0 rfl rfl) ?_
        refine z_ifB_eq E dX7_town_69 77 (by decide) (fun _ => ?_) (fun h => absurd (of_decide_eq_true h) (by show M5.1 6 + 1 ≠ 0; omega))
        refine z_aload_n E dX7_town_77 0 rfl rfl ?_
        refine z_aload_n E dX7_town_78 0 rfl rfl ?_
        refine gt_X7_90 (v := .int (nI ((sF M5 8 ((M5.1 6) + 1)).1 5))) E dX7_town_79 0 rfl rfl ?_
        refine z_iconst (v := (nI 3)) E dX7_town_82 (by decide) ?_
        refine z_icmpA_ne E dX7_town_83 90 (by decide) ?_ ?_
        · refine z_iconst (v := (nI 0)) E dX7_town_90 (by decide) ?_
          refine z_ro0 E (rV E hX (c_X7_takesToken_f g a h (sF M5 8 ((M5.1 6) + 1)) 0 (⟨by show M5.1 6 + 1 ≠ 0; omega, by show M5.1 6 + 1 < 2 ^ 31; omega⟩)) mw_X7_takesToken ml_X7_110 dX7_town_91 (Nat.le_of_ble_eq_true rfl) ⟨(Nat.le_of_ble_eq_true rfl), (Nat.le_of_ble_eq_true rfl)⟩ rfl rfl (Nat.le_of_ble_eq_true rfl) 0 rfl rfl) ?_
          refine z_pop E dX7_town_94 rfl ?_
          refine z_iincN (lv' := [(0, .ref a), (1, .int (nI (i + 1))), (2, .int (nI 0))]) E dX7_town_95 1 rfl (by decide) rfl ?_
          refine z_goto E dX7_town_98 25 (by decide) ?_
          refine z_lv [0, 1] rfl ?_; exact l_mtf g a h M R D hrI hX2 hDd h7 X E hX Er (sF M5 8 ((M5.1 6) + 1)) (M5.1 6) (i + 1) rfl hpl hps.2.2.2.2.2.2 (by rw [← hrd, hk, rdL_n (f := (if i = 0 then 1 else 0)) rfl hne (by rw [spIt_a (tkm_n1 hJ.2.2.1 c2)]), spIt_a (tkm_n1 hJ.2.2.1 c2), ← hps.2.2.2.1]) (hdq.F (by omega))
        · refine z_iconst (v := (nI 1)) E dX7_town_86 (by decide) ?_
          refine z_goto E dX7_town_87 91 (by decide) ?_
          refine z_ro0 E (rV E hX (c_X7_takesToken_f g a h (sF M5 8 ((M5.1 6) + 1)) 1 (⟨by show M5.1 6 + 1 ≠ 0; omega, by show M5.1 6 + 1 < 2 ^ 31; omega⟩)) mw_X7_takesToken ml_X7_110 dX7_town_91 (Nat.le_of_ble_eq_true rfl) ⟨(Nat.le_of_ble_eq_true rfl), (Nat.le_of_ble_eq_true rfl)⟩ rfl rfl (Nat.le_of_ble_eq_true rfl) 0 rfl rfl) ?_
          refine z_pop E dX7_town_94 rfl ?_
          refine z_iincN (lv' := [(0, .ref a), (1, .int (nI (i + 1))), (2, .int (nI 0))]) E dX7_town_95 1 rfl (by decide) rfl ?_
          refine z_goto E dX7_town_98 25 (by decide) ?_
          refine z_lv [0, 1] rfl ?_; exact l_mtf g a h M R D hrI hX2 hDd h7 X E hX Er (sF M5 8 ((M5.1 6) + 1)) (M5.1 6) (i + 1) rfl hpl hps.2.2.2.2.2.2 (by rw [← hrd, hk, rdL_n (f := (if i = 0 then 1 else 0)) rfl hne (by rw [spIt_a (tkm_n1 hJ.2.2.1 c2)]), spIt_a (tkm_n1 hJ.2.2.1 c2), ← hps.2.2.2.1]) (hdq.F (by omega))
      · refine z_aload_n E dX7_town_48 0 rfl rfl ?_
        refine z_iload_n E dX7_town_49 1 rfl rfl ?_
        refine z_ro0 E (rV E hX (c_X7_mayBegin g a h M5 i R2 D2 (R2.1 3 - 3) (hps.2.2.2.2.2.1 (tkm_1 hJ.2.2.1 c2).2) ((tkm_1 hJ.2.2.1 c2).1) htd (hmd.1 1 (by decide)) hD2.2.2.1 (by omega)) mw_X7_mayBegin ml_X7_127 dX7_town_50 (Nat.le_of_ble_eq_true rfl) ⟨(Nat.le_of_ble_eq_true rfl), (Nat.le_of_ble_eq_true rfl)⟩ rfl rfl (Nat.le_of_ble_eq_true rfl) 0 rfl rfl) ?_
        refine z_ifB_eq E dX7_town_53 60 (by decide) (fun c3 => ?_) (fun c3 => ?_)
        · refine z_iconst (v := (nI 0)) E dX7_town_60 (by decide) ?_
          refine z_rw0 (w2 := wMod g a h (sF M5 8 ((M5.1 6) + 1))) E (rV E hX (c_X7_takesToken_0 g a h M5 0 h8 rfl) mw_X7_takesToken ml_X7_110 dX7_town_61 (Nat.le_of_ble_eq_true rfl) ⟨(Nat.le_of_ble_eq_true rfl), (Nat.le_of_ble_eq_true rfl)⟩ rfl rfl (Nat.le_of_ble_eq_true rfl) 0 rfl rfl) rfl ?_
          have hpl : M5.1 6 ≤ 300 := by have := hps.2.2.2.1; have := hJ.2.2.2; have := hJ.1.2.2.1; omega
          refine z_istore_n (lv' := [(0, .ref a), (1, .int (nI i)), (2, .int (nI 0))]) E dX7_town_64 2 rfl (by decide) rfl ?_
          refine z_aload_n E dX7_town_65 0 rfl rfl ?_
          refine z_ro0 E (rV E hX (c_X7_isWell g a h (sF M5 8 ((M5.1 6) + 1)) (by show M5.1 6 + 1 < 2 ^ 31; omega)) mw_X7_isWell ml_X7_103 dX7_town_66 (Nat.le_of_ble_eq_true rfl) ⟨(Nat.le_of_ble_eq_true rfl), (Nat.le_of_ble_eq_true rfl)⟩ rfl rfl (Nat.le_of_ble_eq_true rfl) 0 rfl rfl) ?_
          refine z_ifB_eq E dX7_town_69 77 (by decide) (fun _ => ?_) (fun h => absurd (of_decide_eq_true h) (by show M5.1 6 + 1 ≠ 0; omega))
          refine z_aload_n E dX7_town_77 0 rfl rfl ?_
          refine z_aload_n E dX7_town_78 0 rfl rfl ?_
          refine gt_X7_90 (v := .int (nI ((sF M5 8 ((M5.1 6) + 1)).1 5))) E dX7_town_79 0 rfl rfl ?_
          refine z_iconst (v := (nI 3)) E dX7_town_82 (by decide) ?_
          refine z_icmpA_ne E dX7_town_83 90 (by decide) ?_ ?_
          · refine z_iconst (v := (nI 0)) E dX7_town_90 (by decide) ?_
            refine z_ro0 E (rV E hX (c_X7_takesToken_f g a h (sF M5 8 ((M5.1 6) + 1)) 0 (⟨by show M5.1 6 + 1 ≠ 0; omega, by show M5.1 6 + 1 < 2 ^ 31; omega⟩)) mw_X7_takesToken ml_X7_110 dX7_town_91 (Nat.le_of_ble_eq_true rfl) ⟨(Nat.le_of_ble_eq_true rfl), (Nat.le_of_ble_eq_true rfl)⟩ rfl rfl (Nat.le_of_ble_eq_true rfl) 0 rfl rfl) ?_
            refine z_pop E dX7_town_94 rfl ?_
            refine z_iincN (lv' := [(0, .ref a), (1, .int (nI (i + 1))), (2, .int (nI 0))]) E dX7_town_95 1 rfl (by decide) rfl ?_
            refine z_goto E dX7_town_98 25 (by decide) ?_
            refine z_lv [0, 1] rfl ?_; exact l_mtf g a h M R D hrI hX2 hDd h7 X E hX Er (sF M5 8 ((M5.1 6) + 1)) (M5.1 6) (i + 1) rfl hpl hps.2.2.2.2.2.2 (by rw [← hrd, hk, rdL_n (f := (if i = 0 then 1 else 0)) rfl hne (by rw [spIt_a (by rw [show R2.1 3 = R2.1 3 - 3 + 3 by have := (tkm_1 hJ.2.2.1 c2).2; omega]; exact c3)]), spIt_a (by rw [show R2.1 3 = R2.1 3 - 3 + 3 by have := (tkm_1 hJ.2.2.1 c2).2; omega]; exact c3), ← hps.2.2.2.1]) (hdq.F (by omega))
          · refine z_iconst (v := (nI 1)) E dX7_town_86 (by decide) ?_
            refine z_goto E dX7_town_87 91 (by decide) ?_
            refine z_ro0 E (rV E hX (c_X7_takesToken_f g a h (sF M5 8 ((M5.1 6) + 1)) 1 (⟨by show M5.1 6 + 1 ≠ 0; omega, by show M5.1 6 + 1 < 2 ^ 31; omega⟩)) mw_X7_takesToken ml_X7_110 dX7_town_91 (Nat.le_of_ble_eq_true rfl) ⟨(Nat.le_of_ble_eq_true rfl), (Nat.le_of_ble_eq_true rfl)⟩ rfl rfl (Nat.le_of_ble_eq_true rfl) 0 rfl rfl) ?_
            refine z_pop E dX7_town_94 rfl ?_
            refine z_iincN (lv' := [(0, .ref a), (1, .int (nI (i + 1))), (2, .int (nI 0))]) E dX7_town_95 1 rfl (by decide) rfl ?_
            refine z_goto E dX7_town_98 25 (by decide) ?_
            refine z_lv [0, 1] rfl ?_; exact l_mtf g a h M R D hrI hX2 hDd h7 X E hX Er (sF M5 8 ((M5.1 6) + 1)) (M5.1 6) (i + 1) rfl hpl hps.2.2.2.2.2.2 (by rw [← hrd, hk, rdL_n (f := (if i = 0 then 1 else 0)) rfl hne (by rw [spIt_a (by rw [show R2.1 3 = R2.1 3 - 3 + 3 by have := (tkm_1 hJ.2.2.1 c2).2; omega]; exact c3)]), spIt_a (by rw [show R2.1 3 = R2.1 3 - 3 + 3 by have := (tkm_1 hJ.2.2.1 c2).2; omega]; exact c3), ← hps.2.2.2.1]) (hdq.F (by omega))
        · refine z_iconst (v := (nI 1)) E dX7_town_56 (by decide) ?_
          refine z_goto E dX7_town_57 61 (by decide) ?_
          refine z_q0 E (rV E hX (c_X7_takesToken_1 g a h M5 1 R2 h8 rfl hps hJ) mw_X7_takesToken ml_X7_110 dX7_town_61 (Nat.le_of_ble_eq_true rfl) ⟨(Nat.le_of_ble_eq_true rfl), (Nat.le_of_ble_eq_true rfl)⟩ rfl rfl (Nat.le_of_ble_eq_true rfl) 0 rfl rfl) (fun r w2 hw => ?_)
          obtain ⟨M9, rfl, rfl, ⟨y41, y51, y61, y71, rfl, hpt1⟩⟩ := hw
          refine ⟨rfl, ?_⟩
          refine z_ws (ws' := wMod g a h (sF (sF (sF (sF M5 4 y41) 5 y51) 6 y61) 7 y71)) rfl ?_
          refine z_istore_n (lv' := [(0, .ref a), (1, .int (nI i)), (2, .int (nI (M5.1 7)))]) E dX7_town_64 2 rfl (by decide) rfl ?_
          refine z_aload_n E dX7_town_65 0 rfl rfl ?_
          refine z_ro0 E (rV E hX (c_X7_isWell g a h (sF (sF (sF (sF M5 4 y41) 5 y51) 6 y61) 7 y71) (by show M5.1 8 < 2 ^ 31; rw [h8]; decide)) mw_X7_isWell ml_X7_103 dX7_town_66 (Nat.le_of_ble_eq_true rfl) ⟨(Nat.le_of_ble_eq_true rfl), (Nat.le_of_ble_eq_true rfl)⟩ rfl rfl (Nat.le_of_ble_eq_true rfl) 0 rfl rfl) ?_
          refine z_ifB_eq E dX7_town_69 77 (by decide) (fun h => absurd h8 (of_decide_eq_false h)) (fun _ => ?_)
          have hlt3 := tkm_1 hJ.2.2.1 c2
          have h73 := hps.2.2.2.2.2.1 hlt3.2
          have hwt : isLt (M5.1 7) := by rw [h73]; exact hlt3.1
          have hcb : cbF R2 D2 (R2.1 3) (if i = 0 then 1 else 0) = true := by rw [show R2.1 3 = R2.1 3 - 3 + 3 by omega]; exact c3
          refine z_aload_n E dX7_town_72 0 rfl rfl ?_
          refine z_iload_n E dX7_town_73 2 rfl rfl ?_
          refine z_qv0 E (rV E hX (c_X7_readsItem g a h (sF (sF (sF (sF M5 4 y41) 5 y51) 6 y61) 7 y71) (M5.1 7) (tokR R2) D2 h8 hpt1 (tokR_J hJ.1 hJ.2.1) hmd htd hD2 hwt (fun e => cbF_117 (R := R2) (T := D2) (x := R2.1 3) (f := (if i = 0 then 1 else 0)) (by rw [hcb]; decide) (by omega))) mw_X7_readsItem ml_X7_130 dX7_town_74 (Nat.le_of_ble_eq_true rfl) ⟨(Nat.le_of_ble_eq_true rfl), (Nat.le_of_ble_eq_true rfl)⟩ rfl rfl (Nat.le_of_ble_eq_true rfl) 0 rfl rfl) (fun w2 hw => ?_)
          obtain ⟨M6, rfl, ⟨hd6, h67, hit6⟩⟩ := hw
          refine ⟨rfl, ?_⟩
          refine z_ws (ws' := wMod g a h M6) rfl ?_
          rw [show M5.1 7 + 3 = R2.1 3 by omega] at hit6
          have hJ3 := spNum_J (T := D2) (x := R2.1 3) (tokR_J hJ.1 hJ.2.1)
          have hdq6 : dQ M M6 := (hdq.tr (dQ_av rfl)).tr hd6
          cases hsp : (spNum (tokR R2) D2 (R2.1 3)).1 with
          | false =>
            have h68 := hit6.1 hsp
            have hpl : (spNum (tokR R2) D2 (R2.1 3)).2.1.1 4 ≤ 300 := by have := hJ3.2.2.2; have := hJ3.1.2.2.1; omega
            refine z_aload_n E dX7_town_77 0 rfl rfl ?_
            refine z_aload_n E dX7_town_78 0 rfl rfl ?_
            refine gt_X7_90 (v := .int (nI (M6.1 5))) E dX7_town_79 0 rfl rfl ?_
            refine z_iconst (v := (nI 3)) E dX7_town_82 (by decide) ?_
            refine z_icmpA_ne E dX7_town_83 90 (by decide) ?_ ?_
            · refine z_iconst (v := (nI 0)) E dX7_town_90 (by decide) ?_
              refine z_ro0 E (rV E hX (c_X7_takesToken_f g a h M6 0 (⟨by show M6.1 8 ≠ 0; omega, by show M6.1 8 < 2 ^ 31; omega⟩)) mw_X7_takesToken ml_X7_110 dX7_town_91 (Nat.le_of_ble_eq_true rfl) ⟨(Nat.le_of_ble_eq_true rfl), (Nat.le_of_ble_eq_true rfl)⟩ rfl rfl (Nat.le_of_ble_eq_true rfl) 0 rfl rfl) ?_
              refine z_pop E dX7_town_94 rfl ?_
              refine z_iincN (lv' := [(0, .ref a), (1, .int (nI (i + 1))), (2, .int (nI (M5.1 7)))]) E dX7_town_95 1 rfl (by decide) rfl ?_
              refine z_goto E dX7_town_98 25 (by decide) ?_
              refine z_lv [0, 1] rfl ?_; exact l_mtf g a h M R D hrI hX2 hDd h7 X E hX Er M6 ((spNum (tokR R2) D2 (R2.1 3)).2.1.1 4) (i + 1) h68 hpl h67 (by rw [← hrd, hk, rdL_n (f := (if i = 0 then 1 else 0)) rfl hne (by rw [spIt_b hcb hsp]), spIt_b hcb hsp]) hdq6
            · refine z_iconst (v := (nI 1)) E dX7_town_86 (by decide) ?_
              refine z_goto E dX7_town_87 91 (by decide) ?_
              refine z_ro0 E (rV E hX (c_X7_takesToken_f g a h M6 1 (⟨by show M6.1 8 ≠ 0; omega, by show M6.1 8 < 2 ^ 31; omega⟩)) mw_X7_takesToken ml_X7_110 dX7_town_91 (Nat.le_of_ble_eq_true rfl) ⟨(Nat.le_of_ble_eq_true rfl), (Nat.le_of_ble_eq_true rfl)⟩ rfl rfl (Nat.le_of_ble_eq_true rfl) 0 rfl rfl) ?_
              refine z_pop E dX7_town_94 rfl ?_
              refine z_iincN (lv' := [(0, .ref a), (1, .int (nI (i + 1))), (2, .int (nI (M5.1 7)))]) E dX7_town_95 1 rfl (by decide) rfl ?_
              refine z_goto E dX7_town_98 25 (by decide) ?_
              refine z_lv [0, 1] rfl ?_; exact l_mtf g a h M R D hrI hX2 hDd h7 X E hX Er M6 ((spNum (tokR R2) D2 (R2.1 3)).2.1.1 4) (i + 1) h68 hpl h67 (by rw [← hrd, hk, rdL_n (f := (if i = 0 then 1 else 0)) rfl hne (by rw [spIt_b hcb hsp]), spIt_b hcb hsp]) hdq6
          | true =>
            obtain ⟨h68, hps6, hmd6, htd6⟩ := hit6.2 hsp
            refine z_aload_n E dX7_town_77 0 rfl rfl ?_
            refine z_aload_n E dX7_town_78 0 rfl rfl ?_
            refine gt_X7_90 (v := .int (nI (M6.1 5))) E dX7_town_79 0 rfl rfl ?_
            refine z_topi (y := nI (tkm ((spNum (tokR R2) D2 (R2.1 3)).2.1.1 3))) (congrArg nI (hps6.2.2.1)) ?_
            refine z_iconst (v := (nI 3)) E dX7_town_82 (by decide) ?_
            refine z_icmpN_ne E dX7_town_83 90 (by decide) (by have := tkm_le ((spNum (tokR R2) D2 (R2.1 3)).2.1.1 3); omega) (by decide) (fun c4 => ?_) (fun c4 => ?_)
            · refine z_iconst (v := (nI 0)) E dX7_town_90 (by decide) ?_
              refine z_rw0 (w2 := wMod g a h (sF M6 8 ((M6.1 6) + 1))) E (rV E hX (c_X7_takesToken_0 g a h M6 0 h68 rfl) mw_X7_takesToken ml_X7_110 dX7_town_91 (Nat.le_of_ble_eq_true rfl) ⟨(Nat.le_of_ble_eq_true rfl), (Nat.le_of_ble_eq_true rfl)⟩ rfl rfl (Nat.le_of_ble_eq_true rfl) 0 rfl rfl) rfl ?_
              refine z_pop E dX7_town_94 rfl ?_
              refine z_iincN (lv' := [(0, .ref a), (1, .int (nI (i + 1))), (2, .int (nI (M5.1 7)))]) E dX7_town_95 1 rfl (by decide) rfl ?_
              refine z_goto E dX7_town_98 25 (by decide) ?_
              refine z_lv [0, 1] rfl ?_; exact l_mtf g a h M R D hrI hX2 hDd h7 X E hX Er (sF M6 8 ((M6.1 6) + 1)) (M6.1 6) (i + 1) rfl (by have := hps6.2.2.2.1; have := hJ3.2.2.2; have := hJ3.1.2.2.1; omega) hps6.2.2.2.2.2.2 (by rw [← hrd, hk, rdL_n (f := (if i = 0 then 1 else 0)) rfl hne (by rw [spIt_d hcb hsp (fun e => c4 (tkm_3.mpr e))]), spIt_d hcb hsp (fun e => c4 (tkm_3.mpr e)), ← hps6.2.2.2.1]) (hdq6.F (by omega))
            · refine z_iconst (v := (nI 1)) E dX7_town_86 (by decide) ?_
              refine z_goto E dX7_town_87 91 (by decide) ?_
              refine z_q0 E (rV E hX (c_X7_takesToken_1 g a h M6 1 ((spNum (tokR R2) D2 (R2.1 3)).2.1) h68 rfl hps6 hJ3) mw_X7_takesToken ml_X7_110 dX7_town_91 (Nat.le_of_ble_eq_true rfl) ⟨(Nat.le_of_ble_eq_true rfl), (Nat.le_of_ble_eq_true rfl)⟩ rfl rfl (Nat.le_of_ble_eq_true rfl) 0 rfl rfl) (fun r w2 hw => ?_)
              obtain ⟨M9, rfl, rfl, ⟨y42, y52, y62, y72, rfl, hpt2⟩⟩ := hw
              refine ⟨rfl, ?_⟩
              refine z_ws (ws' := wMod g a h (sF (sF (sF (sF M6 4 y42) 5 y52) 6 y62) 7 y72)) rfl ?_
              refine z_pop E dX7_town_94 rfl ?_
              refine z_iincN (lv' := [(0, .ref a), (1, .int (nI (i + 1))), (2, .int (nI (M5.1 7)))]) E dX7_town_95 1 rfl (by decide) rfl ?_
              refine z_goto E dX7_town_98 25 (by decide) ?_
              refine z_lv [0, 1] rfl ?_; exact ih (i + 1) (sF (sF (sF (sF M6 4 y42) 5 y52) 6 y62) 7 y72) (tokR (spNum (tokR R2) D2 (R2.1 3)).2.1) (spNum (tokR R2) D2 (R2.1 3)).2.2 (by rw [show 200 - (i + 1) = 199 - i by omega, ← hrd, hk, rdL_y (f := (if i = 0 then 1 else 0)) rfl hne (by rw [(spIt_c (f := (if i = 0 then 1 else 0)) hcb hsp (tkm_3.mp c4))]), (spIt_c (f := (if i = 0 then 1 else 0)) hcb hsp (tkm_3.mp c4))]) (by have q := spIt_J (T := D2) (f := (if i = 0 then 1 else 0)) hJ; rw [(spIt_c (f := (if i = 0 then 1 else 0)) hcb hsp (tkm_3.mp c4))] at q; exact q) (by have q := (spIt_T (f := (if i = 0 then 1 else 0)) hJ hD2 hf0).2 (by rw [(spIt_c (f := (if i = 0 then 1 else 0)) hcb hsp (tkm_3.mp c4))]); rw [(spIt_c (f := (if i = 0 then 1 else 0)) hcb hsp (tkm_3.mp c4))] at q; exact q) (by have q := (spIt_4 (f := (if i = 0 then 1 else 0)) hK hne (by rw [(spIt_c (f := (if i = 0 then 1 else 0)) hcb hsp (tkm_3.mp c4))])).1; rw [(spIt_c (f := (if i = 0 then 1 else 0)) hcb hsp (tkm_3.mp c4))] at q; exact q) (by have q := (spIt_4 (f := (if i = 0 then 1 else 0)) hK hne (by rw [(spIt_c (f := (if i = 0 then 1 else 0)) hcb hsp (tkm_3.mp c4))])).2; rw [(spIt_c (f := (if i = 0 then 1 else 0)) hcb hsp (tkm_3.mp c4))] at q; dsimp only at q; omega) (fun q => absurd q (Nat.succ_ne_zero i)) h68 hpt2 hmd6 htd6 (hdq6.tr (dQ_av rfl)) (by omega)

theorem mrX_bg {R M M8 : NS} (h : mrX R M) (hd : dQ (sF (sF (sF M 0 0) 4 0) 8 0) M8) : mrX (bgR R) M8 := ⟨(hd.1 3 (by decide) (by decide) (by decide) (by decide) (by decide) (by decide) (by decide)).trans h.1, fun k hk => by rw [hd.2.1 2 (by decide) (by decide) (by decide) (by decide)]; exact h.2 k hk⟩

set_option maxHeartbeats 4000000 in
set_option maxRecDepth 100000 in
theorem c_X7_town (g : GC) (a : Nat) (h : Nat → Nat) (M : NS) (R : NS) (D : NS) (hrI : rdI R) (hX2 : mrX R M) (hDd : tdD D) (h7 : M.1 7 ≤ 999) : Ct g yX7_town cX7_town 3 (some .int) 5 0 0 [.ref a] (wMod g a h M) (QI (fun r_ w_ => ∃ M2 : NS, r_ = ((rdF R D).1) ∧ w_ = wMod g a h M2 ∧ twP (rdF R D) M M2)) := by
  refine Ct.of (by decide) (Nat.le_of_ble_eq_true rfl) ?_
  intro X E Er hX _ hnm
  have E : Ob g X cX7_town 3 RX7 := E
  refine z_lve (lv' := [(0, .ref a)]) rfl ?_
  refine z_aload_n E dX7_town_0 0 rfl rfl ?_
  refine z_iconst (v := (nI 0)) E dX7_town_1 (by decide) ?_
  refine pt_X7_69 (x := nI 0) (ws' := wMod g a h (sF M 0 0)) E dX7_town_2 0 rfl (Nat.le_of_ble_eq_true rfl) rfl ?_
  refine z_aload_n E dX7_town_5 0 rfl rfl ?_
  refine z_iconst (v := (-1)) E dX7_town_6 (by decide) ?_
  refine pt_X7_100 (x := pm 0) (ws' := wMod g a h (sF (sF M 0 0) 8 0)) E dX7_town_7 0 rfl (Nat.le_of_ble_eq_true rfl) rfl ?_
  refine z_aload_n E dX7_town_10 0 rfl rfl ?_
  refine z_iconst (v := (nI 0)) E dX7_town_11 (by decide) ?_
  refine pt_X7_80 (x := nI 0) (ws' := wMod g a h (sF (sF (sF M 0 0) 4 0) 8 0)) E dX7_town_12 0 rfl (Nat.le_of_ble_eq_true rfl) rfl ?_
  refine z_aload_n E dX7_town_15 0 rfl rfl ?_
  refine z_qv0 E (rV E hX (c_X7_begins g a h (sF (sF (sF M 0 0) 4 0) 8 0)) mw_X7_begins ml_X7_63 dX7_town_16 (Nat.le_of_ble_eq_true rfl) ⟨(Nat.le_of_ble_eq_true rfl), (Nat.le_of_ble_eq_true rfl)⟩ rfl rfl (Nat.le_of_ble_eq_true rfl) 0 rfl rfl) (fun w2 hw => ?_)
  obtain ⟨M8, rfl, ⟨hd8, g10, g8, g4, g7, hmd8⟩⟩ := hw
  refine ⟨rfl, ?_⟩
  refine z_ws (ws' := wMod g a h M8) rfl ?_
  refine z_iconst (v := (nI 0)) E dX7_town_19 (by decide) ?_
  refine z_istore_n (lv' := [(0, .ref a), (1, .int (nI 0))]) E dX7_town_20 1 rfl (by decide) rfl ?_
  refine z_aload_n E dX7_town_21 0 rfl rfl ?_
  refine z_qv0 E (rV E hX (c_X7_advances g a h M8 (bgR R) 0 (bgR_I hrI) (mrX_bg hX2 hd8) g4 (Nat.zero_le _) (by rw [g7]; exact h7)) mw_X7_advances ml_X7_107 dX7_town_22 (Nat.le_of_ble_eq_true rfl) ⟨(Nat.le_of_ble_eq_true rfl), (Nat.le_of_ble_eq_true rfl)⟩ rfl rfl (Nat.le_of_ble_eq_true rfl) 0 rfl rfl) (fun w2 hw => ?_)
  obtain ⟨M9, rfl, ⟨x4, x5, x6, x7, rfl, hav⟩⟩ := hw
  refine ⟨rfl, ?_⟩
  refine z_ws (ws' := wMod g a h (sF (sF (sF (sF M8 4 x4) 5 x5) 6 x6) 7 x7)) rfl ?_
  exact l_mtown g a h M R D hrI hX2 hDd h7 X E hX Er 201 0 (sF (sF (sF (sF M8 4 x4) 5 x5) 6 x6) 7 x7) (tokR (bgR R)) (fstT D) rfl (tokR_J (bgR_I hrI) (Nat.zero_le _)) (fstT_I hDd) (tokR_K (bgR R)) (Nat.zero_le _) (fun _ => ⟨rfl, Nat.zero_le _, Nat.le_refl _⟩) g8 (psR_tok (mrX_bg hX2 hd8) rfl rfl hav) (hmd8 D) ⟨Nat.zero_le _, Nat.zero_le _, Nat.zero_le _, g10⟩ (((((dQ.rf M).F (by omega)).F (by omega)).F (by omega)).tr (hd8.tr (dQ_av rfl))) (by omega)
