theorem wi_cl {x : Int32} {hi : Nat} (hhi : hi < 2 ^ 31) (h : wi x (nI 0) (nI hi) = true) : x.toNatClampNeg ≤ hi ∧ x = nI x.toNatClampNeg := by
  obtain ⟨j, -, hj, rfl⟩ := wi_nI (by decide) hhi h
  rw [nI_clamp (by omega)]
  exact ⟨hj, rfl⟩
theorem hasR_cl {T : NS} {r : Int32} (hT : tdI T) (h : hasR T r = true) : r.toNatClampNeg < T.1 1 := by
  obtain ⟨j, hj, rfl⟩ := hasR_nI (hT.1.1 1) h
  have := hT.2.2.1
  rw [nI_clamp (by omega)]
  exact hj
theorem hasP_cl {T : NS} {r : Int32} (hT : tdI T) (h : hasP T r = true) : r.toNatClampNeg < T.1 0 := by
  obtain ⟨j, hj, rfl⟩ := hasP_nI (hT.1.1 0) h
  have := hT.2.1.2
  rw [nI_clamp (by omega)]
  exact hj

theorem J_q {W R T D P S : NS} {U : Nat → NS} {V O I0 I1 M M2 : NS} {V2 O2 : NS} (h : cI W R T D P S U V O I0 I1 ∧ mI W R T P S U I0 I1 M) (hV : vI V2) (hO : ∀ i, O2.2 3 i < 4096) (e : mS M M2) : cI W R T D P S U (V2) (O2) I0 I1 ∧ mI W R T P S U I0 I1 M2 := by
  obtain ⟨⟨a1, a2, a3, a4, a5, a6, a7, a8, a9⟩, hm⟩ := h
  obtain ⟨b1, b2, b3, b4, b5, b6, b7⟩ := hm
  exact ⟨⟨a1, a2, a3, a4, a5, hV, hO, a8, a9⟩, mI_S ⟨b1, b2, b3, b4, b5, b6, b7⟩ e⟩

theorem J_0 {W R T D P S : NS} {U : Nat → NS} {V O I0 I1 M M2 : NS} (h : cI W R T D P S U V O I0 I1 ∧ mI W R T P S U I0 I1 M) : cI W R T D P S U V O I0 I1 ∧ mI W R T P S U I0 I1 (sF M 0 0) := by
  obtain ⟨⟨a1, a2, a3, a4, a5, a6, a7, a8, a9⟩, hm⟩ := h
  obtain ⟨b1, b2, b3, b4, b5, b6, b7⟩ := hm
  exact ⟨⟨a1, a2, a3, a4, a5, a6, a7, a8, a9⟩, mI_S ⟨b1, b2, b3, b4, b5, b6, b7⟩ ((mS.rf M).F (Or.inl rfl))⟩

theorem J_type {W R T D P S : NS} {U : Nat → NS} {V O I0 I1 M M2 : NS} (h : cI W R T D P S U V O I0 I1 ∧ mI W R T P S U I0 I1 M) (l : Int32) : cI W (if wi l (nI 0) (nI 255) = true then (if R.1 1 < 200 then sA (sF R 1 (R.1 1 + 1)) 0 (va_up (R.2 0) (R.1 1) l.toNatClampNeg) else R) else R) T D P S U V O I0 I1 ∧ mI W (if wi l (nI 0) (nI 255) = true then (if R.1 1 < 200 then sA (sF R 1 (R.1 1 + 1)) 0 (va_up (R.2 0) (R.1 1) l.toNatClampNeg) else R) else R) T P S U I0 I1 (if wi l (nI 0) (nI 255) = true then (if R.1 1 < 200 then sA (sF (sF M 0 0) 3 (R.1 1 + 1)) 2 (va_up (M.2 2) (R.1 1) l.toNatClampNeg) else sF M 0 0) else sF M 0 0) := by
  obtain ⟨⟨a1, a2, a3, a4, a5, a6, a7, a8, a9⟩, hm⟩ := h
  obtain ⟨b1, b2, b3, b4, b5, b6, b7⟩ := hm
  have hn := (⟨⟨a1, a2, a3, a4, a5, a6, a7, a8, a9⟩, mI_S ⟨b1, b2, b3, b4, b5, b6, b7⟩ ((mS.rf M).F (Or.inl rfl))⟩ : cI W R T D P S U V O I0 I1 ∧ mI W R T P S U I0 I1 (sF M 0 0))
  by_cases hw : wi l (nI 0) (nI 255) = true
  · rw [if_pos hw, if_pos hw]
    by_cases hl : R.1 1 < 200
    · rw [if_pos hl, if_pos hl]
      have := (wi_cl (by decide) hw).1
      exact ⟨⟨rd_add a1 hl (by omega), a2, a3, a4, a5, a6, a7, a8, a9⟩, mrX_add b1, b2, b3, b4, b5, b6, b7⟩
    · rw [if_neg hl, if_neg hl]; exact hn
  · rw [if_neg hw, if_neg hw]; exact hn

theorem J_clear {W R T D P S : NS} {U : Nat → NS} {V O I0 I1 M M2 : NS} (h : cI W R T D P S U V O I0 I1 ∧ mI W R T P S U I0 I1 M) : cI W (sF R 1 0) T D P S U V O I0 I1 ∧ mI W (sF R 1 0) T P S U I0 I1 (sF (sF M 0 0) 3 0) := by
  obtain ⟨⟨a1, a2, a3, a4, a5, a6, a7, a8, a9⟩, hm⟩ := h
  obtain ⟨b1, b2, b3, b4, b5, b6, b7⟩ := hm
  exact ⟨⟨rd_clr a1, a2, a3, a4, a5, a6, a7, a8, a9⟩, mrX_clr, b2, b3, b4, b5, b6, b7⟩

theorem J_drops {W R T D P S : NS} {U : Nat → NS} {V O I0 I1 M M2 : NS} (h : cI W R T D P S U V O I0 I1 ∧ mI W R T P S U I0 I1 M) : cI (sF W 8 0) R T D P S U V O I0 I1 ∧ mI (sF W 8 0) R T P S U I0 I1 (sF (sF M 0 0) 20 0) := by
  obtain ⟨⟨a1, a2, a3, a4, a5, a6, a7, a8, a9⟩, hm⟩ := h
  obtain ⟨b1, b2, b3, b4, b5, b6, b7⟩ := hm
  exact ⟨⟨a1, a2, a3, a4, a5, a6, a7, ⟨Nat.zero_le _, a8.2.1, fun i hi => absurd hi (Nat.not_lt_zero i), a8.2.2.2⟩, a9⟩, b1, b2, b3, b4, b5, ⟨rfl, fun i hi => absurd hi (Nat.not_lt_zero i), b6.2.2⟩, b7⟩

theorem J_forget {W R T D P S : NS} {U : Nat → NS} {V O I0 I1 M M2 : NS} (h : cI W R T D P S U V O I0 I1 ∧ mI W R T P S U I0 I1 M) : cI (sF W 11 0) R T D P S U V O I0 I1 ∧ mI (sF W 11 0) R T P S U I0 I1 (sF (sF M 0 0) 23 0) := by
  obtain ⟨⟨a1, a2, a3, a4, a5, a6, a7, a8, a9⟩, hm⟩ := h
  obtain ⟨b1, b2, b3, b4, b5, b6, b7⟩ := hm
  exact ⟨⟨a1, a2, a3, a4, a5, a6, a7, ⟨a8.1, Nat.zero_le _, a8.2.2.1, fun i hi => absurd hi (Nat.not_lt_zero i), a8.2.2.2.2⟩, a9⟩, b1, b2, b3, b4, b5, ⟨b6.1, b6.2.1, rfl, fun i hi => absurd hi (Nat.not_lt_zero i), b6.2.2.2.2⟩, b7⟩

theorem J_plans {W R T D P S : NS} {U : Nat → NS} {V O I0 I1 M M2 : NS} (h : cI W R T D P S U V O I0 I1 ∧ mI W R T P S U I0 I1 M) (r : Int32) : cI (if hasR T r = true ∧ W.1 8 < 8 then sA (sF W 8 (W.1 8 + 1)) 7 (va_up (W.2 7) (W.1 8) r.toNatClampNeg) else W) R T D P S U V O I0 I1 ∧ mI (if hasR T r = true ∧ W.1 8 < 8 then sA (sF W 8 (W.1 8 + 1)) 7 (va_up (W.2 7) (W.1 8) r.toNatClampNeg) else W) R T P S U I0 I1 (if hasR T r = true ∧ W.1 8 < 8 then sA (sF (sF M 0 0) 20 (W.1 8 + 1)) 19 (va_up (M.2 19) (W.1 8) r.toNatClampNeg) else sF M 0 0) := by
  obtain ⟨⟨a1, a2, a3, a4, a5, a6, a7, a8, a9⟩, hm⟩ := h
  obtain ⟨b1, b2, b3, b4, b5, b6, b7⟩ := hm
  by_cases hw : hasR T r = true ∧ W.1 8 < 8
  · rw [if_pos hw, if_pos hw]
    exact ⟨⟨a1, a2, a3, a4, a5, a6, a7, tv_plan a8 hw.2 (hasR_cl a2 hw.1), a9⟩, b1, b2, b3, b4, b5, mW_plan b6, b7⟩
  · rw [if_neg hw, if_neg hw]
    exact ⟨⟨a1, a2, a3, a4, a5, a6, a7, a8, a9⟩, mI_S ⟨b1, b2, b3, b4, b5, b6, b7⟩ ((mS.rf M).F (Or.inl rfl))⟩

theorem J_saw {W R T D P S : NS} {U : Nat → NS} {V O I0 I1 M M2 : NS} (h : cI W R T D P S U V O I0 I1 ∧ mI W R T P S U I0 I1 M) (n z : Int32) : cI (if (wi n (nI 0) (nI 8) && hasP T z) = true ∧ W.1 11 < 5 then sA (sA (sF W 11 (W.1 11 + 1)) 9 (va_up (W.2 9) (W.1 11) n.toNatClampNeg)) 10 (va_up (W.2 10) (W.1 11) z.toNatClampNeg) else W) R T D P S U V O I0 I1 ∧ mI (if (wi n (nI 0) (nI 8) && hasP T z) = true ∧ W.1 11 < 5 then sA (sA (sF W 11 (W.1 11 + 1)) 9 (va_up (W.2 9) (W.1 11) n.toNatClampNeg)) 10 (va_up (W.2 10) (W.1 11) z.toNatClampNeg) else W) R T P S U I0 I1 (if (wi n (nI 0) (nI 8) && hasP T z) = true ∧ W.1 11 < 5 then sA (sA (sF (sF M 0 0) 23 (W.1 11 + 1)) 21 (va_up (M.2 21) (W.1 11) n.toNatClampNeg)) 22 (va_up (M.2 22) (W.1 11) z.toNatClampNeg) else sF M 0 0) := by
  obtain ⟨⟨a1, a2, a3, a4, a5, a6, a7, a8, a9⟩, hm⟩ := h
  obtain ⟨b1, b2, b3, b4, b5, b6, b7⟩ := hm
  by_cases hw : (wi n (nI 0) (nI 8) && hasP T z) = true ∧ W.1 11 < 5
  · rw [if_pos hw, if_pos hw]
    have hb := Bool.and_eq_true_iff.mp hw.1
    exact ⟨⟨a1, a2, a3, a4, a5, a6, a7, tv_saw a8 hw.2 (wi_cl (by decide) hb.1).1 (hasP_cl a2 hb.2), a9⟩, b1, b2, b3, b4, b5, mW_saw b6, b7⟩
  · rw [if_neg hw, if_neg hw]
    exact ⟨⟨a1, a2, a3, a4, a5, a6, a7, a8, a9⟩, mI_S ⟨b1, b2, b3, b4, b5, b6, b7⟩ ((mS.rf M).F (Or.inl rfl))⟩

theorem J_takes {W R T D P S : NS} {U : Nat → NS} {V O I0 I1 M M2 : NS} (h : cI W R T D P S U V O I0 I1 ∧ mI W R T P S U I0 I1 M) (r : Int32) (e : mQ M M2) (hU : mrU (if tkC T P r = true then rmS S else S) (if tkC T P r = true then va_up U (S.1 1) P else U) M2) (hN : mrP (if tkC T P r = true then tkP T P r.toNatClampNeg else P) M2) : cI W R T D (if tkC T P r = true then tkP T P r.toNatClampNeg else P) (if tkC T P r = true then rmS S else S) (if tkC T P r = true then va_up U (S.1 1) P else U) V O I0 I1 ∧ mI W R T (if tkC T P r = true then tkP T P r.toNatClampNeg else P) (if tkC T P r = true then rmS S else S) (if tkC T P r = true then va_up U (S.1 1) P else U) I0 I1 M2 := by
  obtain ⟨⟨a1, a2, a3, a4, a5, a6, a7, a8, a9⟩, hm⟩ := h
  obtain ⟨b1, b2, b3, b4, b5, b6, b7⟩ := hm
  refine ⟨⟨a1, a2, a3, ?_, ?_, a6, a7, a8, a9⟩, mI_Q ⟨b1, b2, b3, b4, b5, b6, b7⟩ e hU hN⟩
  · by_cases hw : tkC T P r = true
    · rw [if_pos hw]; unfold tkC at hw; have h1 := Bool.and_eq_true_iff.mp hw; have h2 := Bool.and_eq_true_iff.mp h1.1; exact pn_tk a2 a4 (hasR_cl a2 h2.1) (of_decide_eq_true h1.2)
    · rw [if_neg hw]; exact a4
  · by_cases hw : tkC T P r = true
    · rw [if_pos hw, if_pos hw]; exact rg_note a5 a4
    · rw [if_neg hw, if_neg hw]; exact a5

theorem J_jams {W R T D P S : NS} {U : Nat → NS} {V O I0 I1 M M2 : NS} (h : cI W R T D P S U V O I0 I1 ∧ mI W R T P S U I0 I1 M) (r n : Int32) (e : mQ M M2) (hU : mrU (if (hasR T r && wi n (nI 0) (nI 60)) = true then rmS S else S) (if (hasR T r && wi n (nI 0) (nI 60)) = true then va_up U (S.1 1) P else U) M2) (hN : mrP (if (hasR T r && wi n (nI 0) (nI 60)) = true then sA P 5 (va_up (P.2 5) r.toNatClampNeg n.toNatClampNeg) else P) M2) : cI W R T D (if (hasR T r && wi n (nI 0) (nI 60)) = true then sA P 5 (va_up (P.2 5) r.toNatClampNeg n.toNatClampNeg) else P) (if (hasR T r && wi n (nI 0) (nI 60)) = true then rmS S else S) (if (hasR T r && wi n (nI 0) (nI 60)) = true then va_up U (S.1 1) P else U) V O I0 I1 ∧ mI W R T (if (hasR T r && wi n (nI 0) (nI 60)) = true then sA P 5 (va_up (P.2 5) r.toNatClampNeg n.toNatClampNeg) else P) (if (hasR T r && wi n (nI 0) (nI 60)) = true then rmS S else S) (if (hasR T r && wi n (nI 0) (nI 60)) = true then va_up U (S.1 1) P else U) I0 I1 M2 := by
  obtain ⟨⟨a1, a2, a3, a4, a5, a6, a7, a8, a9⟩, hm⟩ := h
  obtain ⟨b1, b2, b3, b4, b5, b6, b7⟩ := hm
  refine ⟨⟨a1, a2, a3, ?_, ?_, a6, a7, a8, a9⟩, mI_Q ⟨b1, b2, b3, b4, b5, b6, b7⟩ e hU hN⟩
  · by_cases hw : (hasR T r && wi n (nI 0) (nI 60)) = true
    · rw [if_pos hw]; have h1 := Bool.and_eq_true_iff.mp hw; exact pn_jm a4 (wi_cl (by decide) h1.2).1
    · rw [if_neg hw]; exact a4
  · by_cases hw : (hasR T r && wi n (nI 0) (nI 60)) = true
    · rw [if_pos hw, if_pos hw]; exact rg_note a5 a4
    · rw [if_neg hw, if_neg hw]; exact a5

theorem J_shuts {W R T D P S : NS} {U : Nat → NS} {V O I0 I1 M M2 : NS} (h : cI W R T D P S U V O I0 I1 ∧ mI W R T P S U I0 I1 M) (r n : Int32) (e : mQ M M2) (hU : mrU (if shC T P r n = true then rmS S else S) (if shC T P r n = true then va_up U (S.1 1) P else U) M2) (hN : mrP (if shC T P r n = true then sF P 4 (P.1 4 ^^^ 1 <<< r.toNatClampNeg) else P) M2) : cI W R T D (if shC T P r n = true then sF P 4 (P.1 4 ^^^ 1 <<< r.toNatClampNeg) else P) (if shC T P r n = true then rmS S else S) (if shC T P r n = true then va_up U (S.1 1) P else U) V O I0 I1 ∧ mI W R T (if shC T P r n = true then sF P 4 (P.1 4 ^^^ 1 <<< r.toNatClampNeg) else P) (if shC T P r n = true then rmS S else S) (if shC T P r n = true then va_up U (S.1 1) P else U) I0 I1 M2 := by
  obtain ⟨⟨a1, a2, a3, a4, a5, a6, a7, a8, a9⟩, hm⟩ := h
  obtain ⟨b1, b2, b3, b4, b5, b6, b7⟩ := hm
  refine ⟨⟨a1, a2, a3, ?_, ?_, a6, a7, a8, a9⟩, mI_Q ⟨b1, b2, b3, b4, b5, b6, b7⟩ e hU hN⟩
  · by_cases hw : shC T P r n = true
    · rw [if_pos hw]; unfold shC at hw; have h1 := Bool.and_eq_true_iff.mp hw; have h2 := Bool.and_eq_true_iff.mp h1.1; exact pn_sh a2 a4 (hasR_cl a2 h2.1)
    · rw [if_neg hw]; exact a4
  · by_cases hw : shC T P r n = true
    · rw [if_pos hw, if_pos hw]; exact rg_note a5 a4
    · rw [if_neg hw, if_neg hw]; exact a5

theorem J_undo {W R T D P S : NS} {U : Nat → NS} {V O I0 I1 M M2 : NS} (h : cI W R T D P S U V O I0 I1 ∧ mI W R T P S U I0 I1 M) (e : mQ M M2) (hU : mrU (if S.1 2 = 0 then S else sF (sF S 1 (pv10 (S.1 1))) 2 (S.1 2 - 1)) U M2) (hN : mrP (if S.1 2 = 0 then P else U (pv10 (S.1 1))) M2) : cI W R T D (if S.1 2 = 0 then P else U (pv10 (S.1 1))) (if S.1 2 = 0 then S else sF (sF S 1 (pv10 (S.1 1))) 2 (S.1 2 - 1)) U V O I0 I1 ∧ mI W R T (if S.1 2 = 0 then P else U (pv10 (S.1 1))) (if S.1 2 = 0 then S else sF (sF S 1 (pv10 (S.1 1))) 2 (S.1 2 - 1)) U I0 I1 M2 := by
  obtain ⟨⟨a1, a2, a3, a4, a5, a6, a7, a8, a9⟩, hm⟩ := h
  obtain ⟨b1, b2, b3, b4, b5, b6, b7⟩ := hm
  refine ⟨⟨a1, a2, a3, ?_, ?_, a6, a7, a8, a9⟩, mI_Q ⟨b1, b2, b3, b4, b5, b6, b7⟩ e hU hN⟩
  · by_cases hw : S.1 2 = 0
    · rw [if_pos hw]; exact a4
    · rw [if_neg hw]; exact (rg_undo a5 hw).2
  · by_cases hw : S.1 2 = 0
    · rw [if_pos hw]; exact a5
    · rw [if_neg hw]; exact (rg_undo a5 hw).1

theorem J_back {W R T D P S : NS} {U : Nat → NS} {V O I0 I1 M M2 : NS} (h : cI W R T D P S U V O I0 I1 ∧ mI W R T P S U I0 I1 M) (n : Int32) (e : mQ M M2) (hU : mrU (if bkC W n = true then sF S 2 0 else S) U M2) (hN : mrP (if bkC W n = true then imV n I0 I1 else P) M2) : cI W R T D (if bkC W n = true then imV n I0 I1 else P) (if bkC W n = true then sF S 2 0 else S) U V O I0 I1 ∧ mI W R T (if bkC W n = true then imV n I0 I1 else P) (if bkC W n = true then sF S 2 0 else S) U I0 I1 M2 := by
  obtain ⟨⟨a1, a2, a3, a4, a5, a6, a7, a8, a9⟩, hm⟩ := h
  obtain ⟨b1, b2, b3, b4, b5, b6, b7⟩ := hm
  refine ⟨⟨a1, a2, a3, ?_, ?_, a6, a7, a8, a9⟩, mI_Q ⟨b1, b2, b3, b4, b5, b6, b7⟩ e hU hN⟩
  · by_cases hw : bkC W n = true
    · rw [if_pos hw]
      unfold bkC at hw
      have h1 := Bool.and_eq_true_iff.mp hw
      obtain ⟨hl, hn⟩ := wi_cl (by decide) h1.1
      have h2 := of_decide_eq_true h1.2
      rw [hn]
      generalize n.toNatClampNeg = i at *
      rcases (show i = 0 ∨ i = 1 by omega) with rfl | rfl
      · exact a9.1 h2
      · exact a9.2 h2
    · rw [if_neg hw]; exact a4
  · by_cases hw : bkC W n = true
    · rw [if_pos hw]; exact rg_lose a5.1
    · rw [if_neg hw]; exact a5

theorem J_keep {W R T D P S : NS} {U : Nat → NS} {V O I0 I1 M M2 : NS} (h : cI W R T D P S U V O I0 I1 ∧ mI W R T P S U I0 I1 M) (n : Int32) (e : mK M M2) (hK : kpI (if wi n (nI 0) (nI 1) = true then sA W 13 (va_up (W.2 13) n.toNatClampNeg 1) else W) (if n = nI 0 then P else I0) (if n = nI 1 then P else I1) M2) : cI (if wi n (nI 0) (nI 1) = true then sA W 13 (va_up (W.2 13) n.toNatClampNeg 1) else W) R T D P S U V O (if n = nI 0 then P else I0) (if n = nI 1 then P else I1) ∧ mI (if wi n (nI 0) (nI 1) = true then sA W 13 (va_up (W.2 13) n.toNatClampNeg 1) else W) R T P S U (if n = nI 0 then P else I0) (if n = nI 1 then P else I1) M2 := by
  obtain ⟨⟨a1, a2, a3, a4, a5, a6, a7, a8, a9⟩, hm⟩ := h
  obtain ⟨b1, b2, b3, b4, b5, b6, b7⟩ := hm
  refine ⟨⟨a1, a2, a3, a4, a5, a6, a7, ?_, ?_⟩, mI_K ⟨b1, b2, b3, b4, b5, b6, b7⟩ e hK ?_⟩
  · by_cases hw : wi n (nI 0) (nI 1) = true
    · rw [if_pos hw]
      exact ⟨a8.1, a8.2.1, a8.2.2.1, a8.2.2.2.1, fun i => by show va_up (W.2 13) n.toNatClampNeg 1 i ≤ 1; unfold va_up; split; exact Nat.le_refl _; exact a8.2.2.2.2 i⟩
    · rw [if_neg hw]; exact a8
  · by_cases hw : wi n (nI 0) (nI 1) = true
    · rw [if_pos hw]
      obtain ⟨hl, hn⟩ := wi_cl (by decide) hw
      rw [hn]
      generalize n.toNatClampNeg = i at *
      rcases (show i = 0 ∨ i = 1 by omega) with rfl | rfl
      · refine ⟨fun _ => by rw [if_pos rfl]; exact a4, fun q => ?_⟩
        rw [if_neg (by decide)]; exact a9.2 q
      · refine ⟨fun q => ?_, fun _ => by rw [if_pos rfl]; exact a4⟩
        rw [if_neg (by decide)]; exact a9.1 q
    · rw [if_neg hw]
      have h0 : wi n (nI 0) (nI 1) = false := by simpa using hw
      rw [if_neg (wi01 h0).1, if_neg (wi01 h0).2]; exact a9
  · by_cases hw : wi n (nI 0) (nI 1) = true
    · rw [if_pos hw]; exact ⟨rfl, rfl, rfl, rfl⟩
    · rw [if_neg hw]; exact ⟨rfl, rfl, rfl, rfl⟩

theorem J_rate {W R T D P S : NS} {U : Nat → NS} {V O I0 I1 M M2 : NS} (h : cI W R T D P S U V O I0 I1 ∧ mI W R T P S U I0 I1 M) (x : Nat) : cI (sF W 14 (W.1 14 + x)) R T D P S U V O I0 I1 ∧ mI (sF W 14 (W.1 14 + x)) R T P S U I0 I1 (sF (sF M 0 0) 1 (M.1 1 + x)) := by
  obtain ⟨⟨a1, a2, a3, a4, a5, a6, a7, a8, a9⟩, hm⟩ := h
  obtain ⟨b1, b2, b3, b4, b5, b6, b7⟩ := hm
  exact ⟨⟨a1, a2, a3, a4, a5, a6, a7, a8, a9⟩, b1, b2, b3, b4, b5, ⟨b6.1, b6.2.1, b6.2.2.1, b6.2.2.2.1, by show M.1 1 + x = W.1 14 + x; rw [b6.2.2.2.2]⟩, b7⟩

theorem J_town1 {W R T D P S : NS} {U : Nat → NS} {V O I0 I1 M M2 : NS} (h : cI W R T D P S U V O I0 I1 ∧ mI W R T P S U I0 I1 M) (e : twP (rdF R D) M M2) (hq : 0 ≤ (rdF R D).1) : cI (sA (sF (sF W 8 0) 11 0) 13 (va_up (va_up (W.2 13) 0 0) 1 0)) (sF (rdF R D).2.1 1 0) ((rdF R D).2.2) (T) (st0 ((rdF R D).2.2.1 2)) (sF S 2 0) U V O I0 I1 ∧ mI (sA (sF (sF W 8 0) 11 0) 13 (va_up (va_up (W.2 13) 0 0) 1 0)) (sF (rdF R D).2.1 1 0) ((rdF R D).2.2) (st0 ((rdF R D).2.2.1 2)) (sF S 2 0) U I0 I1 M2 := by
  obtain ⟨⟨a1, a2, a3, a4, a5, a6, a7, a8, a9⟩, hm⟩ := h
  obtain ⟨b1, b2, b3, b4, b5, b6, b7⟩ := hm
  obtain ⟨r1, r2, r3⟩ := rdF_ok a1 a3
  obtain ⟨g1, g2, g3, g18, g20, g23, gt, g160, g161⟩ := e.2.1 hq
  have hT := r3 hq
  refine ⟨⟨rd_clr r1.1, hT, a2.D, pn_st hT hT.2.2.2.1, rg_lose a5.1, a6, a7, ⟨Nat.zero_le _, Nat.zero_le _, fun i hi => absurd hi (Nat.not_lt_zero i), fun i hi => absurd hi (Nat.not_lt_zero i), fun i => ?_⟩, ⟨fun q => absurd rfl q, fun q => absurd rfl q⟩⟩, ⟨g3, fun k hk => absurd hk (Nat.not_lt_zero k)⟩, g1, g2, ⟨g18, fun k hk => absurd hk (Nat.not_lt_zero k)⟩, ⟨fun i hi => ?_, fun q => absurd rfl q, fun q => absurd rfl q⟩, ⟨g20, fun i hi => absurd hi (Nat.not_lt_zero i), g23, fun i hi => absurd hi (Nat.not_lt_zero i), gt.trans b6.2.2.2.2⟩, e.1⟩
  · show va_up (va_up (W.2 13) 0 0) 1 0 i ≤ 1
    unfold va_up
    split
    · exact Nat.zero_le _
    · split
      · exact Nat.zero_le _
      · exact a8.2.2.2.2 i
  · rcases (show i = 0 ∨ i = 1 by omega) with rfl | rfl
    · exact g160
    · exact g161

theorem J_town0 {W R T D P S : NS} {U : Nat → NS} {V O I0 I1 M M2 : NS} (h : cI W R T D P S U V O I0 I1 ∧ mI W R T P S U I0 I1 M) (e : twP (rdF R D) M M2) (hq : ¬ 0 ≤ (rdF R D).1) : cI W ((rdF R D).2.1) T ((rdF R D).2.2) P S U V O I0 I1 ∧ mI W ((rdF R D).2.1) T P S U I0 I1 M2 := by
  obtain ⟨⟨a1, a2, a3, a4, a5, a6, a7, a8, a9⟩, hm⟩ := h
  obtain ⟨b1, b2, b3, b4, b5, b6, b7⟩ := hm
  obtain ⟨r1, r2, r3⟩ := rdF_ok a1 a3
  have d := e.2.2 hq
  have f := fun (k : Nat) (q0 : k ≠ 0) (q4 : k ≠ 4) (q5 : k ≠ 5) (q6 : k ≠ 6) (q7 : k ≠ 7) (q8 : k ≠ 8) (q10 : k ≠ 10) => d.1 k q0 q4 q5 q6 q7 q8 q10
  have g := fun (i : Nat) (q9 : i ≠ 9) (q11 : i ≠ 11) (q12 : i ≠ 12) (q13 : i ≠ 13) => d.2.1 i q9 q11 q12 q13
  have F := fun (k : Nat) (q : decide (k ≠ 0 ∧ k ≠ 4 ∧ k ≠ 5 ∧ k ≠ 6 ∧ k ≠ 7 ∧ k ≠ 8 ∧ k ≠ 10) = true) => by
    have q := of_decide_eq_true q
    exact f k q.1 q.2.1 q.2.2.1 q.2.2.2.1 q.2.2.2.2.1 q.2.2.2.2.2.1 q.2.2.2.2.2.2
  have G := fun (k : Nat) (q : decide (k ≠ 9 ∧ k ≠ 11 ∧ k ≠ 12 ∧ k ≠ 13) = true) => by
    have q := of_decide_eq_true q
    exact g k q.1 q.2.1 q.2.2.1 q.2.2.2
  refine ⟨⟨r1.1, a2, r2, a4, a5, a6, a7, a8, a9⟩, ?_, ?_, ?_, ?_, ?_, ?_, e.1⟩
  · unfold mrX; rw [F 3 (by decide), G 2 (by decide), r1.2.1, r1.2.2]; exact b1
  · have hR := a2.2.2.1
    refine ⟨fun k hk => (d.2.2.1 k hk).trans (b2.1 k hk), fun r hr => ?_⟩
    have hb := b2.2 r hr
    exact ⟨(d.2.2.2.1 _ (by omega)).trans hb.1, (d.2.2.2.1 _ (by omega)).trans hb.2.1, (d.2.2.2.2.1 _ (by omega)).trans hb.2.2.1, (d.2.2.2.2.2 _ (by omega)).trans hb.2.2.2⟩
  · unfold mrP; rw [G 14 (by decide)]; exact b3
  · unfold mrU; rw [F 18 (by decide), G 17 (by decide)]; exact b4
  · unfold kpI; rw [G 16 (by decide), G 15 (by decide)]; exact b5
  · unfold mrW; rw [F 20 (by decide), G 19 (by decide), F 23 (by decide), G 21 (by decide), G 22 (by decide), F 1 (by decide)]; exact b6
