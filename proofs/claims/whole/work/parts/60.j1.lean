/-! THE CLASS AND THE REFERENCE SIDE BY SIDE: what always holds between two calls -/
def rgI (T S : NS) (U : Nat → NS) : Prop := S.1 1 < 10 ∧ S.1 2 ≤ 10 ∧ ∀ k, k < S.1 2 → pnI T (U (rix S k))
def kpJ (T W I0 I1 : NS) : Prop := (W.2 13 0 ≠ 0 → pnI T I0) ∧ (W.2 13 1 ≠ 0 → pnI T I1)
def cI (W R T D P S : NS) (U : Nat → NS) (V O I0 I1 : NS) : Prop := rdI R ∧ tdI T ∧ tdD D ∧ pnI T P ∧ rgI T S U ∧ vI V ∧ (∀ i, O.2 3 i < 4096) ∧ tvI T W ∧ kpJ T W I0 I1
def mI (W R T P S : NS) (U : Nat → NS) (I0 I1 M : NS) : Prop := mrX R M ∧ mrT T M ∧ mrP P M ∧ mrU S U M ∧ kpI W I0 I1 M ∧ mrW W M ∧ M.1 7 ≤ 999
theorem mI_S {W R T P S : NS} {U : Nat → NS} {I0 I1 M M2 : NS} (h : mI W R T P S U I0 I1 M) (e : mS M M2) : mI W R T P S U I0 I1 M2 := by
  obtain ⟨h1, h2, h3, h4, h5, h6, h7⟩ := h
  refine ⟨?_, ?_, ?_, ?_, ?_, ?_, ?_⟩
  · unfold mrX; rw [e.1 3 (by decide) (by decide), e.2 2 (by decide)]; exact h1
  · unfold mrT; rw [e.2 9 (by decide), e.2 11 (by decide), e.2 12 (by decide), e.2 13 (by decide)]; exact h2
  · unfold mrP; rw [e.2 14 (by decide)]; exact h3
  · unfold mrU; rw [e.1 18 (by decide) (by decide), e.2 17 (by decide)]; exact h4
  · unfold kpI; rw [e.2 16 (by decide), e.2 15 (by decide)]; exact h5
  · unfold mrW; rw [e.1 20 (by decide) (by decide), e.2 19 (by decide), e.1 23 (by decide) (by decide), e.2 21 (by decide), e.2 22 (by decide), e.1 1 (by decide) (by decide)]; exact h6
  · rw [e.1 7 (by decide) (by decide)]; exact h7
theorem mI_Q {W R T P S P' S' : NS} {U U' : Nat → NS} {I0 I1 M M2 : NS} (h : mI W R T P S U I0 I1 M) (e : mQ M M2) (hU : mrU S' U' M2) (hP : mrP P' M2) : mI W R T P' S' U' I0 I1 M2 := by
  obtain ⟨h1, h2, h3, h4, h5, h6, h7⟩ := h
  refine ⟨?_, ?_, hP, hU, ?_, ?_, ?_⟩
  · unfold mrX; rw [e.1 3 (by decide) (by decide) (by decide), e.2 2 (by decide) (by decide) (by decide)]; exact h1
  · unfold mrT; rw [e.2 9 (by decide) (by decide) (by decide), e.2 11 (by decide) (by decide) (by decide), e.2 12 (by decide) (by decide) (by decide), e.2 13 (by decide) (by decide) (by decide)]; exact h2
  · unfold kpI; rw [e.2 16 (by decide) (by decide) (by decide), e.2 15 (by decide) (by decide) (by decide)]; exact h5
  · unfold mrW; rw [e.1 20 (by decide) (by decide) (by decide), e.2 19 (by decide) (by decide) (by decide), e.1 23 (by decide) (by decide) (by decide), e.2 21 (by decide) (by decide) (by decide), e.2 22 (by decide) (by decide) (by decide), e.1 1 (by decide) (by decide) (by decide)]; exact h6
  · rw [e.1 7 (by decide) (by decide) (by decide)]; exact h7
theorem mI_K {W W' R T P S : NS} {U : Nat → NS} {I0 I1 J0 J1 M M2 : NS} (h : mI W R T P S U I0 I1 M) (e : mK M M2) (hK : kpI W' J0 J1 M2) (hw : W'.1 = W.1 ∧ W'.2 7 = W.2 7 ∧ W'.2 9 = W.2 9 ∧ W'.2 10 = W.2 10) : mI W' R T P S U J0 J1 M2 := by
  obtain ⟨h1, h2, h3, h4, h5, h6, h7⟩ := h
  refine ⟨?_, ?_, ?_, ?_, hK, ?_, ?_⟩
  · unfold mrX; rw [e.1 3 (by decide) (by decide), e.2 2 (by decide) (by decide) (by decide)]; exact h1
  · unfold mrT; rw [e.2 9 (by decide) (by decide) (by decide), e.2 11 (by decide) (by decide) (by decide), e.2 12 (by decide) (by decide) (by decide), e.2 13 (by decide) (by decide) (by decide)]; exact h2
  · unfold mrP; rw [e.2 14 (by decide) (by decide) (by decide)]; exact h3
  · unfold mrU; rw [e.1 18 (by decide) (by decide), e.2 17 (by decide) (by decide) (by decide)]; exact h4
  · unfold mrW; rw [hw.1, hw.2.1, hw.2.2.1, hw.2.2.2, e.1 20 (by decide) (by decide), e.2 19 (by decide) (by decide) (by decide), e.1 23 (by decide) (by decide), e.2 21 (by decide) (by decide) (by decide), e.2 22 (by decide) (by decide) (by decide), e.1 1 (by decide) (by decide)]; exact h6
  · rw [e.1 7 (by decide) (by decide)]; exact h7
/-- NOW, step by step -/
theorem pn_tk {T P : NS} {j : Nat} (hT : tdI T) (hP : pnI T P) (hj : j < T.1 1) (hm : P.1 2 + tkM T P j ≤ 9999) : pnI T (tkP T P j) := by
  have h1 := (hT.2.2.2.2.2.2.2.2.2 j hj).2.2.2
  have h2 := hT.2.2.1
  have ho := otherT_l8 hT (r := j) (p := P.1 0) hj
  have hb := hT.2.1.2
  have h3 := hP.2.2.2.2.1
  have ht : 1 ≤ tkM T P j := by unfold tkM; omega
  have hi : (if isTn T (P.1 1) j = true then 1 else 0) ≤ 1 := by split <;> omega
  refine ⟨(((hP.1.F (by omega)).F (by omega)).F (by omega)).F (by omega), ho, ?_, hm, ?_, hP.2.2.2.2.2⟩
  · show j + 1 ≤ T.1 1; omega
  · show P.1 3 + _ ≤ P.1 2 + tkM T P j; omega
theorem pn_jm {T P : NS} {j n : Nat} (hP : pnI T P) (hn : n ≤ 60) : pnI T (sA P 5 (va_up (P.2 5) j n)) := by
  have hj := hP.2.2.2.2.2.2
  have hu : ∀ r, va_up (P.2 5) j n r ≤ 60 := fun r => by unfold va_up; split; exact hn; exact hj r
  exact ⟨hP.1.A (fun r => Nat.lt_of_le_of_lt (hu r) (by decide)), hP.2.1, hP.2.2.1, hP.2.2.2.1, hP.2.2.2.2.1, hP.2.2.2.2.2.1, hu⟩
theorem pn_sh {T P : NS} {j : Nat} (hT : tdI T) (hP : pnI T P) (hj : j < T.1 1) : pnI T (sF P 4 (P.1 4 ^^^ 1 <<< j)) := by
  have h := Nat.xor_lt_two_pow (n := T.1 1) hP.2.2.2.2.2.1 (show 1 <<< j < 2 ^ T.1 1 by rw [Nat.one_shiftLeft]; exact Nat.pow_lt_pow_right (by decide) hj)
  have h2 : 2 ^ T.1 1 ≤ 2 ^ 12 := Nat.pow_le_pow_right (by decide) hT.2.2.1
  exact ⟨hP.1.F (by omega), hP.2.1, hP.2.2.1, hP.2.2.2.1, hP.2.2.2.2.1, h, hP.2.2.2.2.2.2⟩
theorem pn_st {T : NS} (hT : tdI T) {p : Nat} (hp : p < T.1 0) : pnI T (st0 p) := by
  have := hT.2.1.2
  exact ⟨st0_sm (by omega), hp, Nat.zero_le _, Nat.zero_le _, Nat.le_refl _, Nat.two_pow_pos _, fun _ => Nat.zero_le _⟩
theorem rg_note {T S P : NS} {U : Nat → NS} (h : rgI T S U) (hP : pnI T P) : rgI T (rmS S) (va_up U (S.1 1) P) := by
  obtain ⟨h1, h2, h3⟩ := h
  refine ⟨?_, ?_, fun k hk => ?_⟩
  · show nx10 (S.1 1) < 10; unfold nx10; split <;> omega
  · show min (S.1 2 + 1) 10 ≤ 10; omega
  · have hk' : k < min (S.1 2 + 1) 10 := hk
    unfold va_up
    split
    · exact hP
    · rename_i hne
      have hr : rix (rmS S) k = ((if S.1 1 + 1 < 10 then S.1 1 + 1 else 0) + 10 - min (S.1 2 + 1) 10 + k) % 10 := rfl
      by_cases h10 : S.1 2 = 10
      · have e : rix (rmS S) k = rix S (k + 1) := by rw [hr]; unfold rix; rw [h10]; split <;> omega
        rw [e]
        rcases Nat.lt_or_ge (k + 1) 10 with q | q
        · exact h3 (k + 1) (by omega)
        · exfalso; apply hne; rw [e]; unfold rix; rw [h10, show k = 9 by omega]; omega
      · have e : rix (rmS S) k = rix S k := by rw [hr]; unfold rix; split <;> omega
        rw [e]
        rcases Nat.lt_or_ge k (S.1 2) with q | q
        · exact h3 k q
        · exfalso; apply hne; rw [e]; unfold rix; rw [show k = S.1 2 by omega]; omega
theorem rg_undo {T S : NS} {U : Nat → NS} (h : rgI T S U) (h0 : S.1 2 ≠ 0) : rgI T (sF (sF S 1 (pv10 (S.1 1))) 2 (S.1 2 - 1)) U ∧ pnI T (U (pv10 (S.1 1))) := by
  obtain ⟨h1, h2, h3⟩ := h
  have hx : rix S (S.1 2 - 1) = pv10 (S.1 1) := by unfold rix pv10; split <;> omega
  refine ⟨⟨?_, ?_, fun k hk => ?_⟩, ?_⟩
  · show pv10 (S.1 1) < 10; unfold pv10; split <;> omega
  · show S.1 2 - 1 ≤ 10; omega
  · have hk' : k < S.1 2 - 1 := hk
    have e : rix (sF (sF S 1 (pv10 (S.1 1))) 2 (S.1 2 - 1)) k = rix S k := by
      show (pv10 (S.1 1) + 10 - (S.1 2 - 1) + k) % 10 = (S.1 1 + 10 - S.1 2 + k) % 10
      unfold pv10; split <;> omega
    rw [e]
    exact h3 k (by omega)
  · rw [← hx]; exact h3 _ (by omega)
theorem rg_lose {T S : NS} {U : Nat → NS} (h1 : S.1 1 < 10) : rgI T (sF S 2 0) U := ⟨h1, Nat.zero_le _, fun k hk => absurd hk (Nat.not_lt_zero k)⟩
/-- the reader, letter by letter -/
theorem rd_add {R : NS} {l : Nat} (h : rdI R) (hn : R.1 1 < 200) (hl : l < 256) : rdI (sA (sF R 1 (R.1 1 + 1)) 0 (va_up (R.2 0) (R.1 1) l)) := by
  have hu : ∀ i, va_up (R.2 0) (R.1 1) l i < 256 := fun i => by unfold va_up; split; exact hl; exact h.2.1 i
  exact ⟨(h.1.F (by omega)).A (fun i => Nat.lt_trans (hu i) (by decide)), hu, by show R.1 1 + 1 ≤ 200; omega, h.2.2.2⟩
theorem rd_clr {R : NS} (h : rdI R) : rdI (sF R 1 0) := ⟨h.1.F (by decide), h.2.1, Nat.zero_le _, h.2.2.2⟩
theorem mrX_add {R M : NS} {l : Nat} (h : mrX R M) : mrX (sA (sF R 1 (R.1 1 + 1)) 0 (va_up (R.2 0) (R.1 1) l)) (sA (sF (sF M 0 0) 3 (R.1 1 + 1)) 2 (va_up (M.2 2) (R.1 1) l)) := by
  refine ⟨rfl, fun k hk => ?_⟩
  have hk' : k < R.1 1 + 1 := hk
  show va_up (M.2 2) (R.1 1) l k = va_up (R.2 0) (R.1 1) l k
  unfold va_up
  split
  · rfl
  · exact h.2 k (by omega)
theorem mrX_clr {R M : NS} : mrX (sF R 1 0) (sF (sF M 0 0) 3 0) := ⟨rfl, fun k hk => absurd hk (Nat.not_lt_zero k)⟩
/-- planned, SEEN -/
theorem tv_plan {T W : NS} {r : Nat} (h : tvI T W) (h8 : W.1 8 < 8) (hr : r < T.1 1) : tvI T (sA (sF W 8 (W.1 8 + 1)) 7 (va_up (W.2 7) (W.1 8) r)) := by
  refine ⟨by show W.1 8 + 1 ≤ 8; omega, h.2.1, fun i hi => ?_, h.2.2.2.1, h.2.2.2.2⟩
  have hi' : i < W.1 8 + 1 := hi
  show va_up (W.2 7) (W.1 8) r i < _
  unfold va_up
  split
  · exact hr
  · exact h.2.2.1 i (by omega)
theorem mW_plan {W M : NS} {r : Nat} (h : mrW W M) : mrW (sA (sF W 8 (W.1 8 + 1)) 7 (va_up (W.2 7) (W.1 8) r)) (sA (sF (sF M 0 0) 20 (W.1 8 + 1)) 19 (va_up (M.2 19) (W.1 8) r)) := by
  refine ⟨rfl, fun i hi => ?_, h.2.2.1, h.2.2.2.1, h.2.2.2.2⟩
  have hi' : i < W.1 8 + 1 := hi
  show va_up (M.2 19) (W.1 8) r i = va_up (W.2 7) (W.1 8) r i
  unfold va_up
  split
  · rfl
  · exact h.2.1 i (by omega)
theorem tv_saw {T W : NS} {n z : Nat} (h : tvI T W) (h5 : W.1 11 < 5) (hn : n ≤ 8) (hz : z < T.1 0) : tvI T (sA (sA (sF W 11 (W.1 11 + 1)) 9 (va_up (W.2 9) (W.1 11) n)) 10 (va_up (W.2 10) (W.1 11) z)) := by
  refine ⟨h.1, by show W.1 11 + 1 ≤ 5; omega, h.2.2.1, fun i hi => ?_, h.2.2.2.2⟩
  have hi' : i < W.1 11 + 1 := hi
  show va_up (W.2 9) (W.1 11) n i ≤ 8 ∧ va_up (W.2 10) (W.1 11) z i < _
  unfold va_up
  split
  · exact ⟨hn, hz⟩
  · exact h.2.2.2.1 i (by omega)
theorem mW_saw {W M : NS} {n z : Nat} (h : mrW W M) : mrW (sA (sA (sF W 11 (W.1 11 + 1)) 9 (va_up (W.2 9) (W.1 11) n)) 10 (va_up (W.2 10) (W.1 11) z)) (sA (sA (sF (sF M 0 0) 23 (W.1 11 + 1)) 21 (va_up (M.2 21) (W.1 11) n)) 22 (va_up (M.2 22) (W.1 11) z)) := by
  refine ⟨h.1, h.2.1, rfl, fun i hi => ?_, h.2.2.2.2⟩
  have hi' : i < W.1 11 + 1 := hi
  show va_up (M.2 21) (W.1 11) n i = va_up (W.2 9) (W.1 11) n i ∧ va_up (M.2 22) (W.1 11) z i = va_up (W.2 10) (W.1 11) z i
  unfold va_up
  split
  · exact ⟨rfl, rfl⟩
  · exact h.2.2.2.1 i (by omega)
/-- what was read: the text is as it was, the draft is sound, and a town if there was no fault -/
theorem rnS_tx (R : NS) (lo hi bt : Int32) : (rnS R lo hi bt).1 1 = R.1 1 ∧ (rnS R lo hi bt).2 0 = R.2 0 := by
  by_cases q : rnC R lo hi bt
  · rw [rnS_y q]; exact ⟨rfl, rfl⟩
  · rw [rnS_n q]; exact ⟨rfl, rfl⟩
theorem spNum_tx (R T : NS) (x : Nat) : (spNum R T x).2.1.1 1 = R.1 1 ∧ (spNum R T x).2.1.2 0 = R.2 0 := by
  have h1 := fun (lo hi bt : Int32) => rnS_tx R lo hi bt
  have h2 := fun (lo hi bt lo2 hi2 bt2 : Int32) => And.intro ((rnS_tx (rnS R lo hi bt) lo2 hi2 bt2).1.trans (h1 lo hi bt).1) ((rnS_tx (rnS R lo hi bt) lo2 hi2 bt2).2.trans (h1 lo hi bt).2)
  have h3 := fun (lo hi bt lo2 hi2 bt2 lo3 hi3 bt3 : Int32) => And.intro ((rnS_tx (rnS (rnS R lo hi bt) lo2 hi2 bt2) lo3 hi3 bt3).1.trans (h2 lo hi bt lo2 hi2 bt2).1) ((rnS_tx (rnS (rnS R lo hi bt) lo2 hi2 bt2) lo3 hi3 bt3).2.trans (h2 lo hi bt lo2 hi2 bt2).2)
  unfold spNum
  split
  · unfold spPl; split <;> exact h1 _ _ _
  · split
    · unfold spRo
      split
      · exact h1 _ _ _
      · split
        · exact h2 _ _ _ _ _ _
        · split <;> exact h3 _ _ _ _ _ _ _ _ _
    · split
      · unfold spSt
        split
        · exact h1 _ _ _
        · split <;> exact h2 _ _ _ _ _ _
      · split
        · unfold spGo
          split
          · exact h1 _ _ _
          · split <;> exact h2 _ _ _ _ _ _
        · split
          · unfold spNe; split <;> exact h1 _ _ _
          · split
            · unfold spLo; split <;> exact h1 _ _ _
            · exact ⟨rfl, rfl⟩
theorem spIt_tx (R T : NS) (f : Nat) : (spIt R T f).2.1.1 1 = R.1 1 ∧ (spIt R T f).2.1.2 0 = R.2 0 := by
  have h := spNum_tx (tokR R) T (R.1 3)
  unfold spIt
  split
  · exact ⟨rfl, rfl⟩
  · split
    · exact h
    · split
      · exact h
      · exact h
theorem rdL_ok : ∀ (k it : Nat) (R T : NS), rdJ R → tdI T → rdK R → (it = 0 → T.1 1 = 0 ∧ T.1 2 ≤ 1 ∧ T.1 3 ≤ 1) → (rdI (rdL k it R T).2.1 ∧ (rdL k it R T).2.1.1 1 = R.1 1 ∧ (rdL k it R T).2.1.2 0 = R.2 0) ∧ tdD (rdL k it R T).2.2 ∧ (0 ≤ (rdL k it R T).1 → tdI (rdL k it R T).2.2)
  | 0, it, R, T, hJ, hT, hK, h0 => ⟨⟨hJ.1, rfl, rfl⟩, hT.D, fun _ => hT⟩
  | k + 1, it, R, T, hJ, hT, hK, h0 => by
    by_cases h1 : R.1 3 = 1
    · rw [rdL_e h1]; exact ⟨⟨hJ.1, rfl, rfl⟩, hT.D, fun _ => hT⟩
    · have hx := spIt_tx R T (if it = 0 then 1 else 0)
      have hJ2 := spIt_J (T := T) (f := if it = 0 then 1 else 0) hJ
      have hf0 : (if it = 0 then 1 else 0) ≠ 0 → T.1 1 = 0 ∧ T.1 2 ≤ 1 ∧ T.1 3 ≤ 1 := fun q => h0 (by
        rcases Nat.eq_zero_or_pos it with z | z
        · exact z
        · rw [if_neg (by omega)] at q; exact absurd rfl q)
      have hT2 := spIt_T (f := if it = 0 then 1 else 0) hJ hT hf0
      cases hs : (spIt R T (if it = 0 then 1 else 0)).1 with
      | true =>
        rw [rdL_y rfl h1 hs]
        have ih := rdL_ok k (it + 1) _ _ hJ2 (hT2.2 hs) (spIt_4 hK h1 hs).1 (fun q => absurd q (Nat.succ_ne_zero it))
        exact ⟨⟨ih.1.1, ih.1.2.1.trans hx.1, ih.1.2.2.trans hx.2⟩, ih.2⟩
      | false =>
        rw [rdL_n rfl h1 hs]
        refine ⟨⟨hJ2.1, hx.1, hx.2⟩, hT2.1, fun q => absurd q (ft_neg ?_)⟩
        have a1 := hJ2.2.2.2
        have a2 := hJ2.1.2.2.1
        omega
theorem rdF_ok {R D : NS} (hR : rdI R) (hD : tdD D) : (rdI (rdF R D).2.1 ∧ (rdF R D).2.1.1 1 = R.1 1 ∧ (rdF R D).2.1.2 0 = R.2 0) ∧ tdD (rdF R D).2.2 ∧ (0 ≤ (rdF R D).1 → tdI (rdF R D).2.2) :=
  rdL_ok 200 0 (tokR (bgR R)) (fstT D) (tokR_J (bgR_I hR) (Nat.zero_le _)) (fstT_I hD) (tokR_K (bgR R)) (fun _ => ⟨rfl, Nat.zero_le _, Nat.le_refl _⟩)
