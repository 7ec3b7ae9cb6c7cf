theorem lw_cmp {L ix : Nat} (hL : L ≤ 256) (hi : ix ≤ 256) : nI L - nI 4 < nI ix ↔ L < ix + 4 := by
  by_cases h : 4 ≤ L
  · rw [pk_sub h, nI_ltI (by omega) (by omega)]
    omega
  · refine ⟨fun _ => by omega, fun _ => ?_⟩
    rw [Int32.lt_iff_toInt_lt, nI_toInt (show ix < 2 ^ 31 by omega)]
    have e0 : (nI 0 - nI 4).toInt = -4 := by decide
    have e1 : (nI 1 - nI 4).toInt = -3 := by decide
    have e2 : (nI 2 - nI 4).toInt = -2 := by decide
    have e3 : (nI 3 - nI 4).toInt = -1 := by decide
    rcases (show L = 0 ∨ L = 1 ∨ L = 2 ∨ L = 3 by omega) with rfl | rfl | rfl | rfl
    · rw [e0]; omega
    · rw [e1]; omega
    · rw [e2]; omega
    · rw [e3]; omega

theorem lw_head (g : GC) (X : XC) (E : Ob g X cL_law 4 RL) (hX : X.2.2.1 = zR 2000 600000 7302250) (sb L : Nat) (xs : Nat → Int32) (hsx : va_X sb L xs X.2.2.2.1 X.2.2.2.1.heap) (hsb : sb < X.2.2.2.1.heap.size) (hsA : ¬ X.2.2.2.2.2.2.2.2.2.1 sb) (hL : L ≤ 256) (ws : va_W) (x mm ix : Nat) (hi : ix ≤ 256) (K1 : L < ix + 4 → Z g X 4 79 1444 ws [(0, .ref sb), (1, .ref x), (2, .ref mm), (3, .int (nI ix))] [] 859) (K2 : ix + 4 ≤ L → Z g X 4 79 1444 ws [(0, .ref sb), (1, .ref x), (2, .ref mm), (3, .int (nI ix))] [.int (xs ix &&& nI 31)] 32) : Z g X 4 79 1444 ws [(0, .ref sb), (1, .ref x), (2, .ref mm), (3, .int (nI ix))] [] 18 := by
  refine z_iload_n E dL_law_18 3 rfl rfl ?_
  refine z_aload_n E dL_law_19 0 rfl rfl ?_
  refine z_slen E hsx hsb hsA dL_law_20 ?_
  refine z_iconst (v := nI 4) E dL_law_21 (by decide) ?_
  refine z_isub E dL_law_22 ?_
  refine z_icmp_gt E dL_law_23 859 (by decide) (fun h => ?_) (fun h => ?_)
  · exact K1 ((lw_cmp hL hi).mp h)
  · have hix : ix + 4 ≤ L := Nat.le_of_not_lt (fun q => h ((lw_cmp hL hi).mpr q))
    refine z_aload_n E dL_law_26 0 rfl rfl ?_
    refine z_iload_n E dL_law_27 3 rfl rfl ?_
    refine z_sld E hsx hsb hsA (i := ix) (by omega) (by omega) dL_law_28 ?_
    refine z_bipush (v := nI 31) E dL_law_29 (by decide) ?_
    refine z_iand E dL_law_31 ?_
    exact K2 hix

set_option maxHeartbeats 4000000 in
set_option maxRecDepth 100000 in
theorem lw_at32 (g : GC) (x : Nat) (y : Nat → Nat) (rd : Nat) (hr : Nat → Nat) (p : Nat) (q : Nat → Nat) (pa : Nat) (hpa b : Nat → Nat) (j : Nat → Nat → Nat) (vo : Nat) (hv : Nat → Nat) (ch : Nat) (ho im i0 i1 : Nat → Nat) (mm : Nat) (hm : Nat → Nat) (X : XC) (E : Ob g X cL_law 4 RL) (hX : X.2.2.1 = zR 2000 600000 7302250) (sb L : Nat) (xs : Nat → Int32) (hsx : va_X sb L xs X.2.2.2.1 X.2.2.2.1.heap) (hsb : sb < X.2.2.2.1.heap.size) (hsA : ¬ X.2.2.2.2.2.2.2.2.2.1 sb) (hL : L ≤ 256) (ix : Nat) (hix : ix + 4 ≤ L) (hZT : zT X.2.2.2.2.2.2.2.2.2.1 X.2.2.2.1 X.2.2.2.1.heap) (a : Nat) (h : Nat → Nat) (T : NS) (dr : Nat) (hd : Nat → Nat) (D : NS) (W : NS) (R : NS) (P : NS) (S : NS) (U : Nat → NS) (V : NS) (t : Nat) (O : NS) (I0 : NS) (I1 : NS) (M : NS) (hJ : cI W R T D P S U V O I0 I1 ∧ mI W R T P S U I0 I1 M) (K : ∀ (a : Nat) (h : Nat → Nat) (T : NS) (dr : Nat) (hd : Nat → Nat) (D : NS) (W : NS) (R : NS) (P : NS) (S : NS) (U : Nat → NS) (V : NS) (t : Nat) (O : NS) (I0 : NS) (I1 : NS) (M : NS), (cI W R T D P S U V O I0 I1 ∧ mI W R T P S U I0 I1 M) → Z g X 4 79 1444 (wTV g x y rd a dr p pa vo ch im W ++ (wRead g rd hr R ++ (wTown g a h T ++ (wTown g dr hd D ++ (wPres g p q P ++ (wPast g pa hpa b j U S ++ (wVoice g vo hv t V ++ (wOdds g ch ho O ++ (wPres g (im 0) i0 I0 ++ (wPres g (im 1) i1 I1 ++ (wMod g mm hm M))))))))))) [(0, .ref sb), (1, .ref x), (2, .ref mm), (3, .int (nI ix))] [] 853) : Z g X 4 79 1444 (wTV g x y rd a dr p pa vo ch im W ++ (wRead g rd hr R ++ (wTown g a h T ++ (wTown g dr hd D ++ (wPres g p q P ++ (wPast g pa hpa b j U S ++ (wVoice g vo hv t V ++ (wOdds g ch ho O ++ (wPres g (im 0) i0 I0 ++ (wPres g (im 1) i1 I1 ++ (wMod g mm hm M))))))))))) [(0, .ref sb), (1, .ref x), (2, .ref mm), (3, .int (nI ix))] [.int (xs ix &&& nI 31)] 32 := by
  rcases sw_cases (xs ix &&& nI 31) 28 with hsw | ⟨kk, hkk, hke⟩
  · refine z_tabOut E dL_law_32 853 hsw (by decide) ?_
    exact K a h T dr hd D W R P S U V t O I0 I1 M hJ
  · refine z_topi hke ?_
    clear hke
    rcases (show kk = 0 ∨ kk = 1 ∨ kk = 2 ∨ kk = 3 ∨ kk = 4 ∨ kk = 5 ∨ kk = 6 ∨ kk = 7 ∨ kk = 8 ∨ kk = 9 ∨ kk = 10 ∨ kk = 11 ∨ kk = 12 ∨ kk = 13 ∨ kk = 14 ∨ kk = 15 ∨ kk = 16 ∨ kk = 17 ∨ kk = 18 ∨ kk = 19 ∨ kk = 20 ∨ kk = 21 ∨ kk = 22 ∨ kk = 23 ∨ kk = 24 ∨ kk = 25 ∨ kk = 26 ∨ kk = 27 ∨ kk = 28 by omega) with rfl | rfl | rfl | rfl | rfl | rfl | rfl | rfl | rfl | rfl | rfl | rfl | rfl | rfl | rfl | rfl | rfl | rfl | rfl | rfl | rfl | rfl | rfl | rfl | rfl | rfl | rfl | rfl | rfl
    · refine z_tabIn (off := 132) E dL_law_32 164 (by decide) (by decide) (by decide) (by decide) ?_
      exact lc_type g x y rd hr p q pa hpa b j vo hv ch ho im i0 i1 mm hm X E hX sb L xs hsx hsb hsA hL ix hix a h T dr hd D W R P S U V t O I0 I1 M hJ K
    · refine z_tabIn (off := 155) E dL_law_32 187 (by decide) (by decide) (by decide) (by decide) ?_
      exact lc_clear g x y rd hr p q pa hpa b j vo hv ch ho im i0 i1 mm hm X E hX sb L xs hsx hsb hsA hL ix hix a h T dr hd D W R P S U V t O I0 I1 M hJ K
    · refine z_tabIn (off := 168) E dL_law_32 200 (by decide) (by decide) (by decide) (by decide) ?_
      exact lc_town g x y rd hr p q pa hpa b j vo hv ch ho im i0 i1 mm hm X E hX sb L xs hsx hsb hsA hL ix hix a h T dr hd D W R P S U V t O I0 I1 M hJ K
    · refine z_tabIn (off := 181) E dL_law_32 213 (by decide) (by decide) (by decide) (by decide) ?_
      exact lc_road g x y rd hr p q pa hpa b j vo hv ch ho im i0 i1 mm hm X E hX sb L xs hsx hsb hsA hL ix hix a h T dr hd D W R P S U V t O I0 I1 M hJ K
    · refine z_tabIn (off := 214) E dL_law_32 246 (by decide) (by decide) (by decide) (by decide) ?_
      exact lc_place g x y rd hr p q pa hpa b j vo hv ch ho im i0 i1 mm hm X E hX sb L xs hsx hsb hsA hL ix hix a h T dr hd D W R P S U V t O I0 I1 M hJ K
    · refine z_tabIn (off := 237) E dL_law_32 269 (by decide) (by decide) (by decide) (by decide) ?_
      exact lc_now g x y rd hr p q pa hpa b j vo hv ch ho im i0 i1 mm hm X E hX sb L xs hsx hsb hsA hL ix hix a h T dr hd D W R P S U V t O I0 I1 M hJ K
    · refine z_tabIn (off := 260) E dL_law_32 292 (by decide) (by decide) (by decide) (by decide) ?_
      exact lc_takes g x y rd hr p q pa hpa b j vo hv ch ho im i0 i1 mm hm X E hX sb L xs hsx hsb hsA hL ix hix a h T dr hd D W R P S U V t O I0 I1 M hJ K
    · refine z_tabIn (off := 283) E dL_law_32 315 (by decide) (by decide) (by decide) (by decide) ?_
      exact lc_jams g x y rd hr p q pa hpa b j vo hv ch ho im i0 i1 mm hm X E hX sb L xs hsx hsb hsA hL ix hix a h T dr hd D W R P S U V t O I0 I1 M hJ K
    · refine z_tabIn (off := 316) E dL_law_32 348 (by decide) (by decide) (by decide) (by decide) ?_
      exact lc_shuts g x y rd hr p q pa hpa b j vo hv ch ho im i0 i1 mm hm X E hX sb L xs hsx hsb hsA hL ix hix a h T dr hd D W R P S U V t O I0 I1 M hJ K
    · refine z_tabIn (off := 349) E dL_law_32 381 (by decide) (by decide) (by decide) (by decide) ?_
      exact lc_undo g x y rd hr p q pa hpa b j vo hv ch ho im i0 i1 mm hm X E hX sb L xs hsx hsb hsA hL ix hix a h T dr hd D W R P S U V t O I0 I1 M hJ K
    · refine z_tabIn (off := 362) E dL_law_32 394 (by decide) (by decide) (by decide) (by decide) ?_
      exact lc_way g x y rd hr p q pa hpa b j vo hv ch ho im i0 i1 mm hm X E hX sb L xs hsx hsb hsA hL ix hix a h T dr hd D W R P S U V t O I0 I1 M hJ K
    · refine z_tabIn (off := 385) E dL_law_32 417 (by decide) (by decide) (by decide) (by decide) ?_
      exact lc_round g x y rd hr p q pa hpa b j vo hv ch ho im i0 i1 mm hm X E hX sb L xs hsx hsb hsA hL ix hix a h T dr hd D W R P S U V t O I0 I1 M hJ K
    · refine z_tabIn (off := 398) E dL_law_32 430 (by decide) (by decide) (by decide) (by decide) ?_
      exact lc_on g x y rd hr p q pa hpa b j vo hv ch ho im i0 i1 mm hm X E hX sb L xs hsx hsb hsA hL ix hix a h T dr hd D W R P S U V t O I0 I1 M hJ K
    · refine z_tabIn (off := 421) E dL_law_32 453 (by decide) (by decide) (by decide) (by decide) ?_
      exact lc_worst g x y rd hr p q pa hpa b j vo hv ch ho im i0 i1 mm hm X E hX sb L xs hsx hsb hsA hL ix hix a h T dr hd D W R P S U V t O I0 I1 M hJ K
    · refine z_tabIn (off := 444) E dL_law_32 476 (by decide) (by decide) (by decide) (by decide) ?_
      exact lc_plans g x y rd hr p q pa hpa b j vo hv ch ho im i0 i1 mm hm X E hX sb L xs hsx hsb hsA hL ix hix a h T dr hd D W R P S U V t O I0 I1 M hJ K
    · refine z_tabIn (off := 467) E dL_law_32 499 (by decide) (by decide) (by decide) (by decide) ?_
      exact lc_drops g x y rd hr p q pa hpa b j vo hv ch ho im i0 i1 mm hm X E hX sb L xs hsx hsb hsA hL ix hix a h T dr hd D W R P S U V t O I0 I1 M hJ K
    · refine z_tabIn (off := 480) E dL_law_32 512 (by decide) (by decide) (by decide) (by decide) ?_
      exact lc_his g x y rd hr p q pa hpa b j vo hv ch ho im i0 i1 mm hm X E hX sb L xs hsx hsb hsA hL ix hix a h T dr hd D W R P S U V t O I0 I1 M hJ K
    · refine z_tabIn (off := 503) E dL_law_32 535 (by decide) (by decide) (by decide) (by decide) ?_
      exact lc_cars g x y rd hr p q pa hpa b j vo hv ch ho im i0 i1 mm hm X E hX sb L xs hsx hsb hsA hL ix hix a h T dr hd D W R P S U V t O I0 I1 M hJ K
    · refine z_tabIn (off := 536) E dL_law_32 568 (by decide) (by decide) (by decide) (by decide) ?_
      exact lc_tunnel g x y rd hr p q pa hpa b j vo hv ch ho im i0 i1 mm hm X E hX sb L xs hsx hsb hsA hL ix hix a h T dr hd D W R P S U V t O I0 I1 M hJ K
    · refine z_tabIn (off := 559) E dL_law_32 591 (by decide) (by decide) (by decide) (by decide) ?_
      exact lc_saw g x y rd hr p q pa hpa b j vo hv ch ho im i0 i1 mm hm X E hX sb L xs hsx hsb hsA hL ix hix a h T dr hd D W R P S U V t O I0 I1 M hJ K
    · refine z_tabIn (off := 592) E dL_law_32 624 (by decide) (by decide) (by decide) (by decide) ?_
      exact lc_forget g x y rd hr p q pa hpa b j vo hv ch ho im i0 i1 mm hm X E hX sb L xs hsx hsb hsA hL ix hix a h T dr hd D W R P S U V t O I0 I1 M hJ K
    · refine z_tabIn (off := 605) E dL_law_32 637 (by decide) (by decide) (by decide) (by decide) ?_
      exact lc_where g x y rd hr p q pa hpa b j vo hv ch ho im i0 i1 mm hm X E hX sb L xs hsx hsb hsA hL ix hix a h T dr hd D W R P S U V t O I0 I1 M hJ K
    · refine z_tabIn (off := 628) E dL_law_32 660 (by decide) (by decide) (by decide) (by decide) ?_
      exact lc_which g x y rd hr p q pa hpa b j vo hv ch ho im i0 i1 mm hm X E hX sb L xs hsx hsb hsA hL ix hix a h T dr hd D W R P S U V t O I0 I1 M hJ K
    · refine z_tabIn (off := 661) E dL_law_32 693 (by decide) (by decide) (by decide) (by decide) ?_
      exact lc_odds g x y rd hr p q pa hpa b j vo hv ch ho im i0 i1 mm hm X E hX sb L xs hsx hsb hsA hL ix hix a h T dr hd D W R P S U V t O I0 I1 M hJ K
    · refine z_tabIn (off := 705) E dL_law_32 737 (by decide) (by decide) (by decide) (by decide) ?_
      exact lc_rate g x y rd hr p q pa hpa b j vo hv ch ho im i0 i1 mm hm X E hX sb L xs hsx hsb hsA hL ix hix a h T dr hd D W R P S U V t O I0 I1 M hZT hJ K
    · refine z_tabIn (off := 738) E dL_law_32 770 (by decide) (by decide) (by decide) (by decide) ?_
      exact lc_keep g x y rd hr p q pa hpa b j vo hv ch ho im i0 i1 mm hm X E hX sb L xs hsx hsb hsA hL ix hix a h T dr hd D W R P S U V t O I0 I1 M hJ K
    · refine z_tabIn (off := 761) E dL_law_32 793 (by decide) (by decide) (by decide) (by decide) ?_
      exact lc_back g x y rd hr p q pa hpa b j vo hv ch ho im i0 i1 mm hm X E hX sb L xs hsx hsb hsA hL ix hix a h T dr hd D W R P S U V t O I0 I1 M hJ K
    · refine z_tabIn (off := 784) E dL_law_32 816 (by decide) (by decide) (by decide) (by decide) ?_
      exact lc_count g x y rd hr p q pa hpa b j vo hv ch ho im i0 i1 mm hm X E hX sb L xs hsx hsb hsA hL ix hix a h T dr hd D W R P S U V t O I0 I1 M hJ K
    · refine z_tabIn (off := 807) E dL_law_32 839 (by decide) (by decide) (by decide) (by decide) ?_
      exact lc_trace g x y rd hr p q pa hpa b j vo hv ch ho im i0 i1 mm hm X E hX sb L xs hsx hsb hsA hL ix hix a h T dr hd D W R P S U V t O I0 I1 M hJ K

set_option maxHeartbeats 4000000 in
set_option maxRecDepth 100000 in
theorem law_loop (g : GC) (x : Nat) (y : Nat → Nat) (rd : Nat) (hr : Nat → Nat) (p : Nat) (q : Nat → Nat) (pa : Nat) (hpa b : Nat → Nat) (j : Nat → Nat → Nat) (vo : Nat) (hv : Nat → Nat) (ch : Nat) (ho im i0 i1 : Nat → Nat) (mm : Nat) (hm : Nat → Nat) (X : XC) (E : Ob g X cL_law 4 RL) (hX : X.2.2.1 = zR 2000 600000 7302250) (sb L : Nat) (xs : Nat → Int32) (hsx : va_X sb L xs X.2.2.2.1 X.2.2.2.1.heap) (hsb : sb < X.2.2.2.1.heap.size) (hsA : ¬ X.2.2.2.2.2.2.2.2.2.1 sb) (hL : L ≤ 256) (hZT : zT X.2.2.2.2.2.2.2.2.2.1 X.2.2.2.1 X.2.2.2.1.heap) (KE : ∀ (ws : va_W) (lv : List (Nat × Value)), Z g X 4 79 1444 ws lv [] 859) : ∀ (n ix : Nat), L ≤ ix + n → ix ≤ 256 → ∀ (a : Nat) (h : Nat → Nat) (T : NS) (dr : Nat) (hd : Nat → Nat) (D : NS) (W : NS) (R : NS) (P : NS) (S : NS) (U : Nat → NS) (V : NS) (t : Nat) (O : NS) (I0 : NS) (I1 : NS) (M : NS), (cI W R T D P S U V O I0 I1 ∧ mI W R T P S U I0 I1 M) → Z g X 4 79 1444 (wTV g x y rd a dr p pa vo ch im W ++ (wRead g rd hr R ++ (wTown g a h T ++ (wTown g dr hd D ++ (wPres g p q P ++ (wPast g pa hpa b j U S ++ (wVoice g vo hv t V ++ (wOdds g ch ho O ++ (wPres g (im 0) i0 I0 ++ (wPres g (im 1) i1 I1 ++ (wMod g mm hm M))))))))))) [(0, .ref sb), (1, .ref x), (2, .ref mm), (3, .int (nI ix))] [] 18 := by
  intro n
  induction n with
  | zero =>
    intro ix h1 h2 a h T dr hd D W R P S U V t O I0 I1 M hJ
    exact lw_head g X E hX sb L xs hsx hsb hsA hL _ x mm ix h2 (fun _ => KE _ _) (fun q => absurd q (by omega))
  | succ n ih =>
    intro ix h1 h2 a h T dr hd D W R P S U V t O I0 I1 M hJ
    refine lw_head g X E hX sb L xs hsx hsb hsA hL _ x mm ix h2 (fun _ => KE _ _) (fun hix => ?_)
    refine lw_at32 g x y rd hr p q pa hpa b j vo hv ch ho im i0 i1 mm hm X E hX sb L xs hsx hsb hsA hL ix hix hZT a h T dr hd D W R P S U V t O I0 I1 M hJ ?_
    clear hJ
    clear M I1 I0 O t V U S P R W D hd dr T h a
    intro a h T dr hd D W R P S U V t O I0 I1 M hJ
    refine z_iinc (lv' := [(0, .ref sb), (1, .ref x), (2, .ref mm), (3, .int (nI (ix + 4)))]) E dL_law_853 3 rfl (inc4 ix) (by decide) rfl ?_
    refine z_goto E dL_law_856 18 (by decide) ?_
    exact ih (ix + 4) (by omega) (by omega) a h T dr hd D W R P S U V t O I0 I1 M hJ
