set_option maxHeartbeats 4000000 in
set_option maxRecDepth 100000 in
theorem l_euclid (g : GC) (x : Nat) (y : Nat) (hx : x < 2 ^ 63) (hy : y < 2 ^ 63) (X : XC) (E : Ob g X cX0_commonDivisor 11 RX0) (hX : X.2.2.1 = zR 0 0 0) (K : ∀ (l : Nat), (l = Nat.gcd x y) → Z g X 11 0 0 (([] : va_W)) [(0, .long (lN x)), (2, .long (lN y)), (4, .long (lN l))] [] 44) : ∀ (n : Nat) (i : Nat) (l : Nat) (s : Nat), (i ≤ 100) → (euI x y l s i) → (100 < i + n) → Z g X 11 0 0 (([] : va_W)) [(0, .long (lN x)), (2, .long (lN y)), (4, .long (lN l)), (6, .long (lN s)), (8, .int (nI i))] [] 9 := by
  intro n
  induction n with
  | zero =>
    intro i l s hi hI hf
    exfalso; omega
  | succ n ih =>
    intro i l s hi hI hf
    refine z_iload E dX0_commonDivisor_9 4 rfl ?_
    refine z_bipush (v := (nI 100)) E dX0_commonDivisor_11 (by decide) ?_
    refine z_icmpN_ge E dX0_commonDivisor_13 44 (by decide) (by omega) (by decide) (fun c1 => ?_) (fun c1 => ?_)
    · refine z_lv [0, 1, 2] rfl ?_; exact K l (eu_end hy hI (Or.inl ⟨c1, hi⟩))
    · refine z_lload E dX0_commonDivisor_16 3 rfl ?_
      refine z_lconst (v := (lN 0)) E dX0_commonDivisor_18 rfl ?_
      refine z_lcmp E dX0_commonDivisor_19 ?_
      refine z_ifL_eq E dX0_commonDivisor_20 44 (by decide) (hI.2.2.1) (by decide) (fun c2 => ?_) (fun c2 => ?_)
      · refine z_lv [0, 1, 2] rfl ?_; exact K l (eu_end hy hI (Or.inr c2))
      · refine z_lload E dX0_commonDivisor_23 2 rfl ?_
        refine z_lload E dX0_commonDivisor_25 3 rfl ?_
        refine z_lremN E dX0_commonDivisor_27 (hI.2.1) (by omega) (hI.2.2.1) ?_
        refine z_lstore (lv' := [(0, .long (lN x)), (2, .long (lN y)), (4, .long (lN l)), (6, .long (lN s)), (8, .int (nI i)), (9, .long (lN (l % s)))]) E dX0_commonDivisor_28 (by decide) rfl ?_
        refine z_lload E dX0_commonDivisor_30 3 rfl ?_
        refine z_lstore (lv' := [(0, .long (lN x)), (2, .long (lN y)), (4, .long (lN s)), (6, .long (lN s)), (8, .int (nI i)), (9, .long (lN (l % s)))]) E dX0_commonDivisor_32 (by decide) rfl ?_
        refine z_lload E dX0_commonDivisor_34 5 rfl ?_
        refine z_lstore (lv' := [(0, .long (lN x)), (2, .long (lN y)), (4, .long (lN s)), (6, .long (lN (l % s))), (8, .int (nI i)), (9, .long (lN (l % s)))]) E dX0_commonDivisor_36 (by decide) rfl ?_
        refine z_iincN (lv' := [(0, .long (lN x)), (2, .long (lN y)), (4, .long (lN s)), (6, .long (lN (l % s))), (8, .int (nI (i + 1))), (9, .long (lN (l % s)))]) E dX0_commonDivisor_38 4 rfl (by decide) rfl ?_
        refine z_goto E dX0_commonDivisor_41 9 (by decide) ?_
        refine z_lv [0, 1, 2, 3, 4] rfl ?_; exact ih (i + 1) s (l % s) (by omega) (eu_step hy hI c2) (by omega)

set_option maxHeartbeats 4000000 in
set_option maxRecDepth 100000 in
theorem c_X0_commonDivisor (g : GC) (x : Nat) (y : Nat) (hx : x < 2 ^ 63) (hy : y < 2 ^ 63) : Ct g yX0_commonDivisor cX0_commonDivisor 11 (some .long) 0 0 0 [.long (lN x), .long (lN y)] (([] : va_W)) (DL (lN (Nat.gcd x y)) (([] : va_W))) := by
  refine Ct.of (by decide) (Nat.le_of_ble_eq_true rfl) ?_
  intro X E Er hX _ hnm
  have E : Ob g X cX0_commonDivisor 11 RX0 := E
  refine z_lve (lv' := [(0, .long (lN x)), (2, .long (lN y))]) rfl ?_
  refine z_lload_n E dX0_commonDivisor_0 0 rfl rfl ?_
  refine z_lstore (lv' := [(0, .long (lN x)), (2, .long (lN y)), (4, .long (lN x))]) E dX0_commonDivisor_1 (by decide) rfl ?_
  refine z_lload_n E dX0_commonDivisor_3 1 rfl rfl ?_
  refine z_lstore (lv' := [(0, .long (lN x)), (2, .long (lN y)), (4, .long (lN x)), (6, .long (lN y))]) E dX0_commonDivisor_4 (by decide) rfl ?_
  refine z_iconst (v := (nI 0)) E dX0_commonDivisor_6 (by decide) ?_
  refine z_istore (lv' := [(0, .long (lN x)), (2, .long (lN y)), (4, .long (lN x)), (6, .long (lN y)), (8, .int (nI 0))]) E dX0_commonDivisor_7 (by decide) rfl ?_
  refine l_euclid g x y hx hy X E hX (fun l hl => ?_) 101 0 x y (by omega) (⟨rfl, hx, hy, fun _ => rfl, fun q => absurd q (Nat.lt_irrefl 0)⟩) (by omega)
  refine z_lload E dX0_commonDivisor_44 2 rfl ?_
  refine z_lret E Er dX0_commonDivisor_46 ?_
  exact ⟨by rw [hl], rfl⟩

set_option maxHeartbeats 4000000 in
set_option maxRecDepth 100000 in
theorem l_unit (g : GC) (e : Nat) (u : Nat → Nat) (O : NS) (hf3 : ∀ i, O.2 3 i < 4096) (X : XC) (E : Ob g X cX0_commonUnit 7 RX0) (hX : X.2.2.1 = zR 1 0 0) (K : ∀ (q : Nat), (q = cuF (O.2 3) 8) → Z g X 7 0 0 (wOdds g e u O) [(0, .ref e), (1, .long (lN q))] [] 57) : ∀ (n : Nat) (i : Nat) (q : Nat), (i ≤ 8) → (q = cuF (O.2 3) i) → (8 < i + n) → Z g X 7 0 0 (wOdds g e u O) [(0, .ref e), (1, .long (lN q)), (3, .int (nI i))] [] 4 := by
  intro n
  induction n with
  | zero =>
    intro i q hi hq hf
    have hp := pc12_le (O.2 3 i)
    have hcl := cuF_le (O.2 3) i
    have hql : q < 2 ^ 63 := by omega
    exfalso; omega
  | succ n ih =>
    intro i q hi hq hf
    have hp := pc12_le (O.2 3 i)
    have hcl := cuF_le (O.2 3) i
    have hql : q < 2 ^ 63 := by omega
    refine z_iload_n E dX0_commonUnit_4 2 rfl rfl ?_
    refine z_bipush (v := (nI 8)) E dX0_commonUnit_5 (by decide) ?_
    refine z_icmpN_ge E dX0_commonUnit_7 57 (by decide) (by omega) (by decide) (fun c1 => ?_) (fun c1 => ?_)
    · refine z_lv [0, 1] rfl ?_; exact K q (by rw [hq, show i = 8 by omega])
    · refine z_aload_n E dX0_commonUnit_10 0 rfl rfl ?_
      refine gt_X0_22 (v := .ref (u 3)) E dX0_commonUnit_11 0 rfl rfl ?_
      refine z_iload_n E dX0_commonUnit_14 2 rfl rfl ?_
      refine z_ialdN (f := (O.2 3)) E dX0_commonUnit_15 3 rfl (by omega) (by decide) ?_
      refine z_se E (rS E hX (c_J6_bitCount_0f7a4 g ((O.2 3) i) (hf3 i)) mw_J6_bitCount_0f7a4 ms_J6_bitCount_0f7a4 ml_X0_43 dX0_commonUnit_16 (Nat.le_of_ble_eq_true rfl) ⟨(Nat.le_of_ble_eq_true rfl), (Nat.le_of_ble_eq_true rfl)⟩ rfl rfl (Nat.le_of_ble_eq_true rfl)) ?_
      refine z_istore (lv' := [(0, .ref e), (1, .long (lN q)), (3, .int (nI i)), (4, .int (nI (pc12 ((O.2 3) i))))]) E dX0_commonUnit_19 (by decide) rfl ?_
      refine z_iload E dX0_commonUnit_21 3 rfl ?_
      refine z_ifN_le E dX0_commonUnit_23 51 (by decide) (by omega) (fun c2 => ?_) (fun c2 => ?_)
      · refine z_iincN (lv' := [(0, .ref e), (1, .long (lN q)), (3, .int (nI (i + 1))), (4, .int (nI (pc12 ((O.2 3) i))))]) E dX0_commonUnit_51 2 rfl (by decide) rfl ?_
        refine z_goto E dX0_commonUnit_54 4 (by decide) ?_
        refine z_lv [0, 1, 2] rfl ?_; exact ih (i + 1) q (by omega) (by rw [cuF_s, if_pos c2]; exact hq) (by omega)
      · refine z_lload_n E dX0_commonUnit_26 1 rfl rfl ?_
        refine z_iload E dX0_commonUnit_27 3 rfl ?_
        refine z_i2l (v := lN (pc12 ((O.2 3) i))) E dX0_commonUnit_29 (nI_l (by omega)) ?_
        have hg : Nat.gcd q (pc12 (O.2 3 i)) < 2 ^ 63 := Nat.lt_of_le_of_lt (Nat.gcd_le_right q (Nat.pos_of_ne_zero c2)) (by omega)
        refine z_sel E (rS E hX (c_X0_commonDivisor g q (pc12 ((O.2 3) i)) hql (by omega)) mw_X0_commonDivisor ms_X0_commonDivisor ml_X0_48 dX0_commonUnit_30 (Nat.le_of_ble_eq_true rfl) ⟨(Nat.le_of_ble_eq_true rfl), (Nat.le_of_ble_eq_true rfl)⟩ rfl rfl (Nat.le_of_ble_eq_true rfl)) ?_
        refine z_lstore (lv' := [(0, .ref e), (1, .long (lN q)), (3, .int (nI i)), (4, .int (nI (pc12 ((O.2 3) i)))), (5, .long (lN (Nat.gcd q (pc12 ((O.2 3) i)))))]) E dX0_commonUnit_33 (by decide) rfl ?_
        refine z_lload E dX0_commonUnit_35 4 rfl ?_
        refine z_lconst (v := (lN 0)) E dX0_commonUnit_37 rfl ?_
        refine z_lcmp E dX0_commonUnit_38 ?_
        refine z_ifL_le E dX0_commonUnit_39 51 (by decide) (by assumption) (by decide) (fun c3 => ?_) (fun c3 => ?_)
        · refine z_iincN (lv' := [(0, .ref e), (1, .long (lN q)), (3, .int (nI (i + 1))), (4, .int (nI (pc12 ((O.2 3) i)))), (5, .long (lN (Nat.gcd q (pc12 ((O.2 3) i)))))]) E dX0_commonUnit_51 2 rfl (by decide) rfl ?_
          refine z_goto E dX0_commonUnit_54 4 (by decide) ?_
          refine z_lv [0, 1, 2] rfl ?_; exact ih (i + 1) q (by omega) (by exfalso; have := Nat.gcd_pos_of_pos_right q (Nat.pos_of_ne_zero c2); omega) (by omega)
        · refine z_lload_n E dX0_commonUnit_42 1 rfl rfl ?_
          refine z_lload E dX0_commonUnit_43 4 rfl ?_
          refine z_ldivN E dX0_commonUnit_45 (by have := cuF_le (O.2 3) i; omega) (by omega) (by assumption) ?_
          refine z_iload E dX0_commonUnit_46 3 rfl ?_
          refine z_i2l (v := lN (pc12 ((O.2 3) i))) E dX0_commonUnit_48 (nI_l (by omega)) ?_
          refine z_lmulN E dX0_commonUnit_49 ?_
          refine z_lstore_n (lv' := [(0, .ref e), (1, .long (lN ((q / (Nat.gcd q (pc12 ((O.2 3) i)))) * (pc12 ((O.2 3) i))))), (3, .int (nI i)), (4, .int (nI (pc12 ((O.2 3) i)))), (5, .long (lN (Nat.gcd q (pc12 ((O.2 3) i)))))]) E dX0_commonUnit_50 1 rfl (by decide) rfl ?_
          refine z_iincN (lv' := [(0, .ref e), (1, .long (lN ((q / (Nat.gcd q (pc12 ((O.2 3) i)))) * (pc12 ((O.2 3) i))))), (3, .int (nI (i + 1))), (4, .int (nI (pc12 ((O.2 3) i)))), (5, .long (lN (Nat.gcd q (pc12 ((O.2 3) i)))))]) E dX0_commonUnit_51 2 rfl (by decide) rfl ?_
          refine z_goto E dX0_commonUnit_54 4 (by decide) ?_
          refine z_lv [0, 1, 2] rfl ?_; exact ih (i + 1) ((q / (Nat.gcd q (pc12 ((O.2 3) i)))) * (pc12 ((O.2 3) i))) (by omega) (by rw [cuF_s, if_neg c2, ← hq]) (by omega)

set_option maxHeartbeats 4000000 in
set_option maxRecDepth 100000 in
theorem c_X0_commonUnit (g : GC) (e : Nat) (u : Nat → Nat) (O : NS) (hf3 : ∀ i, O.2 3 i < 4096) : Ct g yX0_commonUnit cX0_commonUnit 7 (some .long) 1 0 0 [.ref e] (wOdds g e u O) (DL (lN (cuF (O.2 3) 8)) (wOdds g e u O)) := by
  refine Ct.of (by decide) (Nat.le_of_ble_eq_true rfl) ?_
  intro X E Er hX _ hnm
  have E : Ob g X cX0_commonUnit 7 RX0 := E
  refine z_lve (lv' := [(0, .ref e)]) rfl ?_
  refine z_lconst (v := (lN 1)) E dX0_commonUnit_0 rfl ?_
  refine z_lstore_n (lv' := [(0, .ref e), (1, .long (lN 1))]) E dX0_commonUnit_1 1 rfl (by decide) rfl ?_
  refine z_iconst (v := (nI 0)) E dX0_commonUnit_2 (by decide) ?_
  refine z_istore_n (lv' := [(0, .ref e), (1, .long (lN 1)), (3, .int (nI 0))]) E dX0_commonUnit_3 3 rfl (by decide) rfl ?_
  refine l_unit g e u O hf3 X E hX (fun q hq => ?_) 9 0 1 (by omega) rfl (by omega)
  refine z_lload_n E dX0_commonUnit_57 1 rfl rfl ?_
  refine z_lret E Er dX0_commonUnit_58 ?_
  exact ⟨by rw [hq], rfl⟩

set_option maxHeartbeats 4000000 in
set_option maxRecDepth 100000 in
theorem l_spread (g : GC) (e : Nat) (u : Nat → Nat) (O : NS) (a : Nat) (h : Nat → Nat) (T : NS) (p : Nat) (x : Nat) (hsT : sm T) (hR : T.1 1 ≤ 12) (hp : p < 8) (hf3 : ∀ i, O.2 3 i < 4096) (h8 : ∀ r, r < T.1 1 → otherT T r p < 8) (X : XC) (E : Ob g X cX0_spread 6 RX0) (hX : X.2.2.1 = zR 1 0 0) (K : ∀ (f : Nat → Nat), (f = spr T (O.2 3 p) p x (O.2 2) (T.1 1)) → Z g X 6 0 0 (wOdds g e u (sA O 2 f) ++ (wTown g a h T)) [(0, .ref e), (1, .ref a), (2, .int (nI p)), (3, .long (lN x))] [] 48) : ∀ (n : Nat) (i : Nat) (f : Nat → Nat), (i ≤ T.1 1) → (f = spr T (O.2 3 p) p x (O.2 2) i) → (T.1 1 < i + n) → Z g X 6 0 0 (wOdds g e u (sA O 2 f) ++ (wTown g a h T)) [(0, .ref e), (1, .ref a), (2, .int (nI p)), (3, .long (lN x)), (5, .int (nI i))] [] 3 := by
  intro n
  induction n with
  | zero =>
    intro i f hi hf0 hf
    exfalso; omega
  | succ n ih =>
    intro i f hi hf0 hf
    refine z_iload E dX0_spread_3 4 rfl ?_
    refine z_aload_n E dX0_spread_5 1 rfl rfl ?_
    refine gt_X0_62 (v := .int (nI (T.1 1))) E dX0_spread_6 4 rfl rfl ?_
    refine z_icmpN_ge E dX0_spread_9 48 (by decide) (by omega) (hsT.1 _) (fun c1 => ?_) (fun c1 => ?_)
    · refine z_lv [0, 1, 2, 3] rfl ?_; exact K f (by rw [hf0, show i = T.1 1 by omega])
    · refine z_aload_n E dX0_spread_12 0 rfl rfl ?_
      refine gt_X0_22 (v := .ref (u 3)) E dX0_spread_13 0 rfl rfl ?_
      refine z_iload_n E dX0_spread_16 2 rfl rfl ?_
      refine z_ialdN (f := (O.2 3)) E dX0_spread_17 3 rfl (by omega) (by decide) ?_
      refine z_iload E dX0_spread_18 4 rfl ?_
      refine z_se E (rSN E hX (c_X6_has g ((O.2 3) p) i (Nat.lt_trans (hf3 p) (by decide)) (by omega)) mw_X6_has ms_X6_has mn_X0_65 dX0_spread_20 (Nat.le_of_ble_eq_true rfl) ⟨(Nat.le_of_ble_eq_true rfl), (Nat.le_of_ble_eq_true rfl)⟩ rfl rfl (Nat.le_of_ble_eq_true rfl)) ?_
      refine z_ifB_eq E dX0_spread_23 42 (by decide) (fun c2 => ?_) (fun c2 => ?_)
      · refine z_iincN (lv' := [(0, .ref e), (1, .ref a), (2, .int (nI p)), (3, .long (lN x)), (5, .int (nI (i + 1)))]) E dX0_spread_42 4 rfl (by decide) rfl ?_
        refine z_goto E dX0_spread_45 3 (by decide) ?_
        exact ih (i + 1) f (by omega) (by rw [show spr T (O.2 3 p) p x (O.2 2) (i + 1) = if (O.2 3 p).testBit i = true then va_up (spr T (O.2 3 p) p x (O.2 2) i) (otherT T i p) (spr T (O.2 3 p) p x (O.2 2) i (otherT T i p) + x) else spr T (O.2 3 p) p x (O.2 2) i from rfl, if_neg (by rw [c2]; decide), ← hf0]) (by omega)
      · refine z_aload_n E dX0_spread_26 0 rfl rfl ?_
        refine gt_X0_19 (v := .ref (u 2)) E dX0_spread_27 0 rfl rfl ?_
        refine z_aload_n E dX0_spread_30 1 rfl rfl ?_
        refine z_iload E dX0_spread_31 4 rfl ?_
        refine z_iload_n E dX0_spread_33 2 rfl rfl ?_
        refine z_ro E (rV E hX (c_X4_otherEnd g a h T i p hsT (by omega) (by omega)) mw_X4_otherEnd ml_X0_69 dX0_spread_34 (Nat.le_of_ble_eq_true rfl) ⟨(Nat.le_of_ble_eq_true rfl), (Nat.le_of_ble_eq_true rfl)⟩ rfl rfl (Nat.le_of_ble_eq_true rfl) 0 rfl rfl) [4, 5, 6, 7, 8] rfl (by decide) ?_
        refine z_dup2 E dX0_spread_37 rfl rfl ?_
        refine z_laldN (f := f) E dX0_spread_38 2 rfl (h8 i (by omega)) (by decide) ?_
        refine z_lload_n E dX0_spread_39 3 rfl rfl ?_
        refine z_laddN E dX0_spread_40 ?_
        refine z_lastN (f := f) (i := (otherT T i p)) (x := ((f (otherT T i p)) + x)) (ws' := wOdds g e u (sA O 2 (va_up f (otherT T i p) ((f (otherT T i p)) + x))) ++ (wTown g a h T)) E dX0_spread_41 2 rfl (h8 i (by omega)) (by decide) rfl ?_
        refine z_iincN (lv' := [(0, .ref e), (1, .ref a), (2, .int (nI p)), (3, .long (lN x)), (5, .int (nI (i + 1)))]) E dX0_spread_42 4 rfl (by decide) rfl ?_
        refine z_goto E dX0_spread_45 3 (by decide) ?_
        exact ih (i + 1) (va_up f (otherT T i p) ((f (otherT T i p)) + x)) (by omega) (by rw [show spr T (O.2 3 p) p x (O.2 2) (i + 1) = if (O.2 3 p).testBit i = true then va_up (spr T (O.2 3 p) p x (O.2 2) i) (otherT T i p) (spr T (O.2 3 p) p x (O.2 2) i (otherT T i p) + x) else spr T (O.2 3 p) p x (O.2 2) i from rfl, if_pos c2, ← hf0]) (by omega)

set_option maxHeartbeats 4000000 in
set_option maxRecDepth 100000 in
theorem c_X0_spread (g : GC) (e : Nat) (u : Nat → Nat) (O : NS) (a : Nat) (h : Nat → Nat) (T : NS) (p : Nat) (x : Nat) (hsT : sm T) (hR : T.1 1 ≤ 12) (hp : p < 8) (hf3 : ∀ i, O.2 3 i < 4096) (h8 : ∀ r, r < T.1 1 → otherT T r p < 8) : Ct g yX0_spread cX0_spread 6 none 1 0 0 [.ref e, .ref a, .int (nI p), .long (lN x)] (wOdds g e u O ++ (wTown g a h T)) (DV (wOdds g e u (sA O 2 (spr T (O.2 3 p) p x (O.2 2) (T.1 1))) ++ (wTown g a h T))) := by
  refine Ct.of (by decide) (Nat.le_of_ble_eq_true rfl) ?_
  intro X E Er hX _ hnm
  have E : Ob g X cX0_spread 6 RX0 := E
  refine z_lve (lv' := [(0, .ref e), (1, .ref a), (2, .int (nI p)), (3, .long (lN x))]) rfl ?_
  refine z_iconst (v := (nI 0)) E dX0_spread_0 (by decide) ?_
  refine z_istore (lv' := [(0, .ref e), (1, .ref a), (2, .int (nI p)), (3, .long (lN x)), (5, .int (nI 0))]) E dX0_spread_1 (by decide) rfl ?_
  refine l_spread g e u O a h T p x hsT hR hp hf3 h8 X E hX (fun f hf0 => ?_) (T.1 1 + 1) 0 (O.2 2) (by omega) rfl (by omega)
  refine z_vret E Er dX0_spread_48 ?_
  exact ⟨rfl, by rw [hf0]⟩

set_option maxHeartbeats 4000000 in
set_option maxRecDepth 100000 in
theorem l_any1 (g : GC) (e : Nat) (u : Nat → Nat) (O : NS) (a : Nat) (h : Nat → Nat) (T : NS) (x : Nat) (hsT : sm T) (hR : T.1 1 ≤ 12) (hf3 : ∀ i, O.2 3 i < 4096) (h8 : ∀ p r, r < T.1 1 → otherT T r p < 8) (hx : x < 2 ^ 63) (X : XC) (E : Ob g X cX0_takeAnyRoad 6 RX0) (hX : X.2.2.1 = zR 2 0 0) (K : ∀ (f : Nat → Nat), (∀ j, j < 8 → f j = 0) → Z g X 6 0 0 (wOdds g e u (sA O 2 f) ++ (wTown g a h T)) [(0, .ref e), (1, .ref a), (2, .long (lN x))] [] 24) : ∀ (n : Nat) (i : Nat) (f : Nat → Nat), (i ≤ 8) → (∀ j, j < i → f j = 0) → (8 < i + n) → Z g X 6 0 0 (wOdds g e u (sA O 2 f) ++ (wTown g a h T)) [(0, .ref e), (1, .ref a), (2, .long (lN x)), (4, .int (nI i))] [] 3 := by
  intro n
  induction n with
  | zero =>
    intro i f hi hf0 hf
    exfalso; omega
  | succ n ih =>
    intro i f hi hf0 hf
    refine z_iload E dX0_takeAnyRoad_3 3 rfl ?_
    refine z_bipush (v := (nI 8)) E dX0_takeAnyRoad_5 (by decide) ?_
    refine z_icmpN_ge E dX0_takeAnyRoad_7 24 (by decide) (by omega) (by decide) (fun c1 => ?_) (fun c1 => ?_)
    · refine z_lv [0, 1, 2] rfl ?_; exact K f (fun j hj => hf0 j (by omega))
    · refine z_aload_n E dX0_takeAnyRoad_10 0 rfl rfl ?_
      refine gt_X0_19 (v := .ref (u 2)) E dX0_takeAnyRoad_11 0 rfl rfl ?_
      refine z_iload E dX0_takeAnyRoad_14 3 rfl ?_
      refine z_lconst (v := (lN 0)) E dX0_takeAnyRoad_16 rfl ?_
      refine z_lastN (f := f) (i := i) (x := 0) (ws' := wOdds g e u (sA O 2 (va_up f i 0)) ++ (wTown g a h T)) E dX0_takeAnyRoad_17 2 rfl (by omega) (by decide) rfl ?_
      refine z_iincN (lv' := [(0, .ref e), (1, .ref a), (2, .long (lN x)), (4, .int (nI (i + 1)))]) E dX0_takeAnyRoad_18 3 rfl (by decide) rfl ?_
      refine z_goto E dX0_takeAnyRoad_21 3 (by decide) ?_
      exact ih (i + 1) (va_up f i 0) (by omega) (fun j hj => by unfold va_up; split; rfl; exact hf0 j (by omega)) (by omega)

set_option maxHeartbeats 4000000 in
set_option maxRecDepth 100000 in
theorem l_any2 (g : GC) (e : Nat) (u : Nat → Nat) (O : NS) (a : Nat) (h : Nat → Nat) (T : NS) (x : Nat) (hsT : sm T) (hR : T.1 1 ≤ 12) (hf3 : ∀ i, O.2 3 i < 4096) (h8 : ∀ p r, r < T.1 1 → otherT T r p < 8) (hx : x < 2 ^ 63) (X : XC) (E : Ob g X cX0_takeAnyRoad 6 RX0) (hX : X.2.2.1 = zR 2 0 0) (K : ∀ (f : Nat → Nat), (f = tar T (O.2 3) (O.2 1) x 8) → Z g X 6 0 0 (wOdds g e u (sA O 2 f) ++ (wTown g a h T)) [(0, .ref e), (1, .ref a), (2, .long (lN x))] [] 99) : ∀ (n : Nat) (i : Nat) (f : Nat → Nat), (i ≤ 8) → (f = tar T (O.2 3) (O.2 1) x i) → (8 < i + n) → Z g X 6 0 0 (wOdds g e u (sA O 2 f) ++ (wTown g a h T)) [(0, .ref e), (1, .ref a), (2, .long (lN x)), (4, .int (nI i))] [] 27 := by
  intro n
  induction n with
  | zero =>
    intro i f hi hf0 hf
    have hp := pc12_le (O.2 3 i)
    exfalso; omega
  | succ n ih =>
    intro i f hi hf0 hf
    have hp := pc12_le (O.2 3 i)
    refine z_iload E dX0_takeAnyRoad_27 3 rfl ?_
    refine z_bipush (v := (nI 8)) E dX0_takeAnyRoad_29 (by decide) ?_
    refine z_icmpN_ge E dX0_takeAnyRoad_31 99 (by decide) (by omega) (by decide) (fun c1 => ?_) (fun c1 => ?_)
    · refine z_lv [0, 1, 2] rfl ?_; exact K f (by rw [hf0, show i = 8 by omega])
    · refine z_aload_n E dX0_takeAnyRoad_34 0 rfl rfl ?_
      refine gt_X0_22 (v := .ref (u 3)) E dX0_takeAnyRoad_35 0 rfl rfl ?_
      refine z_iload E dX0_takeAnyRoad_38 3 rfl ?_
      refine z_ialdN (f := (O.2 3)) E dX0_takeAnyRoad_40 3 rfl (by omega) (by decide) ?_
      refine z_se E (rS E hX (c_J6_bitCount_0f7a4 g ((O.2 3) i) (hf3 i)) mw_J6_bitCount_0f7a4 ms_J6_bitCount_0f7a4 ml_X0_43 dX0_takeAnyRoad_41 (Nat.le_of_ble_eq_true rfl) ⟨(Nat.le_of_ble_eq_true rfl), (Nat.le_of_ble_eq_true rfl)⟩ rfl rfl (Nat.le_of_ble_eq_true rfl)) ?_
      refine z_istore (lv' := [(0, .ref e), (1, .ref a), (2, .long (lN x)), (4, .int (nI i)), (5, .int (nI (pc12 ((O.2 3) i))))]) E dX0_takeAnyRoad_44 (by decide) rfl ?_
      refine z_iload E dX0_takeAnyRoad_46 4 rfl ?_
      refine z_ifN_ne E dX0_takeAnyRoad_48 73 (by decide) (by omega) (fun c2 => ?_) (fun c2 => ?_)
      · refine z_aload_n E dX0_takeAnyRoad_73 0 rfl rfl ?_
        refine z_aload_n E dX0_takeAnyRoad_74 1 rfl rfl ?_
        refine z_iload E dX0_takeAnyRoad_75 3 rfl ?_
        refine z_aload_n E dX0_takeAnyRoad_77 0 rfl rfl ?_
        refine gt_X0_15 (v := .ref (u 1)) E dX0_takeAnyRoad_78 0 rfl rfl ?_
        refine z_iload E dX0_takeAnyRoad_81 3 rfl ?_
        refine z_laldN (f := (O.2 1)) E dX0_takeAnyRoad_83 1 rfl (by omega) (by decide) ?_
        refine z_lload_n E dX0_takeAnyRoad_84 2 rfl rfl ?_
        refine z_iload E dX0_takeAnyRoad_85 4 rfl ?_
        refine z_i2l (v := lN (pc12 ((O.2 3) i))) E dX0_takeAnyRoad_87 (nI_l (by omega)) ?_
        refine z_ldivN E dX0_takeAnyRoad_88 (hx) (by omega) (by omega) ?_
        refine z_lmulN E dX0_takeAnyRoad_89 ?_
        refine z_rwv0 (w2 := wOdds g e u (sA O 2 (spr T (O.2 3 i) i (O.2 1 i * (x / pc12 (O.2 3 i))) f (T.1 1))) ++ (wTown g a h T)) E (rV E hX (c_X0_spread g e u (sA O 2 f) a h T i (((O.2 1) i) * (x / (pc12 ((O.2 3) i)))) hsT (by omega) (by omega) hf3 (h8 i)) mw_X0_spread ml_X0_52 dX0_takeAnyRoad_90 (Nat.le_of_ble_eq_true rfl) ⟨(Nat.le_of_ble_eq_true rfl), (Nat.le_of_ble_eq_true rfl)⟩ rfl rfl (Nat.le_of_ble_eq_true rfl) 0 rfl rfl) rfl ?_
        refine z_iincN (lv' := [(0, .ref e), (1, .ref a), (2, .long (lN x)), (4, .int (nI (i + 1))), (5, .int (nI (pc12 ((O.2 3) i))))]) E dX0_takeAnyRoad_93 3 rfl (by decide) rfl ?_
        refine z_goto E dX0_takeAnyRoad_96 27 (by decide) ?_
        refine z_lv [0, 1, 2, 3] rfl ?_; exact ih (i + 1) (spr T (O.2 3 i) i (O.2 1 i * (x / pc12 (O.2 3 i))) f (T.1 1)) (by omega) (by rw [show tar T (O.2 3) (O.2 1) x (i + 1) = if pc12 (O.2 3 i) = 0 then va_up (tar T (O.2 3) (O.2 1) x i) i (tar T (O.2 3) (O.2 1) x i i + O.2 1 i * x) else spr T (O.2 3 i) i (O.2 1 i * (x / pc12 (O.2 3 i))) (tar T (O.2 3) (O.2 1) x i) (T.1 1) from rfl, if_neg c2, ← hf0]) (by omega)
      · refine z_aload_n E dX0_takeAnyRoad_51 0 rfl rfl ?_
        refine gt_X0_19 (v := .ref (u 2)) E dX0_takeAnyRoad_52 0 rfl rfl ?_
        refine z_iload E dX0_takeAnyRoad_55 3 rfl ?_
        refine z_dup2 E dX0_takeAnyRoad_57 rfl rfl ?_
        refine z_laldN (f := f) E dX0_takeAnyRoad_58 2 rfl (by omega) (by decide) ?_
        refine z_aload_n E dX0_takeAnyRoad_59 0 rfl rfl ?_
        refine gt_X0_15 (v := .ref (u 1)) E dX0_takeAnyRoad_60 0 rfl rfl ?_
        refine z_iload E dX0_takeAnyRoad_63 3 rfl ?_
        refine z_laldN (f := (O.2 1)) E dX0_takeAnyRoad_65 1 rfl (by omega) (by decide) ?_
        refine z_lload_n E dX0_takeAnyRoad_66 2 rfl rfl ?_
        refine z_lmulN E dX0_takeAnyRoad_67 ?_
        refine z_laddN E dX0_takeAnyRoad_68 ?_
        refine z_lastN (f := f) (i := i) (x := ((f i) + (((O.2 1) i) * x))) (ws' := wOdds g e u (sA O 2 (va_up f i ((f i) + (((O.2 1) i) * x)))) ++ (wTown g a h T)) E dX0_takeAnyRoad_69 2 rfl (by omega) (by decide) rfl ?_
        refine z_goto E dX0_takeAnyRoad_70 93 (by decide) ?_
        refine z_iincN (lv' := [(0, .ref e), (1, .ref a), (2, .long (lN x)), (4, .int (nI (i + 1))), (5, .int (nI (pc12 ((O.2 3) i))))]) E dX0_takeAnyRoad_93 3 rfl (by decide) rfl ?_
        refine z_goto E dX0_takeAnyRoad_96 27 (by decide) ?_
        refine z_lv [0, 1, 2, 3] rfl ?_; exact ih (i + 1) (va_up f i ((f i) + (((O.2 1) i) * x))) (by omega) (by rw [show tar T (O.2 3) (O.2 1) x (i + 1) = if pc12 (O.2 3 i) = 0 then va_up (tar T (O.2 3) (O.2 1) x i) i (tar T (O.2 3) (O.2 1) x i i + O.2 1 i * x) else spr T (O.2 3 i) i (O.2 1 i * (x / pc12 (O.2 3 i))) (tar T (O.2 3) (O.2 1) x i) (T.1 1) from rfl, if_pos c2, ← hf0]) (by omega)

set_option maxHeartbeats 4000000 in
set_option maxRecDepth 100000 in
theorem c_X0_takeAnyRoad (g : GC) (e : Nat) (u : Nat → Nat) (O : NS) (a : Nat) (h : Nat → Nat) (T : NS) (x : Nat) (hsT : sm T) (hR : T.1 1 ≤ 12) (hf3 : ∀ i, O.2 3 i < 4096) (h8 : ∀ p r, r < T.1 1 → otherT T r p < 8) (hx : x < 2 ^ 63) : Ct g yX0_takeAnyRoad cX0_takeAnyRoad 6 none 2 0 0 [.ref e, .ref a, .long (lN x)] (wOdds g e u O ++ (wTown g a h T)) (QV (fun w_ => ∃ O2 : NS, w_ = wOdds g e u O2 ++ (wTown g a h T) ∧ (∃ f, O2 = sA (sA O 1 (tar T (O.2 3) (O.2 1) x 8)) 2 f))) := by
  refine Ct.of (by decide) (Nat.le_of_ble_eq_true rfl) ?_
  intro X E Er hX _ hnm
  have E : Ob g X cX0_takeAnyRoad 6 RX0 := E
  refine z_lve (lv' := [(0, .ref e), (1, .ref a), (2, .long (lN x))]) rfl ?_
  refine z_iconst (v := (nI 0)) E dX0_takeAnyRoad_0 (by decide) ?_
  refine z_istore (lv' := [(0, .ref e), (1, .ref a), (2, .long (lN x)), (4, .int (nI 0))]) E dX0_takeAnyRoad_1 (by decide) rfl ?_
  refine l_any1 g e u O a h T x hsT hR hf3 h8 hx X E hX (fun f hf0 => ?_) 9 0 (O.2 2) (by omega) (fun j hj => absurd hj (Nat.not_lt_zero j)) (by omega)
  refine z_arrJ (f := f) (f' := (fun _ => 0)) (ws' := wOdds g e u (sA O 2 (fun _ => 0)) ++ (wTown g a h T)) 2 rfl (hf0) rfl ?_
  refine z_iconst (v := (nI 0)) E dX0_takeAnyRoad_24 (by decide) ?_
  refine z_istore (lv' := [(0, .ref e), (1, .ref a), (2, .long (lN x)), (4, .int (nI 0))]) E dX0_takeAnyRoad_25 (by decide) rfl ?_
  refine l_any2 g e u O a h T x hsT hR hf3 h8 hx X E hX (fun f hf0 => ?_) 9 0 (fun _ => 0) (by omega) rfl (by omega)
  refine z_aload_n E dX0_takeAnyRoad_99 0 rfl rfl ?_
  refine gt_X0_19 (v := .ref (u 2)) E dX0_takeAnyRoad_100 0 rfl rfl ?_
  refine z_iconst (v := (nI 0)) E dX0_takeAnyRoad_103 (by decide) ?_
  refine z_aload_n E dX0_takeAnyRoad_104 0 rfl rfl ?_
  refine gt_X0_15 (v := .ref (u 1)) E dX0_takeAnyRoad_105 0 rfl rfl ?_
  refine z_iconst (v := (nI 0)) E dX0_takeAnyRoad_108 (by decide) ?_
  refine z_bipush (v := (nI 8)) E dX0_takeAnyRoad_109 (by decide) ?_
  refine z_copyJ (f := f) (h := (O.2 1)) (ws' := wOdds g e u (sA (sA O 1 (va_cpy f (O.2 1) 0 0 8)) 2 f) ++ (wTown g a h T)) E hX dX0_takeAnyRoad_111 ml_X0_56 ac_words (Nat.le_of_ble_eq_true rfl) (Nat.le_of_ble_eq_true rfl) 2 1 rfl rfl (by decide) (by decide) (by decide) (by decide) rfl ?_
  refine z_arrJ (f := (va_cpy f (O.2 1) 0 0 8)) (f' := (tar T (O.2 3) (O.2 1) x 8)) (ws' := wOdds g e u (sA (sA O 1 (tar T (O.2 3) (O.2 1) x 8)) 2 f) ++ (wTown g a h T)) 1 rfl (fun j hj => by rw [cpy_all hj, hf0]) rfl ?_
  refine z_vret E Er dX0_takeAnyRoad_114 ?_
  exact ⟨rfl, _, rfl, f, rfl⟩

set_option maxHeartbeats 4000000 in
set_option maxRecDepth 100000 in
theorem c_X0_inLeastTerms (g : GC) (e : Nat) (u : Nat → Nat) (O : NS) (x : Nat) (p : Nat) (hx : x < 2 ^ 63) (hp : p < 8) (hw0 : 0 < O.1 0) (hw : O.1 0 < 2 ^ 63) (hq : O.2 1 p < 2 ^ 63) : Ct g yX0_inLeastTerms cX0_inLeastTerms 6 (some .long) 1 0 0 [.ref e, .long (lN x), .int (nI p)] (wOdds g e u O) (DL (lN (x / Nat.gcd (O.1 0) (O.2 1 p))) (wOdds g e u O)) := by
  refine Ct.of (by decide) (Nat.le_of_ble_eq_true rfl) ?_
  intro X E Er hX _ hnm
  have E : Ob g X cX0_inLeastTerms 6 RX0 := E
  refine z_lve (lv' := [(0, .ref e), (1, .long (lN x)), (3, .int (nI p))]) rfl ?_
  refine z_aload_n E dX0_inLeastTerms_0 0 rfl rfl ?_
  refine gt_X0_9 (v := .long (lN (O.1 0))) E dX0_inLeastTerms_1 0 rfl rfl ?_
  refine z_aload_n E dX0_inLeastTerms_4 0 rfl rfl ?_
  refine gt_X0_15 (v := .ref (u 1)) E dX0_inLeastTerms_5 0 rfl rfl ?_
  refine z_iload_n E dX0_inLeastTerms_8 2 rfl rfl ?_
  refine z_laldN (f := (O.2 1)) E dX0_inLeastTerms_9 1 rfl (by omega) (by decide) ?_
  have hg0 := Nat.gcd_pos_of_pos_left (O.2 1 p) hw0
  have hg : Nat.gcd (O.1 0) (O.2 1 p) < 2 ^ 63 := Nat.lt_of_le_of_lt (Nat.gcd_le_left _ hw0) hw
  refine z_sel E (rS E hX (c_X0_commonDivisor g (O.1 0) ((O.2 1) p) (by omega) (by omega)) mw_X0_commonDivisor ms_X0_commonDivisor ml_X0_48 dX0_inLeastTerms_10 (Nat.le_of_ble_eq_true rfl) ⟨(Nat.le_of_ble_eq_true rfl), (Nat.le_of_ble_eq_true rfl)⟩ rfl rfl (Nat.le_of_ble_eq_true rfl)) ?_
  refine z_lstore (lv' := [(0, .ref e), (1, .long (lN x)), (3, .int (nI p)), (4, .long (lN (Nat.gcd (O.1 0) ((O.2 1) p))))]) E dX0_inLeastTerms_13 (by decide) rfl ?_
  refine z_lload E dX0_inLeastTerms_15 3 rfl ?_
  refine z_lconst (v := (lN 0)) E dX0_inLeastTerms_17 rfl ?_
  refine z_lcmp E dX0_inLeastTerms_18 ?_
  refine z_ifL_le E dX0_inLeastTerms_19 29 (by decide) (by assumption) (by decide) (fun c1 => ?_) (fun c1 => ?_)
  · refine z_lload_n E dX0_inLeastTerms_29 1 rfl rfl ?_
    refine z_lret E Er dX0_inLeastTerms_30 ?_
    exfalso; omega
  · refine z_lload_n E dX0_inLeastTerms_22 1 rfl rfl ?_
    refine z_lload E dX0_inLeastTerms_23 3 rfl ?_
    refine z_ldivN E dX0_inLeastTerms_25 (by omega) (by omega) (by assumption) ?_
    refine z_goto E dX0_inLeastTerms_26 30 (by decide) ?_
    refine z_lret E Er dX0_inLeastTerms_30 ?_
    exact ⟨rfl, rfl⟩

set_option maxHeartbeats 4000000 in
set_option maxRecDepth 100000 in
theorem c_X0_upper (g : GC) (e : Nat) (u : Nat → Nat) (O : NS) (p : Nat) (hp : p < 8) (hw0 : 0 < O.1 0) (hw : O.1 0 < 2 ^ 63) (hq : O.2 1 p < 2 ^ 63) : Ct g yX0_upper cX0_upper 2 (some .long) 2 0 0 [.ref e, .int (nI p)] (wOdds g e u O) (DL (lN (O.2 1 p / Nat.gcd (O.1 0) (O.2 1 p))) (wOdds g e u O)) := by
  refine Ct.of (by decide) (Nat.le_of_ble_eq_true rfl) ?_
  intro X E Er hX _ hnm
  have E : Ob g X cX0_upper 2 RX0 := E
  refine z_lve (lv' := [(0, .ref e), (1, .int (nI p))]) rfl ?_
  refine z_aload_n E dX0_upper_0 0 rfl rfl ?_
  refine z_aload_n E dX0_upper_1 0 rfl rfl ?_
  refine gt_X0_15 (v := .ref (u 1)) E dX0_upper_2 0 rfl rfl ?_
  refine z_iload_n E dX0_upper_5 1 rfl rfl ?_
  refine z_laldN (f := (O.2 1)) E dX0_upper_6 1 rfl (by omega) (by decide) ?_
  refine z_iload_n E dX0_upper_7 1 rfl rfl ?_
  refine z_rol E (rV E hX (c_X0_inLeastTerms g e u O ((O.2 1) p) p (by omega) (by omega) (by omega) (by omega) (by omega)) mw_X0_inLeastTerms ml_X0_73 dX0_upper_8 (Nat.le_of_ble_eq_true rfl) ⟨(Nat.le_of_ble_eq_true rfl), (Nat.le_of_ble_eq_true rfl)⟩ rfl rfl (Nat.le_of_ble_eq_true rfl) 0 rfl rfl) [0, 1, 2, 3] rfl (by decide) ?_
  refine z_lret E Er dX0_upper_11 ?_
  exact ⟨by simp [], rfl⟩

set_option maxHeartbeats 4000000 in
set_option maxRecDepth 100000 in
theorem c_X0_lower (g : GC) (e : Nat) (u : Nat → Nat) (O : NS) (p : Nat) (hp : p < 8) (hw0 : 0 < O.1 0) (hw : O.1 0 < 2 ^ 63) (hq : O.2 1 p < 2 ^ 63) : Ct g yX0_lower cX0_lower 2 (some .long) 2 0 0 [.ref e, .int (nI p)] (wOdds g e u O) (DL (lN (O.1 0 / Nat.gcd (O.1 0) (O.2 1 p))) (wOdds g e u O)) := by
  refine Ct.of (by decide) (Nat.le_of_ble_eq_true rfl) ?_
  intro X E Er hX _ hnm
  have E : Ob g X cX0_lower 2 RX0 := E
  refine z_lve (lv' := [(0, .ref e), (1, .int (nI p))]) rfl ?_
  refine z_aload_n E dX0_lower_0 0 rfl rfl ?_
  refine z_aload_n E dX0_lower_1 0 rfl rfl ?_
  refine gt_X0_9 (v := .long (lN (O.1 0))) E dX0_lower_2 0 rfl rfl ?_
  refine z_iload_n E dX0_lower_5 1 rfl rfl ?_
  refine z_rol E (rV E hX (c_X0_inLeastTerms g e u O (O.1 0) p (by omega) (by omega) (by omega) (by omega) (by omega)) mw_X0_inLeastTerms ml_X0_73 dX0_lower_6 (Nat.le_of_ble_eq_true rfl) ⟨(Nat.le_of_ble_eq_true rfl), (Nat.le_of_ble_eq_true rfl)⟩ rfl rfl (Nat.le_of_ble_eq_true rfl) 0 rfl rfl) [0, 1, 2, 3] rfl (by decide) ?_
  refine z_lret E Er dX0_lower_9 ?_
  exact ⟨by simp [], rfl⟩

def opAt (T : NS) (o : Nat) : Nat → Nat := fun k => if k < T.1 0 then rAt T k (T.1 1) &&& o else 0
theorem rAt_lt (T : NS) (p : Nat) : ∀ i, rAt T p i < 2 ^ i
  | 0 => by show (0 : Nat) < 2 ^ 0; decide
  | i + 1 => by
    have h1 := rAt_lt T p i
    unfold rAt
    split
    · refine Nat.or_lt_two_pow (Nat.lt_trans h1 (Nat.pow_lt_pow_right (by decide) (Nat.lt_succ_self i))) ?_
      rw [Nat.one_shiftLeft]
      exact Nat.pow_lt_pow_right (by decide) (Nat.lt_succ_self i)
    · exact Nat.lt_trans h1 (Nat.pow_lt_pow_right (by decide) (Nat.lt_succ_self i))
theorem opAt_lt (T : NS) (o k : Nat) : opAt T o k < 2 ^ T.1 1 := by
  unfold opAt
  split
  · exact Nat.lt_of_le_of_lt Nat.and_le_left (rAt_lt T k _)
  · exact Nat.two_pow_pos _

set_option maxHeartbeats 4000000 in
set_option maxRecDepth 100000 in
theorem l_drive1 (g : GC) (e : Nat) (u : Nat → Nat) (O : NS) (a : Nat) (h : Nat → Nat) (T : NS) (w : Nat) (z : Nat) (y : Nat) (hsT : sm T) (hR : T.1 1 ≤ 12) (hf3 : ∀ i, O.2 3 i < 4096) (h8 : ∀ p r, r < T.1 1 → otherT T r p < 8) (hz : z < 8) (hy : y ≤ 4) (hw : w < 4096) (X : XC) (E : Ob g X cX0_drive 8 RX0) (hX : X.2.2.1 = zR 3 0 0) (K : ∀ (f : Nat → Nat) (q : Nat → Nat), (∀ j, j < 8 → f j = opAt T w j) → (∀ j, j < 8 → q j = if j = z then 1 else 0) → (∀ j, f j < 4096) → Z g X 8 0 0 (wOdds g e u (sA (sA O 1 q) 3 f) ++ (wTown g a h T)) [(0, .ref e), (1, .ref a), (2, .int (nI w)), (3, .int (nI z)), (4, .int (nI y))] [] 62) : ∀ (n : Nat) (i : Nat) (f : Nat → Nat) (q : Nat → Nat), (i ≤ 8) → (∀ j, j < i → f j = opAt T w j) → (∀ j, j < i → q j = if j = z then 1 else 0) → (∀ j, f j < 4096) → (8 < i + n) → Z g X 8 0 0 (wOdds g e u (sA (sA O 1 q) 3 f) ++ (wTown g a h T)) [(0, .ref e), (1, .ref a), (2, .int (nI w)), (3, .int (nI z)), (4, .int (nI y)), (5, .int (nI i))] [] 3 := by
  intro n
  induction n with
  | zero =>
    intro i f q hi hf0 hq0 hf4 hf
    have hand : rAt T i (T.1 1) &&& w < 4096 := Nat.lt_of_le_of_lt Nat.and_le_right hw
    exfalso; omega
  | succ n ih =>
    intro i f q hi hf0 hq0 hf4 hf
    have hand : rAt T i (T.1 1) &&& w < 4096 := Nat.lt_of_le_of_lt Nat.and_le_right hw
    refine z_iload E dX0_drive_3 5 rfl ?_
    refine z_bipush (v := (nI 8)) E dX0_drive_5 (by decide) ?_
    refine z_icmpN_ge E dX0_drive_7 62 (by decide) (by omega) (by decide) (fun c1 => ?_) (fun c1 => ?_)
    · refine z_lv [0, 1, 2, 3, 4] rfl ?_; exact K f q (fun j hj => hf0 j (by omega)) (fun j hj => hq0 j (by omega)) hf4
    · refine z_aload_n E dX0_drive_10 0 rfl rfl ?_
      refine gt_X0_22 (v := .ref (u 3)) E dX0_drive_11 0 rfl rfl ?_
      refine z_iload E dX0_drive_14 5 rfl ?_
      refine z_iload E dX0_drive_16 5 rfl ?_
      refine z_aload_n E dX0_drive_18 1 rfl rfl ?_
      refine gt_X0_26 (v := .int (nI (T.1 0))) E dX0_drive_19 4 rfl rfl ?_
      refine z_icmpN_ge E dX0_drive_22 36 (by decide) (by omega) (hsT.1 _) (fun c2 => ?_) (fun c2 => ?_)
      · refine z_iconst (v := (nI 0)) E dX0_drive_36 (by decide) ?_
        refine z_iastN (f := f) (i := i) (x := 0) (ws' := wOdds g e u (sA (sA O 1 q) 3 (va_up f i 0)) ++ (wTown g a h T)) E dX0_drive_37 3 rfl (by omega) (by decide) rfl ?_
        refine z_aload_n E dX0_drive_38 0 rfl rfl ?_
        refine gt_X0_15 (v := .ref (u 1)) E dX0_drive_39 0 rfl rfl ?_
        refine z_iload E dX0_drive_42 5 rfl ?_
        refine z_iload E dX0_drive_44 5 rfl ?_
        refine z_iload_n E dX0_drive_46 3 rfl rfl ?_
        refine z_icmpN_ne E dX0_drive_47 54 (by decide) (by omega) (by omega) (fun c3 => ?_) (fun c3 => ?_)
        · refine z_lconst (v := (lN 0)) E dX0_drive_54 rfl ?_
          refine z_lastN (f := q) (i := i) (x := 0) (ws' := wOdds g e u (sA (sA O 1 (va_up q i 0)) 3 (va_up f i 0)) ++ (wTown g a h T)) E dX0_drive_55 1 rfl (by omega) (by decide) rfl ?_
          refine z_iincN (lv' := [(0, .ref e), (1, .ref a), (2, .int (nI w)), (3, .int (nI z)), (4, .int (nI y)), (5, .int (nI (i + 1)))]) E dX0_drive_56 5 rfl (by decide) rfl ?_
          refine z_goto E dX0_drive_59 3 (by decide) ?_
          exact ih (i + 1) (va_up f i 0) (va_up q i 0) (by omega) (fun j hj => by unfold va_up; split; (rename_i e; rw [e]; unfold opAt; rw [if_neg (by omega)]); exact hf0 j (by omega)) (fun j hj => by unfold va_up; split; (rename_i e; rw [e, if_neg c3]); exact hq0 j (by omega)) (fun j => by unfold va_up; split; decide; exact hf4 j) (by omega)
        · refine z_lconst (v := (lN 1)) E dX0_drive_50 rfl ?_
          refine z_goto E dX0_drive_51 55 (by decide) ?_
          refine z_lastN (f := q) (i := i) (x := 1) (ws' := wOdds g e u (sA (sA O 1 (va_up q i 1)) 3 (va_up f i 0)) ++ (wTown g a h T)) E dX0_drive_55 1 rfl (by omega) (by decide) rfl ?_
          refine z_iincN (lv' := [(0, .ref e), (1, .ref a), (2, .int (nI w)), (3, .int (nI z)), (4, .int (nI y)), (5, .int (nI (i + 1)))]) E dX0_drive_56 5 rfl (by decide) rfl ?_
          refine z_goto E dX0_drive_59 3 (by decide) ?_
          exact ih (i + 1) (va_up f i 0) (va_up q i 1) (by omega) (fun j hj => by unfold va_up; split; (rename_i e; rw [e]; unfold opAt; rw [if_neg (by omega)]); exact hf0 j (by omega)) (fun j hj => by unfold va_up; split; (rename_i e; rw [e, if_pos c3]); exact hq0 j (by omega)) (fun j => by unfold va_up; split; decide; exact hf4 j) (by omega)
      · refine z_aload_n E dX0_drive_25 1 rfl rfl ?_
        refine z_iload E dX0_drive_26 5 rfl ?_
        refine z_ro E (rV E hX (c_X4_roadsAt g a h T i hsT (by omega) (by omega)) mw_X4_roadsAt ml_X0_32 dX0_drive_28 (Nat.le_of_ble_eq_true rfl) ⟨(Nat.le_of_ble_eq_true rfl), (Nat.le_of_ble_eq_true rfl)⟩ rfl rfl (Nat.le_of_ble_eq_true rfl) 0 rfl rfl) [4, 5, 6, 7, 8] rfl (by decide) ?_
        refine z_iload_n E dX0_drive_31 2 rfl rfl ?_
        refine z_iandN E dX0_drive_32 ?_
        refine z_goto E dX0_drive_33 37 (by decide) ?_
        refine z_iastN (f := f) (i := i) (x := ((rAt T i ((T.1 1))) &&& w)) (ws' := wOdds g e u (sA (sA O 1 q) 3 (va_up f i ((rAt T i ((T.1 1))) &&& w))) ++ (wTown g a h T)) E dX0_drive_37 3 rfl (by omega) (by decide) rfl ?_
        refine z_aload_n E dX0_drive_38 0 rfl rfl ?_
        refine gt_X0_15 (v := .ref (u 1)) E dX0_drive_39 0 rfl rfl ?_
        refine z_iload E dX0_drive_42 5 rfl ?_
        refine z_iload E dX0_drive_44 5 rfl ?_
        refine z_iload_n E dX0_drive_46 3 rfl rfl ?_
        refine z_icmpN_ne E dX0_drive_47 54 (by decide) (by omega) (by omega) (fun c3 => ?_) (fun c3 => ?_)
        · refine z_lconst (v := (lN 0)) E dX0_drive_54 rfl ?_
          refine z_lastN (f := q) (i := i) (x := 0) (ws' := wOdds g e u (sA (sA O 1 (va_up q i 0)) 3 (va_up f i ((rAt T i ((T.1 1))) &&& w))) ++ (wTown g a h T)) E dX0_drive_55 1 rfl (by omega) (by decide) rfl ?_
          refine z_iincN (lv' := [(0, .ref e), (1, .ref a), (2, .int (nI w)), (3, .int (nI z)), (4, .int (nI y)), (5, .int (nI (i + 1)))]) E dX0_drive_56 5 rfl (by decide) rfl ?_
          refine z_goto E dX0_drive_59 3 (by decide) ?_
          exact ih (i + 1) (va_up f i ((rAt T i ((T.1 1))) &&& w)) (va_up q i 0) (by omega) (fun j hj => by unfold va_up; split; (rename_i e; rw [e]; unfold opAt; rw [if_pos (by omega)]); exact hf0 j (by omega)) (fun j hj => by unfold va_up; split; (rename_i e; rw [e, if_neg c3]); exact hq0 j (by omega)) (fun j => by unfold va_up; split; exact hand; exact hf4 j) (by omega)
        · refine z_lconst (v := (lN 1)) E dX0_drive_50 rfl ?_
          refine z_goto E dX0_drive_51 55 (by decide) ?_
          refine z_lastN (f := q) (i := i) (x := 1) (ws' := wOdds g e u (sA (sA O 1 (va_up q i 1)) 3 (va_up f i ((rAt T i ((T.1 1))) &&& w))) ++ (wTown g a h T)) E dX0_drive_55 1 rfl (by omega) (by decide) rfl ?_
          refine z_iincN (lv' := [(0, .ref e), (1, .ref a), (2, .int (nI w)), (3, .int (nI z)), (4, .int (nI y)), (5, .int (nI (i + 1)))]) E dX0_drive_56 5 rfl (by decide) rfl ?_
          refine z_goto E dX0_drive_59 3 (by decide) ?_
          exact ih (i + 1) (va_up f i ((rAt T i ((T.1 1))) &&& w)) (va_up q i 1) (by omega) (fun j hj => by unfold va_up; split; (rename_i e; rw [e]; unfold opAt; rw [if_pos (by omega)]); exact hf0 j (by omega)) (fun j hj => by unfold va_up; split; (rename_i e; rw [e, if_pos c3]); exact hq0 j (by omega)) (fun j => by unfold va_up; split; exact hand; exact hf4 j) (by omega)

set_option maxHeartbeats 4000000 in
set_option maxRecDepth 100000 in
theorem l_drive2 (g : GC) (e : Nat) (u : Nat → Nat) (O : NS) (a : Nat) (h : Nat → Nat) (T : NS) (w : Nat) (z : Nat) (y : Nat) (hsT : sm T) (hR : T.1 1 ≤ 12) (hf3 : ∀ i, O.2 3 i < 4096) (h8 : ∀ p r, r < T.1 1 → otherT T r p < 8) (hz : z < 8) (hy : y ≤ 4) (hw : w < 4096) (X : XC) (E : Ob g X cX0_drive 8 RX0) (hX : X.2.2.1 = zR 3 0 0) (uu : Nat) (ff : Nat → Nat) (hu : uu < 2 ^ 63) (hp4 : ∀ i, ff i < 4096) (K : ∀ (f : Nat → Nat), Z g X 8 0 0 (wOdds g e u (sA (sA (sA (sF O 0 (uu ^ y)) 1 (drv T ff uu z y)) 2 f) 3 ff) ++ (wTown g a h T)) [(0, .ref e), (1, .ref a), (2, .int (nI w)), (3, .int (nI z)), (4, .int (nI y))] [] 107) : ∀ (n : Nat) (i : Nat) (f : Nat → Nat), (i ≤ y) → (y < i + n) → Z g X 8 0 0 (wOdds g e u (sA (sA (sA (sF O 0 (uu ^ i)) 1 (drv T ff uu z i)) 2 f) 3 ff) ++ (wTown g a h T)) [(0, .ref e), (1, .ref a), (2, .int (nI w)), (3, .int (nI z)), (4, .int (nI y)), (5, .long (lN uu)), (7, .int (nI i))] [] 76 := by
  intro n
  induction n with
  | zero =>
    intro i f hi hf
    exfalso; omega
  | succ n ih =>
    intro i f hi hf
    refine z_iload E dX0_drive_76 6 rfl ?_
    refine z_iload E dX0_drive_78 4 rfl ?_
    refine z_icmpN_ge E dX0_drive_80 107 (by decide) (by omega) (by omega) (fun c1 => ?_) (fun c1 => ?_)
    · have e : i = y := by omega
      subst e
      refine z_lv [0, 1, 2, 3, 4] rfl ?_; exact K f
    · refine z_aload_n E dX0_drive_83 0 rfl rfl ?_
      refine z_aload_n E dX0_drive_84 1 rfl rfl ?_
      refine z_lload E dX0_drive_85 5 rfl ?_
      refine z_qv0 E (rV E hX (c_X0_takeAnyRoad g e u (sA (sA (sA (sF O 0 (uu ^ i)) 1 (drv T ff uu z i)) 2 f) 3 ff) a h T uu hsT (by omega) hp4 h8 hu) mw_X0_takeAnyRoad ml_X0_39 dX0_drive_87 (Nat.le_of_ble_eq_true rfl) ⟨(Nat.le_of_ble_eq_true rfl), (Nat.le_of_ble_eq_true rfl)⟩ rfl rfl (Nat.le_of_ble_eq_true rfl) 0 rfl rfl) (fun w2 hw => ?_)
      obtain ⟨O3, rfl, ⟨f2, rfl⟩⟩ := hw
      refine ⟨rfl, ?_⟩
      refine z_ws (ws' := wOdds g e u (sA (sA (sA (sF O 0 (uu ^ i)) 1 (drv T ff uu z (i + 1))) 2 f2) 3 ff) ++ (wTown g a h T)) rfl ?_
      refine z_aload_n E dX0_drive_90 0 rfl rfl ?_
      refine z_dup E dX0_drive_91 rfl ?_
      refine gt_X0_9 (v := .long (lN (uu ^ i))) E dX0_drive_92 0 rfl rfl ?_
      refine z_lload E dX0_drive_95 5 rfl ?_
      refine z_lmulN E dX0_drive_97 ?_
      refine pt_X0_9 (x := lN ((uu ^ i) * uu)) (ws' := wOdds g e u (sA (sA (sA (sF O 0 ((uu ^ i) * uu)) 1 (drv T ff uu z (i + 1))) 2 f2) 3 ff) ++ (wTown g a h T)) E dX0_drive_98 0 rfl (Nat.le_of_ble_eq_true rfl) rfl ?_
      refine z_iincN (lv' := [(0, .ref e), (1, .ref a), (2, .int (nI w)), (3, .int (nI z)), (4, .int (nI y)), (5, .long (lN uu)), (7, .int (nI (i + 1)))]) E dX0_drive_101 6 rfl (by decide) rfl ?_
      refine z_goto E dX0_drive_104 76 (by decide) ?_
      exact ih (i + 1) f2 (by omega) (by omega)

set_option maxHeartbeats 4000000 in
set_option maxRecDepth 100000 in
theorem c_X0_drive (g : GC) (e : Nat) (u : Nat → Nat) (O : NS) (a : Nat) (h : Nat → Nat) (T : NS) (w : Nat) (z : Nat) (y : Nat) (hsT : sm T) (hR : T.1 1 ≤ 12) (hf3 : ∀ i, O.2 3 i < 4096) (h8 : ∀ p r, r < T.1 1 → otherT T r p < 8) (hz : z < 8) (hy : y ≤ 4) (hw : w < 4096) : Ct g yX0_drive cX0_drive 8 none 3 0 0 [.ref e, .ref a, .int (nI w), .int (nI z), .int (nI y)] (wOdds g e u O ++ (wTown g a h T)) (QV (fun w_ => ∃ O2 : NS, w_ = wOdds g e u O2 ++ (wTown g a h T) ∧ (O2.1 0 = cuF (opAt T w) 8 ^ y ∧ O2.2 1 = drv T (opAt T w) (cuF (opAt T w) 8) z y ∧ ∀ i, O2.2 3 i < 4096))) := by
  refine Ct.of (by decide) (Nat.le_of_ble_eq_true rfl) ?_
  intro X E Er hX _ hnm
  have E : Ob g X cX0_drive 8 RX0 := E
  refine z_lve (lv' := [(0, .ref e), (1, .ref a), (2, .int (nI w)), (3, .int (nI z)), (4, .int (nI y))]) rfl ?_
  refine z_iconst (v := (nI 0)) E dX0_drive_0 (by decide) ?_
  refine z_istore (lv' := [(0, .ref e), (1, .ref a), (2, .int (nI w)), (3, .int (nI z)), (4, .int (nI y)), (5, .int (nI 0))]) E dX0_drive_1 (by decide) rfl ?_
  refine l_drive1 g e u O a h T w z y hsT hR hf3 h8 hz hy hw X E hX (fun f q hf0 hq0 hf4 => ?_) 9 0 (O.2 3) (O.2 1) (by omega) (fun j hj => absurd hj (Nat.not_lt_zero j)) (fun j hj => absurd hj (Nat.not_lt_zero j)) hf3 (by omega)
  have hp4 : ∀ i, opAt T w i < 4096 := fun i => Nat.lt_of_lt_of_le (opAt_lt T w i) (Nat.pow_le_pow_right (n := 2) (by decide) hR)
  refine z_arrN (f := f) (f' := (opAt T w)) (ws' := wOdds g e u (sA (sA O 1 q) 3 (opAt T w)) ++ (wTown g a h T)) 3 rfl (hf0) rfl ?_
  refine z_arrJ (f := q) (f' := (drv T (opAt T w) (cuF (opAt T w) 8) z 0)) (ws' := wOdds g e u (sA (sA O 1 (drv T (opAt T w) (cuF (opAt T w) 8) z 0)) 3 (opAt T w)) ++ (wTown g a h T)) 1 rfl (hq0) rfl ?_
  refine z_aload_n E dX0_drive_62 0 rfl rfl ?_
  refine z_rol E (rV E hX (c_X0_commonUnit g e u (sA (sA O 1 (drv T (opAt T w) (cuF (opAt T w) 8) z 0)) 3 (opAt T w)) hp4) mw_X0_commonUnit ml_X0_35 dX0_drive_63 (Nat.le_of_ble_eq_true rfl) ⟨(Nat.le_of_ble_eq_true rfl), (Nat.le_of_ble_eq_true rfl)⟩ rfl rfl (Nat.le_of_ble_eq_true rfl) 0 rfl rfl) [0, 1, 2, 3] rfl (by decide) ?_
  refine z_lstore (lv' := [(0, .ref e), (1, .ref a), (2, .int (nI w)), (3, .int (nI z)), (4, .int (nI y)), (5, .long (lN (cuF ((opAt T w)) 8)))]) E dX0_drive_66 (by decide) rfl ?_
  refine z_aload_n E dX0_drive_68 0 rfl rfl ?_
  refine z_lconst (v := (lN 1)) E dX0_drive_69 rfl ?_
  refine pt_X0_9 (x := lN 1) (ws' := wOdds g e u (sA (sA (sF O 0 1) 1 (drv T (opAt T w) (cuF (opAt T w) 8) z 0)) 3 (opAt T w)) ++ (wTown g a h T)) E dX0_drive_70 0 rfl (Nat.le_of_ble_eq_true rfl) rfl ?_
  refine z_iconst (v := (nI 0)) E dX0_drive_73 (by decide) ?_
  refine z_istore (lv' := [(0, .ref e), (1, .ref a), (2, .int (nI w)), (3, .int (nI z)), (4, .int (nI y)), (5, .long (lN (cuF ((opAt T w)) 8))), (7, .int (nI 0))]) E dX0_drive_74 (by decide) rfl ?_
  refine l_drive2 g e u O a h T w z y hsT hR hf3 h8 hz hy hw X E hX (cuF (opAt T w) 8) (opAt T w) (by have := cuF_le (opAt T w) 8; omega) hp4 (fun f => ?_) (y + 1) 0 (O.2 2) (by omega) (by omega)
  refine z_vret E Er dX0_drive_107 ?_
  exact ⟨rfl, _, rfl, rfl, rfl, hp4⟩
