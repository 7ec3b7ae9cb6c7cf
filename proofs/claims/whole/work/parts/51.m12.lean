set_option maxHeartbeats 4000000 in
set_option maxRecDepth 100000 in
theorem l_mgcd (g : GC) (x : Nat) (y : Nat) (hx : x < 2 ^ 63) (hy : y < 2 ^ 63) (X : XC) (E : Ob g X cX7_gcd 10 RX7) (hX : X.2.2.1 = zR 0 0 0) (K : ∀ (l : Nat), (l = Nat.gcd x y) → Z g X 10 0 0 (([] : va_W)) [(0, .long (lN x)), (2, .long (lN y)), (4, .long (lN l))] [] 31) : ∀ (n : Nat) (l : Nat) (s : Nat), (Nat.gcd l s = Nat.gcd x y ∧ l < 2 ^ 63 ∧ s < 2 ^ 63) → (s < n) → Z g X 10 0 0 (([] : va_W)) [(0, .long (lN x)), (2, .long (lN y)), (4, .long (lN l)), (6, .long (lN s))] [] 6 := by
  intro n
  induction n with
  | zero =>
    intro l s hI hf
    exfalso; omega
  | succ n ih =>
    intro l s hI hf
    refine z_lload E dX7_gcd_6 3 rfl ?_
    refine z_lconst (v := (lN 0)) E dX7_gcd_8 rfl ?_
    refine z_lcmp E dX7_gcd_9 ?_
    refine z_ifL_eq E dX7_gcd_10 31 (by decide) (hI.2.2) (by decide) (fun c1 => ?_) (fun c1 => ?_)
    · refine z_lv [0, 1, 2] rfl ?_; exact K l (by rw [← hI.1, c1, Nat.gcd_zero_right])
    · refine z_lload E dX7_gcd_13 2 rfl ?_
      refine z_lload E dX7_gcd_15 3 rfl ?_
      refine z_lremN E dX7_gcd_17 (hI.2.1) (by omega) (hI.2.2) ?_
      refine z_lstore (lv' := [(0, .long (lN x)), (2, .long (lN y)), (4, .long (lN l)), (6, .long (lN s)), (8, .long (lN (l % s)))]) E dX7_gcd_18 (by decide) rfl ?_
      refine z_lload E dX7_gcd_20 3 rfl ?_
      refine z_lstore (lv' := [(0, .long (lN x)), (2, .long (lN y)), (4, .long (lN s)), (6, .long (lN s)), (8, .long (lN (l % s)))]) E dX7_gcd_22 (by decide) rfl ?_
      refine z_lload E dX7_gcd_24 4 rfl ?_
      refine z_lstore (lv' := [(0, .long (lN x)), (2, .long (lN y)), (4, .long (lN s)), (6, .long (lN (l % s))), (8, .long (lN (l % s)))]) E dX7_gcd_26 (by decide) rfl ?_
      refine z_goto E dX7_gcd_28 6 (by decide) ?_
      refine z_lv [0, 1, 2, 3] rfl ?_; exact ih s (l % s) (⟨by rw [← hI.1, Nat.gcd_comm l s, Nat.gcd_rec s l, Nat.gcd_comm], hI.2.2, Nat.lt_trans (Nat.mod_lt _ (Nat.pos_of_ne_zero c1)) hI.2.2⟩) (by have := Nat.mod_lt l (Nat.pos_of_ne_zero c1); omega)

set_option maxHeartbeats 4000000 in
set_option maxRecDepth 100000 in
theorem c_X7_gcd (g : GC) (x : Nat) (y : Nat) (hx : x < 2 ^ 63) (hy : y < 2 ^ 63) : Ct g yX7_gcd cX7_gcd 10 (some .long) 0 0 0 [.long (lN x), .long (lN y)] (([] : va_W)) (DL (lN (Nat.gcd x y)) (([] : va_W))) := by
  refine Ct.of (by decide) (Nat.le_of_ble_eq_true rfl) ?_
  intro X E Er hX _ hnm
  have E : Ob g X cX7_gcd 10 RX7 := E
  refine z_lve (lv' := [(0, .long (lN x)), (2, .long (lN y))]) rfl ?_
  refine z_lload_n E dX7_gcd_0 0 rfl rfl ?_
  refine z_lstore (lv' := [(0, .long (lN x)), (2, .long (lN y)), (4, .long (lN x))]) E dX7_gcd_1 (by decide) rfl ?_
  refine z_lload_n E dX7_gcd_3 1 rfl rfl ?_
  refine z_lstore (lv' := [(0, .long (lN x)), (2, .long (lN y)), (4, .long (lN x)), (6, .long (lN y))]) E dX7_gcd_4 (by decide) rfl ?_
  refine l_mgcd g x y hx hy X E hX (fun l hl => ?_) (y + 1) x y (⟨rfl, hx, hy⟩) (Nat.lt_succ_self _)
  refine z_lload E dX7_gcd_31 2 rfl ?_
  refine z_lret E Er dX7_gcd_33 ?_
  exact ⟨by rw [hl], rfl⟩

theorem pc12_00 : ∀ a, a < 64 → ∀ b, b < 64 → pc12 (64 * a + b) = 0 → 64 * a + b = 0 := by decide +kernel
theorem pc12_0 (x : Nat) (h : x < 4096) (e : pc12 x = 0) : x = 0 := by
  have := pc12_00 (x / 64) (by omega) (x % 64) (by omega)
  rw [Nat.div_add_mod] at this
  exact this e
theorem spr_s (T : NS) (m p sh : Nat) (N : Nat → Nat) (i : Nat) : spr T m p sh N (i + 1) = if m.testBit i = true then va_up (spr T m p sh N i) (otherT T i p) (spr T m p sh N i (otherT T i p) + sh) else spr T m p sh N i := rfl
theorem tar_s (T : NS) (f Q : Nat → Nat) (u i : Nat) : tar T f Q u (i + 1) = if pc12 (f i) = 0 then va_up (tar T f Q u i) i (tar T f Q u i i + Q i * u) else spr T (f i) i (Q i * (u / pc12 (f i))) (tar T f Q u i) (T.1 1) := rfl
theorem spr_0 (T : NS) (p sh : Nat) (N : Nat → Nat) : ∀ i, spr T 0 p sh N i = N
  | 0 => rfl
  | i + 1 => by rw [spr_s, if_neg (by simp), spr_0 T p sh N i]
theorem spr_hi {T : NS} (hT : tdI T) {m p sh k : Nat} {N : Nat → Nat} (hk : T.1 0 ≤ k) : ∀ i, i ≤ T.1 1 → spr T m p sh N i k = N k
  | 0, _ => rfl
  | i + 1, hi => by
    rw [spr_s]
    split
    · have := otherT_l8 hT (r := i) (p := p) (by omega)
      unfold va_up
      rw [if_neg (by omega)]
      exact spr_hi hT hk i (by omega)
    · exact spr_hi hT hk i (by omega)
theorem tar_hi {T : NS} (hT : tdI T) {f Q : Nat → Nat} {u k : Nat} (hk : T.1 0 ≤ k) (hQ : Q k = 0) : ∀ i, tar T f Q u i k = 0
  | 0 => rfl
  | i + 1 => by
    have ih := tar_hi hT (f := f) (u := u) hk hQ i
    rw [tar_s]
    split
    · unfold va_up
      split
      · rename_i e; subst e; rw [ih, hQ, Nat.zero_mul]
      · exact ih
    · rw [spr_hi hT hk _ (Nat.le_refl _)]; exact ih
theorem drv_hi {T P : NS} (hT : tdI T) (hP : pnI T P) {u k : Nat} (hk : T.1 0 ≤ k) : ∀ n, drv T (odF T P) u (P.1 0) n k = 0
  | 0 => by
    have := hP.2.1
    show (if k = P.1 0 then 1 else 0) = 0
    rw [if_neg (by omega)]
  | n + 1 => tar_hi hT hk (drv_hi hT hP hk n) 8
theorem odF_hi {T P : NS} {k : Nat} (hk : T.1 0 ≤ k) : odF T P k = 0 := by unfold odF opAt; rw [if_neg (by omega)]
theorem tar_pl {T P : NS} {Q : Nat → Nat} {u : Nat} (hQ : ∀ k, T.1 0 ≤ k → Q k = 0) : ∀ j, tar T (odF T P) Q u (T.1 0 + j) = tar T (odF T P) Q u (T.1 0)
  | 0 => rfl
  | j + 1 => by
    rw [← Nat.add_assoc, tar_s, odF_hi (by omega), if_pos (by decide), hQ _ (by omega), Nat.zero_mul, Nat.add_zero, up_idm]
    exact tar_pl hQ j
theorem odF_at {T P : NS} {k : Nat} (hk : k < T.1 0) : rAt T k (T.1 1) &&& opn T P = odF T P k := by unfold odF opAt; rw [if_pos hk]
theorem od_set {m : Nat} (hm : m < 4096) {i : Nat} (h : m.testBit i = true) : pc12 m ≠ 0 := fun e => by
  rw [pc12_0 m hm e] at h
  simp at h

set_option maxHeartbeats 4000000 in
set_option maxRecDepth 100000 in
theorem l_mod1 (g : GC) (a : Nat) (h : Nat → Nat) (M : NS) (z2 : Nat) (n2 : Nat) (w2 : Nat) (T : NS) (P : NS) (hT : tdI T) (hM : mrT T M) (hP : pnI T P) (hN : mrP P M) (hz2 : z2 < T.1 0) (hn2 : n2 ≤ 4) (hw2 : w2 ≤ 1) (X : XC) (E : Ob g X cX7_odds 10 RX7) (hX : X.2.2.1 = zR 3 0 0) (K : ∀ (f : Nat → Nat), (∀ k, k < 8 → f k = if k = P.1 0 then 1 else 0) → Z g X 10 0 0 (wMod g a h (sA (sF M 0 0) 29 f)) [(0, .ref a), (1, .int (nI z2)), (2, .int (nI n2)), (3, .int (nI w2)), (4, .long (lN 1))] [] 77) : ∀ (n : Nat) (i : Nat) (f : Nat → Nat), (i ≤ 8) → (∀ k, k < i → f k = if k = P.1 0 then 1 else 0) → (8 < i + n) → Z g X 10 0 0 (wMod g a h (sA (sF M 0 0) 29 f)) [(0, .ref a), (1, .int (nI z2)), (2, .int (nI n2)), (3, .int (nI w2)), (4, .long (lN 1)), (6, .int (nI i))] [] 41 := by
  intro n
  induction n with
  | zero =>
    intro i f hi hz hf
    have hR := hT.2.2.1
    have hb := hT.2.1.2
    have hs4 := hP.s4 hT
    have hp0 := hP.2.1
    have hp1 := hP.2.2.1
    have h4 := hT.2.2.2.2.2.1
    have hop := opn_lt P hR
    have hc1 := cT_1 P hT
    have hg3 := hT.2.2.2.2.1
    have hg2 := hT.2.2.2.1
    have hcl := fun (r : Nat) (_ : r < T.1 1) => cT_le hT hP r
    exfalso; omega
  | succ n ih =>
    intro i f hi hz hf
    have hR := hT.2.2.1
    have hb := hT.2.1.2
    have hs4 := hP.s4 hT
    have hp0 := hP.2.1
    have hp1 := hP.2.2.1
    have h4 := hT.2.2.2.2.2.1
    have hop := opn_lt P hR
    have hc1 := cT_1 P hT
    have hg3 := hT.2.2.2.2.1
    have hg2 := hT.2.2.2.1
    have hcl := fun (r : Nat) (_ : r < T.1 1) => cT_le hT hP r
    refine z_iload E dX7_odds_41 5 rfl ?_
    refine z_bipush (v := (nI 8)) E dX7_odds_43 (by decide) ?_
    refine z_icmpN_ge E dX7_odds_45 77 (by decide) (by omega) (by decide) (fun c1 => ?_) (fun c1 => ?_)
    · refine z_lv [0, 1, 2, 3, 4] rfl ?_; exact K f (fun k hk => hz k (by omega))
    · refine z_aload_n E dX7_odds_48 0 rfl rfl ?_
      refine gt_X7_56 (v := .ref (h 29)) E dX7_odds_49 0 rfl rfl ?_
      refine z_iload E dX7_odds_52 5 rfl ?_
      refine z_iload E dX7_odds_54 5 rfl ?_
      refine z_aload_n E dX7_odds_56 0 rfl rfl ?_
      refine gt_X7_25 (v := .ref (h 14)) E dX7_odds_57 0 rfl rfl ?_
      refine z_iconst (v := (nI 0)) E dX7_odds_60 (by decide) ?_
      refine z_ialdN (f := (M.2 14)) E dX7_odds_61 6 rfl (by decide) (by decide) ?_
      refine z_topi (y := nI (P.1 0)) (congrArg nI (hN.1 0 (by decide))) ?_
      refine z_icmpN_ne E dX7_odds_62 69 (by decide) (by omega) (hP.1.1 _) (fun c2 => ?_) (fun c2 => ?_)
      · refine z_lconst (v := (lN 0)) E dX7_odds_69 rfl ?_
        refine z_lastN (f := f) (i := i) (x := 0) (ws' := wMod g a h (sA (sF M 0 0) 29 (va_up f i 0))) E dX7_odds_70 16 rfl (by omega) (by decide) rfl ?_
        refine z_iincN (lv' := [(0, .ref a), (1, .int (nI z2)), (2, .int (nI n2)), (3, .int (nI w2)), (4, .long (lN 1)), (6, .int (nI (i + 1)))]) E dX7_odds_71 5 rfl (by decide) rfl ?_
        refine z_goto E dX7_odds_74 41 (by decide) ?_
        exact ih (i + 1) (va_up f i 0) (by omega) (fun k hk => by unfold va_up; by_cases q : k = i; (rw [if_pos q, q, if_neg c2]); (rw [if_neg q]; exact hz k (by omega))) (by omega)
      · refine z_lconst (v := (lN 1)) E dX7_odds_65 rfl ?_
        refine z_goto E dX7_odds_66 70 (by decide) ?_
        refine z_lastN (f := f) (i := i) (x := 1) (ws' := wMod g a h (sA (sF M 0 0) 29 (va_up f i 1))) E dX7_odds_70 16 rfl (by omega) (by decide) rfl ?_
        refine z_iincN (lv' := [(0, .ref a), (1, .int (nI z2)), (2, .int (nI n2)), (3, .int (nI w2)), (4, .long (lN 1)), (6, .int (nI (i + 1)))]) E dX7_odds_71 5 rfl (by decide) rfl ?_
        refine z_goto E dX7_odds_74 41 (by decide) ?_
        exact ih (i + 1) (va_up f i 1) (by omega) (fun k hk => by unfold va_up; by_cases q : k = i; (rw [if_pos q, q, if_pos c2]); (rw [if_neg q]; exact hz k (by omega))) (by omega)

set_option maxHeartbeats 4000000 in
set_option maxRecDepth 100000 in
theorem l_mod3 (g : GC) (a : Nat) (h : Nat → Nat) (M : NS) (z2 : Nat) (n2 : Nat) (w2 : Nat) (T : NS) (P : NS) (hT : tdI T) (hM : mrT T M) (hP : pnI T P) (hN : mrP P M) (hz2 : z2 < T.1 0) (hn2 : n2 ≤ 4) (hw2 : w2 ≤ 1) (X : XC) (E : Ob g X cX7_odds 10 RX7) (hX : X.2.2.1 = zR 3 0 0) (al e6 : Nat) (qf : Nat → Nat) (K : ∀ (f : Nat → Nat), (∀ k, k < 8 → f k = 0) → Z g X 10 0 0 (wMod g a h (sA (sA (sF M 0 0) 29 qf) 30 f)) [(0, .ref a), (1, .int (nI z2)), (2, .int (nI n2)), (3, .int (nI w2)), (4, .long (lN al)), (6, .int (nI e6))] [] 118) : ∀ (n : Nat) (i : Nat) (f : Nat → Nat), (i ≤ 8) → (∀ k, k < i → f k = 0) → (8 < i + n) → Z g X 10 0 0 (wMod g a h (sA (sA (sF M 0 0) 29 qf) 30 f)) [(0, .ref a), (1, .int (nI z2)), (2, .int (nI n2)), (3, .int (nI w2)), (4, .long (lN al)), (6, .int (nI e6)), (7, .int (nI i))] [] 97 := by
  intro n
  induction n with
  | zero =>
    intro i f hi hz hf
    exfalso; omega
  | succ n ih =>
    intro i f hi hz hf
    refine z_iload E dX7_odds_97 6 rfl ?_
    refine z_bipush (v := (nI 8)) E dX7_odds_99 (by decide) ?_
    refine z_icmpN_ge E dX7_odds_101 118 (by decide) (by omega) (by decide) (fun c1 => ?_) (fun c1 => ?_)
    · refine z_lv [0, 1, 2, 3, 4, 5] rfl ?_; exact K f (fun k hk => hz k (by omega))
    · refine z_aload_n E dX7_odds_104 0 rfl rfl ?_
      refine gt_X7_60 (v := .ref (h 30)) E dX7_odds_105 0 rfl rfl ?_
      refine z_iload E dX7_odds_108 6 rfl ?_
      refine z_lconst (v := (lN 0)) E dX7_odds_110 rfl ?_
      refine z_lastN (f := f) (i := i) (x := 0) (ws' := wMod g a h (sA (sA (sF M 0 0) 29 qf) 30 (va_up f i 0))) E dX7_odds_111 17 rfl (by omega) (by decide) rfl ?_
      refine z_iincN (lv' := [(0, .ref a), (1, .int (nI z2)), (2, .int (nI n2)), (3, .int (nI w2)), (4, .long (lN al)), (6, .int (nI e6)), (7, .int (nI (i + 1)))]) E dX7_odds_112 6 rfl (by decide) rfl ?_
      refine z_goto E dX7_odds_115 97 (by decide) ?_
      exact ih (i + 1) (va_up f i 0) (by omega) (fun k hk => by unfold va_up; split; rfl; exact hz k (by omega)) (by omega)

set_option maxHeartbeats 4000000 in
set_option maxRecDepth 100000 in
theorem l_mod5 (g : GC) (a : Nat) (h : Nat → Nat) (M : NS) (z2 : Nat) (n2 : Nat) (w2 : Nat) (T : NS) (P : NS) (hT : tdI T) (hM : mrT T M) (hP : pnI T P) (hN : mrP P M) (hz2 : z2 < T.1 0) (hn2 : n2 ≤ 4) (hw2 : w2 ≤ 1) (X : XC) (E : Ob g X cX7_odds 10 RX7) (hX : X.2.2.1 = zR 3 0 0) (al e6 k7 m8 : Nat) (qf f0 : Nat → Nat) (hk7 : k7 < T.1 0) (hm8 : m8 < 4096) (K : ∀ (f : Nat → Nat), (f = spr T m8 k7 (qf k7 * (27720 / pc12 m8)) f0 (T.1 1)) → Z g X 10 0 0 (wMod g a h (sA (sA (sF M 0 0) 29 qf) 30 f)) [(0, .ref a), (1, .int (nI z2)), (2, .int (nI n2)), (3, .int (nI w2)), (4, .long (lN al)), (6, .int (nI e6)), (7, .int (nI k7)), (8, .int (nI m8))] [] 239) : ∀ (n : Nat) (i : Nat) (f : Nat → Nat), (i ≤ T.1 1) → (f = spr T m8 k7 (qf k7 * (27720 / pc12 m8)) f0 i) → (T.1 1 < i + n) → Z g X 10 0 0 (wMod g a h (sA (sA (sF M 0 0) 29 qf) 30 f)) [(0, .ref a), (1, .int (nI z2)), (2, .int (nI n2)), (3, .int (nI w2)), (4, .long (lN al)), (6, .int (nI e6)), (7, .int (nI k7)), (8, .int (nI m8)), (9, .int (nI i))] [] 177 := by
  intro n
  induction n with
  | zero =>
    intro i f hi hz hf
    have hR := hT.2.2.1
    have hb := hT.2.1.2
    have hs4 := hP.s4 hT
    have hp0 := hP.2.1
    have hp1 := hP.2.2.1
    have h4 := hT.2.2.2.2.2.1
    have hop := opn_lt P hR
    have hc1 := cT_1 P hT
    have hg3 := hT.2.2.2.2.1
    have hg2 := hT.2.2.2.1
    have hcl := fun (r : Nat) (_ : r < T.1 1) => cT_le hT hP r
    exfalso; omega
  | succ n ih =>
    intro i f hi hz hf
    have hR := hT.2.2.1
    have hb := hT.2.1.2
    have hs4 := hP.s4 hT
    have hp0 := hP.2.1
    have hp1 := hP.2.2.1
    have h4 := hT.2.2.2.2.2.1
    have hop := opn_lt P hR
    have hc1 := cT_1 P hT
    have hg3 := hT.2.2.2.2.1
    have hg2 := hT.2.2.2.1
    have hcl := fun (r : Nat) (_ : r < T.1 1) => cT_le hT hP r
    refine z_iload E dX7_odds_177 8 rfl ?_
    refine z_aload_n E dX7_odds_179 0 rfl rfl ?_
    refine gt_X7_13 (v := .ref (h 9)) E dX7_odds_180 0 rfl rfl ?_
    refine z_iconst (v := (nI 1)) E dX7_odds_183 (by decide) ?_
    refine z_ialdN (f := (M.2 9)) E dX7_odds_184 2 rfl (by decide) (by decide) ?_
    refine z_topi (y := nI (T.1 1)) (congrArg nI (hM.1 1 (by decide))) ?_
    refine z_icmpN_ge E dX7_odds_185 239 (by decide) (by omega) (hT.1.1 _) (fun c1 => ?_) (fun c1 => ?_)
    · refine z_lv [0, 1, 2, 3, 4, 5, 6, 7] rfl ?_; exact K f (by rw [hz, show i = T.1 1 by omega])
    · refine z_iload E dX7_odds_188 7 rfl ?_
      refine z_iload E dX7_odds_190 8 rfl ?_
      refine z_ishrN E dX7_odds_192 (by omega) (by omega) ?_
      refine z_iconst (v := (nI 1)) E dX7_odds_193 (by decide) ?_
      refine z_iandN E dX7_odds_194 ?_
      refine z_topi (tb_bI m8 i) ?_
      refine z_iconst (v := (nI 1)) E dX7_odds_195 (by decide) ?_
      refine z_icmpB1_ne E dX7_odds_196 233 (by decide) (fun c2 => ?_) (fun c2 => ?_)
      · refine z_iincN (lv' := [(0, .ref a), (1, .int (nI z2)), (2, .int (nI n2)), (3, .int (nI w2)), (4, .long (lN al)), (6, .int (nI e6)), (7, .int (nI k7)), (8, .int (nI m8)), (9, .int (nI (i + 1)))]) E dX7_odds_233 8 rfl (by decide) rfl ?_
        refine z_goto E dX7_odds_236 177 (by decide) ?_
        exact ih (i + 1) f (by omega) (by rw [spr_s, if_neg (by rw [c2]; decide), ← hz]) (by omega)
      · have hpm := od_set hm8 c2
        have hpl := pc12_le m8
        have hoe := otherT_l8 hT (r := i) (p := k7) c1
        refine z_aload_n E dX7_odds_199 0 rfl rfl ?_
        refine gt_X7_60 (v := .ref (h 30)) E dX7_odds_200 0 rfl rfl ?_
        refine z_aload_n E dX7_odds_203 0 rfl rfl ?_
        refine z_iload E dX7_odds_204 8 rfl ?_
        refine z_iload E dX7_odds_206 6 rfl ?_
        refine z_ro0 E (rV E hX (c_X7_otherEnd g a h (sA (sA (sF M 0 0) 29 qf) 30 f) i k7 T hT hM (by omega) (by omega)) mw_X7_otherEnd ml_X7_175 dX7_odds_208 (Nat.le_of_ble_eq_true rfl) ⟨(Nat.le_of_ble_eq_true rfl), (Nat.le_of_ble_eq_true rfl)⟩ rfl rfl (Nat.le_of_ble_eq_true rfl) 0 rfl rfl) ?_
        refine z_dup2 E dX7_odds_211 rfl rfl ?_
        refine z_laldN (f := f) E dX7_odds_212 17 rfl (by omega) (by decide) ?_
        refine z_aload_n E dX7_odds_213 0 rfl rfl ?_
        refine gt_X7_56 (v := .ref (h 29)) E dX7_odds_214 0 rfl rfl ?_
        refine z_iload E dX7_odds_217 6 rfl ?_
        refine z_laldN (f := qf) E dX7_odds_219 16 rfl (by omega) (by decide) ?_
        refine z_ldc2 (v := (lN 27720)) E dX7_odds_220 kc_X7_210 ?_
        refine z_iload E dX7_odds_223 7 rfl ?_
        refine z_se E (rS E hX (c_X7_ones g m8 (by omega)) mw_X7_ones ms_X7_ones ml_X7_178 dX7_odds_225 (Nat.le_of_ble_eq_true rfl) ⟨(Nat.le_of_ble_eq_true rfl), (Nat.le_of_ble_eq_true rfl)⟩ rfl rfl (Nat.le_of_ble_eq_true rfl)) ?_
        refine z_i2l (v := lN (pc12 m8)) E dX7_odds_228 (nI_l (by omega)) ?_
        refine z_ldivN E dX7_odds_229 (by decide) (by omega) (by omega) ?_
        refine z_lmulN E dX7_odds_230 ?_
        refine z_laddN E dX7_odds_231 ?_
        refine z_lastN (f := f) (i := (otherT T i k7)) (x := ((f (otherT T i k7)) + ((qf k7) * (27720 / (pc12 m8))))) (ws' := wMod g a h (sA (sA (sF M 0 0) 29 qf) 30 (va_up f (otherT T i k7) ((f (otherT T i k7)) + ((qf k7) * (27720 / (pc12 m8))))))) E dX7_odds_232 17 rfl (by omega) (by decide) rfl ?_
        refine z_iincN (lv' := [(0, .ref a), (1, .int (nI z2)), (2, .int (nI n2)), (3, .int (nI w2)), (4, .long (lN al)), (6, .int (nI e6)), (7, .int (nI k7)), (8, .int (nI m8)), (9, .int (nI (i + 1)))]) E dX7_odds_233 8 rfl (by decide) rfl ?_
        refine z_goto E dX7_odds_236 177 (by decide) ?_
        exact ih (i + 1) (va_up f (otherT T i k7) ((f (otherT T i k7)) + ((qf k7) * (27720 / (pc12 m8))))) (by omega) (by rw [spr_s, if_pos c2, ← hz]) (by omega)

set_option maxHeartbeats 4000000 in
set_option maxRecDepth 100000 in
theorem l_mod4 (g : GC) (a : Nat) (h : Nat → Nat) (M : NS) (z2 : Nat) (n2 : Nat) (w2 : Nat) (T : NS) (P : NS) (hT : tdI T) (hM : mrT T M) (hP : pnI T P) (hN : mrP P M) (hz2 : z2 < T.1 0) (hn2 : n2 ≤ 4) (hw2 : w2 ≤ 1) (X : XC) (E : Ob g X cX7_odds 10 RX7) (hX : X.2.2.1 = zR 3 0 0) (al e6 : Nat) (qf : Nat → Nat) (K : ∀ (f : Nat → Nat), (f = tar T (odF T P) qf 27720 (T.1 0)) → Z g X 10 0 0 (wMod g a h (sA (sA (sF M 0 0) 29 qf) 30 f)) [(0, .ref a), (1, .int (nI z2)), (2, .int (nI n2)), (3, .int (nI w2)), (4, .long (lN al)), (6, .int (nI e6))] [] 245) : ∀ (n : Nat) (i : Nat) (f : Nat → Nat), (i ≤ T.1 0) → (f = tar T (odF T P) qf 27720 i) → (T.1 0 < i + n) → Z g X 10 0 0 (wMod g a h (sA (sA (sF M 0 0) 29 qf) 30 f)) [(0, .ref a), (1, .int (nI z2)), (2, .int (nI n2)), (3, .int (nI w2)), (4, .long (lN al)), (6, .int (nI e6)), (7, .int (nI i))] [] 121 := by
  intro n
  induction n with
  | zero =>
    intro i f hi hz hf
    have hR := hT.2.2.1
    have hb := hT.2.1.2
    have hs4 := hP.s4 hT
    have hp0 := hP.2.1
    have hp1 := hP.2.2.1
    have h4 := hT.2.2.2.2.2.1
    have hop := opn_lt P hR
    have hc1 := cT_1 P hT
    have hg3 := hT.2.2.2.2.1
    have hg2 := hT.2.2.2.1
    have hcl := fun (r : Nat) (_ : r < T.1 1) => cT_le hT hP r
    exfalso; omega
  | succ n ih =>
    intro i f hi hz hf
    have hR := hT.2.2.1
    have hb := hT.2.1.2
    have hs4 := hP.s4 hT
    have hp0 := hP.2.1
    have hp1 := hP.2.2.1
    have h4 := hT.2.2.2.2.2.1
    have hop := opn_lt P hR
    have hc1 := cT_1 P hT
    have hg3 := hT.2.2.2.2.1
    have hg2 := hT.2.2.2.1
    have hcl := fun (r : Nat) (_ : r < T.1 1) => cT_le hT hP r
    refine z_iload E dX7_odds_121 6 rfl ?_
    refine z_aload_n E dX7_odds_123 0 rfl rfl ?_
    refine gt_X7_13 (v := .ref (h 9)) E dX7_odds_124 0 rfl rfl ?_
    refine z_iconst (v := (nI 0)) E dX7_odds_127 (by decide) ?_
    refine z_ialdN (f := (M.2 9)) E dX7_odds_128 2 rfl (by decide) (by decide) ?_
    refine z_topi (y := nI (T.1 0)) (congrArg nI (hM.1 0 (by decide))) ?_
    refine z_icmpN_ge E dX7_odds_129 245 (by decide) (by omega) (hT.1.1 _) (fun c1 => ?_) (fun c1 => ?_)
    · refine z_lv [0, 1, 2, 3, 4, 5] rfl ?_; exact K f (by rw [hz, show i = T.1 0 by omega])
    · refine z_aload_n E dX7_odds_132 0 rfl rfl ?_
      refine z_aload_n E dX7_odds_133 0 rfl rfl ?_
      refine z_ro0 E (rV E hX (c_X7_openNow g a h (sA (sA (sF M 0 0) 29 qf) 30 f) T P hT hM hP hN) mw_X7_openNow ml_X7_153 dX7_odds_134 (Nat.le_of_ble_eq_true rfl) ⟨(Nat.le_of_ble_eq_true rfl), (Nat.le_of_ble_eq_true rfl)⟩ rfl rfl (Nat.le_of_ble_eq_true rfl) 0 rfl rfl) ?_
      refine z_iload E dX7_odds_137 6 rfl ?_
      refine z_ro0 E (rV E hX (c_X7_roadsAt g a h (sA (sA (sF M 0 0) 29 qf) 30 f) (opn T P) i T hT hM (by have := opn_lt P hT.2.2.1; omega) (by omega)) mw_X7_roadsAt ml_X7_157 dX7_odds_139 (Nat.le_of_ble_eq_true rfl) ⟨(Nat.le_of_ble_eq_true rfl), (Nat.le_of_ble_eq_true rfl)⟩ rfl rfl (Nat.le_of_ble_eq_true rfl) 0 rfl rfl) ?_
      refine z_topi (y := nI (odF T P i)) (congrArg nI (odF_at c1)) ?_
      have hod := Nat.lt_of_lt_of_le (odF_lt (P := P) hR i) (show 2 ^ T.1 1 ≤ 2 ^ 12 from Nat.pow_le_pow_right (by decide) hR)
      refine z_istore (lv' := [(0, .ref a), (1, .int (nI z2)), (2, .int (nI n2)), (3, .int (nI w2)), (4, .long (lN al)), (6, .int (nI e6)), (7, .int (nI i)), (8, .int (nI (odF T P i)))]) E dX7_odds_142 (by decide) rfl ?_
      refine z_aload_n E dX7_odds_144 0 rfl rfl ?_
      refine gt_X7_60 (v := .ref (h 30)) E dX7_odds_145 0 rfl rfl ?_
      refine z_iload E dX7_odds_148 6 rfl ?_
      refine z_dup2 E dX7_odds_150 rfl rfl ?_
      refine z_laldN (f := f) E dX7_odds_151 17 rfl (by omega) (by decide) ?_
      refine z_iload E dX7_odds_152 7 rfl ?_
      refine z_ifN_ne E dX7_odds_154 171 (by decide) (by omega) (fun c2 => ?_) (fun c2 => ?_)
      · refine z_lconst (v := (lN 0)) E dX7_odds_171 rfl ?_
        refine z_laddN E dX7_odds_172 ?_
        refine z_lastN (f := f) (i := i) (x := ((f i) + 0)) (ws' := wMod g a h (sA (sA (sF M 0 0) 29 qf) 30 (va_up f i ((f i) + 0)))) E dX7_odds_173 17 rfl (by omega) (by decide) rfl ?_
        refine z_iconst (v := (nI 0)) E dX7_odds_174 (by decide) ?_
        refine z_istore (lv' := [(0, .ref a), (1, .int (nI z2)), (2, .int (nI n2)), (3, .int (nI w2)), (4, .long (lN al)), (6, .int (nI e6)), (7, .int (nI i)), (8, .int (nI (odF T P i))), (9, .int (nI 0))]) E dX7_odds_175 (by decide) rfl ?_
        refine z_lv [0, 1, 2, 3, 4, 5, 6, 7, 8] rfl ?_
        refine l_mod5 g a h M z2 n2 w2 T P hT hM hP hN hz2 hn2 hw2 X E hX al e6 i (odF T P i) qf (va_up f i ((f i) + 0)) c1 hod (fun f2 hz2b => ?_) (T.1 1 + 1) 0 (va_up f i ((f i) + 0)) (Nat.zero_le _) rfl (by omega)
        refine z_iincN (lv' := [(0, .ref a), (1, .int (nI z2)), (2, .int (nI n2)), (3, .int (nI w2)), (4, .long (lN al)), (6, .int (nI e6)), (7, .int (nI (i + 1))), (8, .int (nI (odF T P i)))]) E dX7_odds_239 6 rfl (by decide) rfl ?_
        refine z_goto E dX7_odds_242 121 (by decide) ?_
        refine z_lv [0, 1, 2, 3, 4, 5, 6] rfl ?_; exact ih (i + 1) f2 (by omega) (by rw [hz2b, tar_s, if_neg (fun e => c2 (pc12_0 _ hod e)), ← hz, Nat.add_zero, up_idm]) (by omega)
      · refine z_aload_n E dX7_odds_157 0 rfl rfl ?_
        refine gt_X7_56 (v := .ref (h 29)) E dX7_odds_158 0 rfl rfl ?_
        refine z_iload E dX7_odds_161 6 rfl ?_
        refine z_laldN (f := qf) E dX7_odds_163 16 rfl (by omega) (by decide) ?_
        refine z_ldc2 (v := (lN 27720)) E dX7_odds_164 kc_X7_210 ?_
        refine z_lmulN E dX7_odds_167 ?_
        refine z_goto E dX7_odds_168 172 (by decide) ?_
        refine z_laddN E dX7_odds_172 ?_
        refine z_lastN (f := f) (i := i) (x := ((f i) + ((qf i) * 27720))) (ws' := wMod g a h (sA (sA (sF M 0 0) 29 qf) 30 (va_up f i ((f i) + ((qf i) * 27720))))) E dX7_odds_173 17 rfl (by omega) (by decide) rfl ?_
        refine z_iconst (v := (nI 0)) E dX7_odds_174 (by decide) ?_
        refine z_istore (lv' := [(0, .ref a), (1, .int (nI z2)), (2, .int (nI n2)), (3, .int (nI w2)), (4, .long (lN al)), (6, .int (nI e6)), (7, .int (nI i)), (8, .int (nI (odF T P i))), (9, .int (nI 0))]) E dX7_odds_175 (by decide) rfl ?_
        refine z_lv [0, 1, 2, 3, 4, 5, 6, 7, 8] rfl ?_
        refine l_mod5 g a h M z2 n2 w2 T P hT hM hP hN hz2 hn2 hw2 X E hX al e6 i (odF T P i) qf (va_up f i ((f i) + ((qf i) * 27720))) c1 hod (fun f2 hz2b => ?_) (T.1 1 + 1) 0 (va_up f i ((f i) + ((qf i) * 27720))) (Nat.zero_le _) rfl (by omega)
        refine z_iincN (lv' := [(0, .ref a), (1, .int (nI z2)), (2, .int (nI n2)), (3, .int (nI w2)), (4, .long (lN al)), (6, .int (nI e6)), (7, .int (nI (i + 1))), (8, .int (nI (odF T P i)))]) E dX7_odds_239 6 rfl (by decide) rfl ?_
        refine z_goto E dX7_odds_242 121 (by decide) ?_
        refine z_lv [0, 1, 2, 3, 4, 5, 6] rfl ?_; exact ih (i + 1) f2 (by omega) (by rw [hz2b, c2, spr_0, tar_s, if_pos (by rw [c2]; decide), ← hz]) (by omega)

set_option maxHeartbeats 4000000 in
set_option maxRecDepth 100000 in
theorem l_mod6 (g : GC) (a : Nat) (h : Nat → Nat) (M : NS) (z2 : Nat) (n2 : Nat) (w2 : Nat) (T : NS) (P : NS) (hT : tdI T) (hM : mrT T M) (hP : pnI T P) (hN : mrP P M) (hz2 : z2 < T.1 0) (hn2 : n2 ≤ 4) (hw2 : w2 ≤ 1) (X : XC) (E : Ob g X cX7_odds 10 RX7) (hX : X.2.2.1 = zR 3 0 0) (al e6 : Nat) (f0 : Nat → Nat) (K : ∀ (f : Nat → Nat), (∀ k, k < 8 → f k = f0 k) → Z g X 10 0 0 (wMod g a h (sA (sA (sF M 0 0) 29 f) 30 f0)) [(0, .ref a), (1, .int (nI z2)), (2, .int (nI n2)), (3, .int (nI w2)), (4, .long (lN al)), (6, .int (nI e6))] [] 275) : ∀ (n : Nat) (i : Nat) (f : Nat → Nat), (i ≤ 8) → (∀ k, k < i → f k = f0 k) → (8 < i + n) → Z g X 10 0 0 (wMod g a h (sA (sA (sF M 0 0) 29 f) 30 f0)) [(0, .ref a), (1, .int (nI z2)), (2, .int (nI n2)), (3, .int (nI w2)), (4, .long (lN al)), (6, .int (nI e6)), (7, .int (nI i))] [] 248 := by
  intro n
  induction n with
  | zero =>
    intro i f hi hz hf
    exfalso; omega
  | succ n ih =>
    intro i f hi hz hf
    refine z_iload E dX7_odds_248 6 rfl ?_
    refine z_bipush (v := (nI 8)) E dX7_odds_250 (by decide) ?_
    refine z_icmpN_ge E dX7_odds_252 275 (by decide) (by omega) (by decide) (fun c1 => ?_) (fun c1 => ?_)
    · refine z_lv [0, 1, 2, 3, 4, 5] rfl ?_; exact K f (fun k hk => hz k (by omega))
    · refine z_aload_n E dX7_odds_255 0 rfl rfl ?_
      refine gt_X7_56 (v := .ref (h 29)) E dX7_odds_256 0 rfl rfl ?_
      refine z_iload E dX7_odds_259 6 rfl ?_
      refine z_aload_n E dX7_odds_261 0 rfl rfl ?_
      refine gt_X7_60 (v := .ref (h 30)) E dX7_odds_262 0 rfl rfl ?_
      refine z_iload E dX7_odds_265 6 rfl ?_
      refine z_laldN (f := f0) E dX7_odds_267 17 rfl (by omega) (by decide) ?_
      refine z_lastN (f := f) (i := i) (x := (f0 i)) (ws' := wMod g a h (sA (sA (sF M 0 0) 29 (va_up f i (f0 i))) 30 f0)) E dX7_odds_268 16 rfl (by omega) (by decide) rfl ?_
      refine z_iincN (lv' := [(0, .ref a), (1, .int (nI z2)), (2, .int (nI n2)), (3, .int (nI w2)), (4, .long (lN al)), (6, .int (nI e6)), (7, .int (nI (i + 1)))]) E dX7_odds_269 6 rfl (by decide) rfl ?_
      refine z_goto E dX7_odds_272 248 (by decide) ?_
      exact ih (i + 1) (va_up f i (f0 i)) (by omega) (fun k hk => by unfold va_up; by_cases q : k = i; (rw [if_pos q, q]); (rw [if_neg q]; exact hz k (by omega))) (by omega)

theorem od_nx {T P : NS} (hT : tdI T) (hP : pnI T P) (i : Nat) : drv T (odF T P) 27720 (P.1 0) (i + 1) = tar T (odF T P) (drv T (odF T P) 27720 (P.1 0) i) 27720 (T.1 0) := by
  have h := tar_pl (T := T) (P := P) (Q := drv T (odF T P) 27720 (P.1 0) i) (u := 27720) (fun k hk => drv_hi hT hP hk i) (8 - T.1 0)
  have hb := hT.2.1.2
  rw [show T.1 0 + (8 - T.1 0) = 8 by omega] at h
  exact h

set_option maxHeartbeats 4000000 in
set_option maxRecDepth 100000 in
theorem l_mod2 (g : GC) (a : Nat) (h : Nat → Nat) (M : NS) (z2 : Nat) (n2 : Nat) (w2 : Nat) (T : NS) (P : NS) (hT : tdI T) (hM : mrT T M) (hP : pnI T P) (hN : mrP P M) (hz2 : z2 < T.1 0) (hn2 : n2 ≤ 4) (hw2 : w2 ≤ 1) (X : XC) (E : Ob g X cX7_odds 10 RX7) (hX : X.2.2.1 = zR 3 0 0) (K : ∀ (al : Nat) (qf : Nat → Nat) (f : Nat → Nat), (qf = drv T (odF T P) 27720 (P.1 0) n2) → (al = 27720 ^ n2) → Z g X 10 0 0 (wMod g a h (sA (sA (sF M 0 0) 29 qf) 30 f)) [(0, .ref a), (1, .int (nI z2)), (2, .int (nI n2)), (3, .int (nI w2)), (4, .long (lN al))] [] 281) : ∀ (n : Nat) (i : Nat) (al : Nat) (qf : Nat → Nat) (f : Nat → Nat), (i ≤ n2) → (qf = drv T (odF T P) 27720 (P.1 0) i) → (al = 27720 ^ i) → (n2 < i + n) → Z g X 10 0 0 (wMod g a h (sA (sA (sF M 0 0) 29 qf) 30 f)) [(0, .ref a), (1, .int (nI z2)), (2, .int (nI n2)), (3, .int (nI w2)), (4, .long (lN al)), (6, .int (nI i))] [] 80 := by
  intro n
  induction n with
  | zero =>
    intro i al qf f hi hq hal hf
    have hR := hT.2.2.1
    have hb := hT.2.1.2
    have hs4 := hP.s4 hT
    have hp0 := hP.2.1
    have hp1 := hP.2.2.1
    have h4 := hT.2.2.2.2.2.1
    have hop := opn_lt P hR
    have hc1 := cT_1 P hT
    have hg3 := hT.2.2.2.2.1
    have hg2 := hT.2.2.2.1
    have hcl := fun (r : Nat) (_ : r < T.1 1) => cT_le hT hP r
    exfalso; omega
  | succ n ih =>
    intro i al qf f hi hq hal hf
    have hR := hT.2.2.1
    have hb := hT.2.1.2
    have hs4 := hP.s4 hT
    have hp0 := hP.2.1
    have hp1 := hP.2.2.1
    have h4 := hT.2.2.2.2.2.1
    have hop := opn_lt P hR
    have hc1 := cT_1 P hT
    have hg3 := hT.2.2.2.2.1
    have hg2 := hT.2.2.2.1
    have hcl := fun (r : Nat) (_ : r < T.1 1) => cT_le hT hP r
    refine z_iload E dX7_odds_80 5 rfl ?_
    refine z_iload_n E dX7_odds_82 2 rfl rfl ?_
    refine z_icmpN_ge E dX7_odds_83 281 (by decide) (by omega) (by omega) (fun c1 => ?_) (fun c1 => ?_)
    · refine z_lv [0, 1, 2, 3, 4] rfl ?_; exact K al qf f (by rw [hq, show i = n2 by omega]) (by rw [hal, show i = n2 by omega])
    · refine z_lload E dX7_odds_86 4 rfl ?_
      refine z_ldc2 (v := (lN 27720)) E dX7_odds_88 kc_X7_210 ?_
      refine z_lmulN E dX7_odds_91 ?_
      refine z_lstore (lv' := [(0, .ref a), (1, .int (nI z2)), (2, .int (nI n2)), (3, .int (nI w2)), (4, .long (lN (al * 27720))), (6, .int (nI i))]) E dX7_odds_92 (by decide) rfl ?_
      refine z_iconst (v := (nI 0)) E dX7_odds_94 (by decide) ?_
      refine z_istore (lv' := [(0, .ref a), (1, .int (nI z2)), (2, .int (nI n2)), (3, .int (nI w2)), (4, .long (lN (al * 27720))), (6, .int (nI i)), (7, .int (nI 0))]) E dX7_odds_95 (by decide) rfl ?_
      refine z_lv [0, 1, 2, 3, 4, 5, 6] rfl ?_
      refine l_mod3 g a h M z2 n2 w2 T P hT hM hP hN hz2 hn2 hw2 X E hX (al * 27720) i qf (fun f3 hz3 => ?_) 9 0 f (by omega) (fun k hk => absurd hk (Nat.not_lt_zero k)) (by omega)
      refine z_arrJ (f := f3) (f' := (fun _ => 0)) (ws' := wMod g a h (sA (sA (sF M 0 0) 29 qf) 30 (fun _ => 0))) 17 rfl (hz3) rfl ?_
      refine z_iconst (v := (nI 0)) E dX7_odds_118 (by decide) ?_
      refine z_istore (lv' := [(0, .ref a), (1, .int (nI z2)), (2, .int (nI n2)), (3, .int (nI w2)), (4, .long (lN (al * 27720))), (6, .int (nI i)), (7, .int (nI 0))]) E dX7_odds_119 (by decide) rfl ?_
      refine z_lv [0, 1, 2, 3, 4, 5, 6] rfl ?_
      refine l_mod4 g a h M z2 n2 w2 T P hT hM hP hN hz2 hn2 hw2 X E hX (al * 27720) i qf (fun f4 hz4 => ?_) (T.1 0 + 1) 0 (fun _ => 0) (Nat.zero_le _) rfl (by omega)
      refine z_iconst (v := (nI 0)) E dX7_odds_245 (by decide) ?_
      refine z_istore (lv' := [(0, .ref a), (1, .int (nI z2)), (2, .int (nI n2)), (3, .int (nI w2)), (4, .long (lN (al * 27720))), (6, .int (nI i)), (7, .int (nI 0))]) E dX7_odds_246 (by decide) rfl ?_
      refine z_lv [0, 1, 2, 3, 4, 5, 6] rfl ?_
      refine l_mod6 g a h M z2 n2 w2 T P hT hM hP hN hz2 hn2 hw2 X E hX (al * 27720) i f4 (fun f6 hz6 => ?_) 9 0 qf (by omega) (fun k hk => absurd hk (Nat.not_lt_zero k)) (by omega)
      obtain ⟨d9, hd9⟩ : ∃ d, d = drv T (odF T P) 27720 (P.1 0) (i + 1) := ⟨_, rfl⟩
      have hd8 : f4 = d9 := by rw [hz4, hd9, hq]; exact (od_nx hT hP i).symm
      refine z_arrJ (f := f6) (f' := d9) (ws' := wMod g a h (sA (sA (sF M 0 0) 29 d9) 30 f4)) 16 rfl (fun j hj => (hz6 j hj).trans (congrFun hd8 j)) rfl ?_
      refine z_iincN (lv' := [(0, .ref a), (1, .int (nI z2)), (2, .int (nI n2)), (3, .int (nI w2)), (4, .long (lN (al * 27720))), (6, .int (nI (i + 1)))]) E dX7_odds_275 5 rfl (by decide) rfl ?_
      refine z_goto E dX7_odds_278 80 (by decide) ?_
      exact ih (i + 1) (al * 27720) d9 f4 (by omega) hd9 (by rw [hal, Nat.pow_succ]) (by omega)

set_option maxHeartbeats 4000000 in
set_option maxRecDepth 100000 in
theorem c_X7_odds (g : GC) (a : Nat) (h : Nat → Nat) (M : NS) (z : Int32) (n : Int32) (w : Int32) (T : NS) (P : NS) (hT : tdI T) (hM : mrT T M) (hP : pnI T P) (hN : mrP P M) : Ct g yX7_odds cX7_odds 10 (some .long) 3 0 0 [.ref a, .int z, .int n, .int w] (wMod g a h M) (QL (fun r_ w_ => ∃ M2 : NS, r_ = (odV T P z n w) ∧ w_ = wMod g a h M2 ∧ mS M M2)) := by
  refine Ct.of (by decide) (Nat.le_of_ble_eq_true rfl) ?_
  intro X E Er hX _ hnm
  have E : Ob g X cX7_odds 10 RX7 := E
  have hR := hT.2.2.1
  have hb := hT.2.1.2
  have hs4 := hP.s4 hT
  have hp0 := hP.2.1
  have hp1 := hP.2.2.1
  have h4 := hT.2.2.2.2.2.1
  have hop := opn_lt P hR
  have hc1 := cT_1 P hT
  have hg3 := hT.2.2.2.2.1
  have hg2 := hT.2.2.2.1
  have hcl := fun (r : Nat) (_ : r < T.1 1) => cT_le hT hP r
  refine z_lve (lv' := [(0, .ref a), (1, .int z), (2, .int n), (3, .int w)]) rfl ?_
  refine z_aload_n E dX7_odds_0 0 rfl rfl ?_
  refine z_iconst (v := (nI 0)) E dX7_odds_1 (by decide) ?_
  refine pt_X7_69 (x := nI 0) (ws' := wMod g a h (sF M 0 0)) E dX7_odds_2 0 rfl (Nat.le_of_ble_eq_true rfl) rfl ?_
  refine z_aload_n E dX7_odds_5 0 rfl rfl ?_
  refine z_iload_n E dX7_odds_6 1 rfl rfl ?_
  refine z_ro0 E (rV E hX (c_X7_isPlace g a h (sF M 0 0) z T hT hM) mw_X7_isPlace ml_X7_150 dX7_odds_7 (Nat.le_of_ble_eq_true rfl) ⟨(Nat.le_of_ble_eq_true rfl), (Nat.le_of_ble_eq_true rfl)⟩ rfl rfl (Nat.le_of_ble_eq_true rfl) 0 rfl rfl) ?_
  refine z_ifB_eq E dX7_odds_10 31 (by decide) (fun c1 => ?_) (fun c1 => ?_)
  · refine z_ldc2 (v := (-1)) E dX7_odds_31 kc_X7_208 ?_
    refine z_lret E Er dX7_odds_34 ?_
    exact ⟨_, rfl, _, by rw [odV, if_neg (show ¬ (hasP T z && wi n (nI 0) (nI 4) && wi w (nI 0) (nI 1)) = true by rw [c1]; simp)], rfl, ((mS.rf M).F (by omega))⟩
  · refine z_iload_n E dX7_odds_13 2 rfl rfl ?_
    refine z_iconst (v := (nI 0)) E dX7_odds_14 (by decide) ?_
    refine z_iconst (v := (nI 4)) E dX7_odds_15 (by decide) ?_
    refine z_se E (rS E hX (c_X7_in g n (nI 0) (nI 4)) mw_X7_in ms_X7_in ml_X7_73 dX7_odds_16 (Nat.le_of_ble_eq_true rfl) ⟨(Nat.le_of_ble_eq_true rfl), (Nat.le_of_ble_eq_true rfl)⟩ rfl rfl (Nat.le_of_ble_eq_true rfl)) ?_
    refine z_ifB_eq E dX7_odds_19 31 (by decide) (fun c2 => ?_) (fun c2 => ?_)
    · refine z_ldc2 (v := (-1)) E dX7_odds_31 kc_X7_208 ?_
      refine z_lret E Er dX7_odds_34 ?_
      exact ⟨_, rfl, _, by rw [odV, if_neg (show ¬ (hasP T z && wi n (nI 0) (nI 4) && wi w (nI 0) (nI 1)) = true by rw [c2]; simp)], rfl, ((mS.rf M).F (by omega))⟩
    · refine z_iload_n E dX7_odds_22 3 rfl rfl ?_
      refine z_iconst (v := (nI 0)) E dX7_odds_23 (by decide) ?_
      refine z_iconst (v := (nI 1)) E dX7_odds_24 (by decide) ?_
      refine z_se E (rS E hX (c_X7_in g w (nI 0) (nI 1)) mw_X7_in ms_X7_in ml_X7_73 dX7_odds_25 (Nat.le_of_ble_eq_true rfl) ⟨(Nat.le_of_ble_eq_true rfl), (Nat.le_of_ble_eq_true rfl)⟩ rfl rfl (Nat.le_of_ble_eq_true rfl)) ?_
      refine z_ifB_ne E dX7_odds_28 35 (by decide) (fun c3 => ?_) (fun c3 => ?_)
      · obtain ⟨z2, hz2, rfl⟩ := hasP_nI (hT.1.1 0) c1
        obtain ⟨n2, -, hn2, rfl⟩ := wi_nI (by decide) (by decide) c2
        obtain ⟨w2, -, hw2, rfl⟩ := wi_nI (by decide) (by decide) c3
        refine z_lconst (v := (lN 1)) E dX7_odds_35 rfl ?_
        refine z_lstore (lv' := [(0, .ref a), (1, .int (nI z2)), (2, .int (nI n2)), (3, .int (nI w2)), (4, .long (lN 1))]) E dX7_odds_36 (by decide) rfl ?_
        refine z_iconst (v := (nI 0)) E dX7_odds_38 (by decide) ?_
        refine z_istore (lv' := [(0, .ref a), (1, .int (nI z2)), (2, .int (nI n2)), (3, .int (nI w2)), (4, .long (lN 1)), (6, .int (nI 0))]) E dX7_odds_39 (by decide) rfl ?_
        refine l_mod1 g a h M z2 n2 w2 T P hT hM hP hN hz2 hn2 hw2 X E hX (fun f1 hz1 => ?_) 9 0 (M.2 29) (by omega) (fun k hk => absurd hk (Nat.not_lt_zero k)) (by omega)
        obtain ⟨d0, hd0⟩ : ∃ d, d = drv T (odF T P) 27720 (P.1 0) 0 := ⟨_, rfl⟩
        have hd1 : ∀ j, j < 8 → f1 j = d0 j := fun j hj => by rw [hz1 j hj, hd0]; rfl
        refine z_arrJ (f := f1) (f' := d0) (ws' := wMod g a h (sA (sF M 0 0) 29 d0)) 16 rfl (hd1) rfl ?_
        refine z_iconst (v := (nI 0)) E dX7_odds_77 (by decide) ?_
        refine z_istore (lv' := [(0, .ref a), (1, .int (nI z2)), (2, .int (nI n2)), (3, .int (nI w2)), (4, .long (lN 1)), (6, .int (nI 0))]) E dX7_odds_78 (by decide) rfl ?_
        refine z_ws (ws' := wMod g a h (sA (sA (sF M 0 0) 29 d0) 30 (M.2 30))) rfl ?_
        refine z_lv [0, 1, 2, 3, 4, 5] rfl ?_
        refine l_mod2 g a h M z2 n2 w2 T P hT hM hP hN hz2 hn2 hw2 X E hX (fun al qf f hq hal => ?_) (n2 + 1) 0 1 d0 (M.2 30) (by omega) hd0 rfl (by omega)
        have hw4 : 27720 ^ n2 ≤ 27720 ^ 4 := Nat.pow_le_pow_right (by decide) hn2
        have h63 : (27720 : Nat) ^ 4 < 2 ^ 63 := by decide
        have hp1b : 0 < 27720 ^ n2 := Nat.pow_pos (by decide)
        have hdl := od_s8 hT hP (u := 27720) (fun j _ hj => d27720 _ (pc12_le _) hj) n2 (p := z2) (by omega)
        have hqz : qf z2 = odU T P z2 n2 := by rw [hq]; rfl
        have hqz2 : qf z2 ≤ 27720 ^ n2 := by rw [hqz]; exact hdl
        refine z_aload_n E dX7_odds_281 0 rfl rfl ?_
        refine gt_X7_56 (v := .ref (h 29)) E dX7_odds_282 0 rfl rfl ?_
        refine z_iload_n E dX7_odds_285 1 rfl rfl ?_
        refine z_laldN (f := qf) E dX7_odds_286 16 rfl (by omega) (by decide) ?_
        refine z_lload E dX7_odds_287 4 rfl ?_
        refine z_sel E (rS E hX (c_X7_gcd g (qf z2) al (by omega) (by omega)) mw_X7_gcd ms_X7_gcd ml_X7_212 dX7_odds_289 (Nat.le_of_ble_eq_true rfl) ⟨(Nat.le_of_ble_eq_true rfl), (Nat.le_of_ble_eq_true rfl)⟩ rfl rfl (Nat.le_of_ble_eq_true rfl)) ?_
        have hg0 : 0 < Nat.gcd (qf z2) al := Nat.gcd_pos_of_pos_right _ (by rw [hal]; exact hp1b)
        have hg1 : Nat.gcd (qf z2) al < 2 ^ 63 := Nat.lt_of_le_of_lt (Nat.gcd_le_right _ (by rw [hal]; exact hp1b)) (by omega)
        refine z_lstore (lv' := [(0, .ref a), (1, .int (nI z2)), (2, .int (nI n2)), (3, .int (nI w2)), (4, .long (lN al)), (6, .long (lN (Nat.gcd (qf z2) al)))]) E dX7_odds_292 (by decide) rfl ?_
        refine z_iload_n E dX7_odds_294 3 rfl rfl ?_
        refine z_ifN_ne E dX7_odds_295 310 (by decide) (by omega) (fun c4 => ?_) (fun c4 => ?_)
        · refine z_lload E dX7_odds_310 4 rfl ?_
          refine z_lload E dX7_odds_312 5 rfl ?_
          refine z_ldivN E dX7_odds_314 (by omega) (by omega) (by assumption) ?_
          refine z_lret E Er dX7_odds_315 ?_
          exact ⟨_, rfl, _, by rw [odV, if_pos (by rw [c1, c2, c3]; rfl), if_neg (fun q => c4 ((nI_injI (by omega) (by decide)).mp q)), nI_clamp (by omega), nI_clamp (by omega), hqz, hal, Nat.gcd_comm], rfl, ((((mS.rf M).F (by omega)).A (by omega)).A (by omega))⟩
        · refine z_aload_n E dX7_odds_298 0 rfl rfl ?_
          refine gt_X7_56 (v := .ref (h 29)) E dX7_odds_299 0 rfl rfl ?_
          refine z_iload_n E dX7_odds_302 1 rfl rfl ?_
          refine z_laldN (f := qf) E dX7_odds_303 16 rfl (by omega) (by decide) ?_
          refine z_lload E dX7_odds_304 5 rfl ?_
          refine z_ldivN E dX7_odds_306 (by omega) (by omega) (by assumption) ?_
          refine z_goto E dX7_odds_307 315 (by decide) ?_
          refine z_lret E Er dX7_odds_315 ?_
          exact ⟨_, rfl, _, by rw [odV, if_pos (by rw [c1, c2, c3]; rfl), if_pos (by rw [c4]), nI_clamp (by omega), nI_clamp (by omega), hqz, hal, Nat.gcd_comm], rfl, ((((mS.rf M).F (by omega)).A (by omega)).A (by omega))⟩
      · refine z_ldc2 (v := (-1)) E dX7_odds_31 kc_X7_208 ?_
        refine z_lret E Er dX7_odds_34 ?_
        exact ⟨_, rfl, _, by rw [odV, if_neg (show ¬ (hasP T z && wi n (nI 0) (nI 4) && wi w (nI 0) (nI 1)) = true by rw [c3]; simp)], rfl, ((mS.rf M).F (by omega))⟩

def rtF (T P : NS) (n : Int32) (r : Nat) : Int32 := swF n [nI (T.2 8 r + P.2 5 r), nI (T.2 8 r + P.2 5 r + P.2 5 r), nI (T.2 8 r + P.2 5 r) - nI (pc12 (P.1 4)), nI (2 * (T.2 8 r + P.2 5 r + P.2 5 r)), nI (T.2 8 r + P.2 5 r) - nI (pc12 (P.1 4)) + nI r, nI (T.2 8 r + P.2 5 r + P.1 3)] (-1000000)
def rtC (T : NS) (n r : Int32) : Bool := wi n (nI 0) (nI 5) && hasR T r
def rtV (T P : NS) (n r : Int32) : Int32 := if rtC T n r = true then rtF T P n r.toNatClampNeg else -1000000
def rtM (k : Nat) : Nat := if k = 0 then 1 else if k = 1 then 11 else if k = 2 then 101 else if k = 3 then 1011 else if k = 4 then 10101 else 100001
def rtT (T : NS) (n r : Int32) : Nat := if rtC T n r = true then rtM n.toNatClampNeg else 0

theorem rt_same (M : NS) : sF (sF M 0 0) 1 (M.1 1) = sF M 0 0 := by
  refine Prod.ext ?_ rfl
  funext k
  show va_up (va_up M.1 0 0) 1 (M.1 1) k = va_up M.1 0 0 k
  unfold va_up
  by_cases q : k = 1
  · rw [if_pos q, if_neg (by omega), q]
  · rw [if_neg q]

set_option maxHeartbeats 4000000 in
set_option maxRecDepth 100000 in
theorem c_X7_rate (g : GC) (a : Nat) (h : Nat → Nat) (M : NS) (n : Int32) (r : Int32) (T : NS) (P : NS) (hT : tdI T) (hM : mrT T M) (hP : pnI T P) (hN : mrP P M) : Ct g yX7_rate cX7_rate 6 (some .int) 2 0 0 [.ref a, .int n, .int r] (wMod g a h M) (DI (rtV T P n r) (wMod g a h (sF (sF M 0 0) 1 (M.1 1 + rtT T n r)))) := by
  refine Ct.of (by decide) (Nat.le_of_ble_eq_true rfl) ?_
  intro X E Er hX _ hnm
  have E : Ob g X cX7_rate 6 RX7 := E
  have hR := hT.2.2.1
  have hb := hT.2.1.2
  have hs4 := hP.s4 hT
  have hp0 := hP.2.1
  have hp1 := hP.2.2.1
  have h4 := hT.2.2.2.2.2.1
  have hop := opn_lt P hR
  have hc1 := cT_1 P hT
  have hg3 := hT.2.2.2.2.1
  have hg2 := hT.2.2.2.1
  have hcl := fun (r : Nat) (_ : r < T.1 1) => cT_le hT hP r
  refine z_lve (lv' := [(0, .ref a), (1, .int n), (2, .int r)]) rfl ?_
  refine z_aload_n E dX7_rate_0 0 rfl rfl ?_
  refine z_iconst (v := (nI 0)) E dX7_rate_1 (by decide) ?_
  refine pt_X7_69 (x := nI 0) (ws' := wMod g a h (sF M 0 0)) E dX7_rate_2 0 rfl (Nat.le_of_ble_eq_true rfl) rfl ?_
  refine z_iload_n E dX7_rate_5 1 rfl rfl ?_
  refine z_iconst (v := (nI 0)) E dX7_rate_6 (by decide) ?_
  refine z_iconst (v := (nI 5)) E dX7_rate_7 (by decide) ?_
  refine z_se E (rS E hX (c_X7_in g n (nI 0) (nI 5)) mw_X7_in ms_X7_in ml_X7_73 dX7_rate_8 (Nat.le_of_ble_eq_true rfl) ⟨(Nat.le_of_ble_eq_true rfl), (Nat.le_of_ble_eq_true rfl)⟩ rfl rfl (Nat.le_of_ble_eq_true rfl)) ?_
  refine z_ifB_eq E dX7_rate_11 22 (by decide) (fun c1 => ?_) (fun c1 => ?_)
  · refine z_ldc (v := (-1000000)) E dX7_rate_22 kc_X7_216 ?_
    refine z_iret E Er dX7_rate_24 ?_
    exact ⟨by rw [rtV, if_neg (show ¬ rtC T n r = true by unfold rtC; rw [c1]; simp)], by rw [rtT, if_neg (show ¬ rtC T n r = true by unfold rtC; rw [c1]; simp), Nat.add_zero]; exact congrArg (wMod g a h) (rt_same M).symm⟩
  · refine z_aload_n E dX7_rate_14 0 rfl rfl ?_
    refine z_iload_n E dX7_rate_15 2 rfl rfl ?_
    refine z_ro0 E (rV E hX (c_X7_isRoad g a h (sF M 0 0) r T hT hM) mw_X7_isRoad ml_X7_143 dX7_rate_16 (Nat.le_of_ble_eq_true rfl) ⟨(Nat.le_of_ble_eq_true rfl), (Nat.le_of_ble_eq_true rfl)⟩ rfl rfl (Nat.le_of_ble_eq_true rfl) 0 rfl rfl) ?_
    refine z_ifB_ne E dX7_rate_19 25 (by decide) (fun c2 => ?_) (fun c2 => ?_)
    · obtain ⟨j2, hj2, rfl⟩ := hasR_nI (hT.1.1 1) c2
      obtain ⟨n2, -, hn2, rfl⟩ := wi_nI (by decide) (by decide) c1
      rcases (show n2 = 0 ∨ n2 = 1 ∨ n2 = 2 ∨ n2 = 3 ∨ n2 = 4 ∨ n2 = 5 by omega) with rfl | rfl | rfl | rfl | rfl | rfl
      · refine z_aload_n E dX7_rate_25 0 rfl rfl ?_
        refine gt_X7_19 (v := .ref (h 12)) E dX7_rate_26 0 rfl rfl ?_
        refine z_iload_n E dX7_rate_29 2 rfl rfl ?_
        refine z_ialdN (f := (M.2 12)) E dX7_rate_30 4 rfl (by omega) (by decide) ?_
        refine z_topi (y := nI ((T.2 8) j2)) (congrArg nI ((hM.2 j2 (by omega)).2.2.1)) ?_
        refine z_aload_n E dX7_rate_31 0 rfl rfl ?_
        refine gt_X7_25 (v := .ref (h 14)) E dX7_rate_32 0 rfl rfl ?_
        refine z_iconst (v := (nI 5)) E dX7_rate_35 (by decide) ?_
        refine z_iload_n E dX7_rate_36 2 rfl rfl ?_
        refine z_iaddN E dX7_rate_37 ?_
        refine z_ialdN (f := (M.2 14)) E dX7_rate_38 6 rfl (by omega) (by decide) ?_
        refine z_topi (y := nI ((P.2 5) j2)) (congrArg nI (hN.2 j2 (by omega))) ?_
        refine z_iaddN E dX7_rate_39 ?_
        refine z_istore_n (lv' := [(0, .ref a), (1, .int (nI 0)), (2, .int (nI j2)), (3, .int (nI (((T.2 8) j2) + ((P.2 5) j2))))]) E dX7_rate_40 3 rfl (by decide) rfl ?_
        refine z_iload_n E dX7_rate_41 3 rfl rfl ?_
        refine z_aload_n E dX7_rate_42 0 rfl rfl ?_
        refine gt_X7_25 (v := .ref (h 14)) E dX7_rate_43 0 rfl rfl ?_
        refine z_iconst (v := (nI 5)) E dX7_rate_46 (by decide) ?_
        refine z_iload_n E dX7_rate_47 2 rfl rfl ?_
        refine z_iaddN E dX7_rate_48 ?_
        refine z_ialdN (f := (M.2 14)) E dX7_rate_49 6 rfl (by omega) (by decide) ?_
        refine z_topi (y := nI ((P.2 5) j2)) (congrArg nI (hN.2 j2 (by omega))) ?_
        refine z_iaddN E dX7_rate_50 ?_
        refine z_istore (lv' := [(0, .ref a), (1, .int (nI 0)), (2, .int (nI j2)), (3, .int (nI (((T.2 8) j2) + ((P.2 5) j2)))), (4, .int (nI ((((T.2 8) j2) + ((P.2 5) j2)) + ((P.2 5) j2))))]) E dX7_rate_51 (by decide) rfl ?_
        refine z_iload_n E dX7_rate_53 3 rfl rfl ?_
        refine z_aload_n E dX7_rate_54 0 rfl rfl ?_
        refine gt_X7_25 (v := .ref (h 14)) E dX7_rate_55 0 rfl rfl ?_
        refine z_iconst (v := (nI 4)) E dX7_rate_58 (by decide) ?_
        refine z_ialdN (f := (M.2 14)) E dX7_rate_59 6 rfl (by decide) (by decide) ?_
        refine z_topi (y := nI (P.1 4)) (congrArg nI (hN.1 4 (by decide))) ?_
        refine z_se E (rS E hX (c_X7_ones g (P.1 4) (by omega)) mw_X7_ones ms_X7_ones ml_X7_178 dX7_rate_60 (Nat.le_of_ble_eq_true rfl) ⟨(Nat.le_of_ble_eq_true rfl), (Nat.le_of_ble_eq_true rfl)⟩ rfl rfl (Nat.le_of_ble_eq_true rfl)) ?_
        refine z_isub E dX7_rate_63 ?_
        refine z_istore (lv' := [(0, .ref a), (1, .int (nI 0)), (2, .int (nI j2)), (3, .int (nI (((T.2 8) j2) + ((P.2 5) j2)))), (4, .int (nI ((((T.2 8) j2) + ((P.2 5) j2)) + ((P.2 5) j2)))), (5, .int ((nI (((T.2 8) j2) + ((P.2 5) j2))) - (nI (pc12 (P.1 4)))))]) E dX7_rate_64 (by decide) rfl ?_
        refine z_aload_n E dX7_rate_66 0 rfl rfl ?_
        refine z_dup E dX7_rate_67 rfl ?_
        refine gt_X7_217 (v := .long (lN (M.1 1))) E dX7_rate_68 0 rfl rfl ?_
        refine z_iload_n E dX7_rate_71 1 rfl rfl ?_
        refine z_ifN_ne E dX7_rate_72 79 (by decide) (by decide) (fun h => absurd h (by decide)) (fun _ => ?_)
        refine z_lconst (v := (lN 1)) E dX7_rate_75 rfl ?_
        refine z_goto E dX7_rate_76 126 (by decide) ?_
        refine z_laddN E dX7_rate_126 ?_
        refine pt_X7_217 (x := lN ((M.1 1) + 1)) (ws' := wMod g a h (sF (sF M 0 0) 1 ((M.1 1) + 1))) E dX7_rate_127 0 rfl (Nat.le_of_ble_eq_true rfl) rfl ?_
        refine z_iload_n E dX7_rate_130 1 rfl rfl ?_
        refine z_ifN_ne E dX7_rate_131 138 (by decide) (by decide) (fun h => absurd h (by decide)) (fun _ => ?_)
        refine z_iload_n E dX7_rate_134 3 rfl rfl ?_
        refine z_goto E dX7_rate_135 190 (by decide) ?_
        refine z_iret E Er dX7_rate_190 ?_
        exact ⟨by rw [rtV, if_pos (show rtC T (nI 0) (nI j2) = true by unfold rtC; rw [c1, c2]; rfl), nI_clamp (by omega)]; unfold rtF; rw [swF_k 0 (Nat.le_of_ble_eq_true rfl) (by decide)]; rfl, by rw [rtT, if_pos (show rtC T (nI 0) (nI j2) = true by unfold rtC; rw [c1, c2]; rfl)]; rfl⟩
      · refine z_aload_n E dX7_rate_25 0 rfl rfl ?_
        refine gt_X7_19 (v := .ref (h 12)) E dX7_rate_26 0 rfl rfl ?_
        refine z_iload_n E dX7_rate_29 2 rfl rfl ?_
        refine z_ialdN (f := (M.2 12)) E dX7_rate_30 4 rfl (by omega) (by decide) ?_
        refine z_topi (y := nI ((T.2 8) j2)) (congrArg nI ((hM.2 j2 (by omega)).2.2.1)) ?_
        refine z_aload_n E dX7_rate_31 0 rfl rfl ?_
        refine gt_X7_25 (v := .ref (h 14)) E dX7_rate_32 0 rfl rfl ?_
        refine z_iconst (v := (nI 5)) E dX7_rate_35 (by decide) ?_
        refine z_iload_n E dX7_rate_36 2 rfl rfl ?_
        refine z_iaddN E dX7_rate_37 ?_
        refine z_ialdN (f := (M.2 14)) E dX7_rate_38 6 rfl (by omega) (by decide) ?_
        refine z_topi (y := nI ((P.2 5) j2)) (congrArg nI (hN.2 j2 (by omega))) ?_
        refine z_iaddN E dX7_rate_39 ?_
        refine z_istore_n (lv' := [(0, .ref a), (1, .int (nI 1)), (2, .int (nI j2)), (3, .int (nI (((T.2 8) j2) + ((P.2 5) j2))))]) E dX7_rate_40 3 rfl (by decide) rfl ?_
        refine z_iload_n E dX7_rate_41 3 rfl rfl ?_
        refine z_aload_n E dX7_rate_42 0 rfl rfl ?_
        refine gt_X7_25 (v := .ref (h 14)) E dX7_rate_43 0 rfl rfl ?_
        refine z_iconst (v := (nI 5)) E dX7_rate_46 (by decide) ?_
        refine z_iload_n E dX7_rate_47 2 rfl rfl ?_
        refine z_iaddN E dX7_rate_48 ?_
        refine z_ialdN (f := (M.2 14)) E dX7_rate_49 6 rfl (by omega) (by decide) ?_
        refine z_topi (y := nI ((P.2 5) j2)) (congrArg nI (hN.2 j2 (by omega))) ?_
        refine z_iaddN E dX7_rate_50 ?_
        refine z_istore (lv' := [(0, .ref a), (1, .int (nI 1)), (2, .int (nI j2)), (3, .int (nI (((T.2 8) j2) + ((P.2 5) j2)))), (4, .int (nI ((((T.2 8) j2) + ((P.2 5) j2)) + ((P.2 5) j2))))]) E dX7_rate_51 (by decide) rfl ?_
        refine z_iload_n E dX7_rate_53 3 rfl rfl ?_
        refine z_aload_n E dX7_rate_54 0 rfl rfl ?_
        refine gt_X7_25 (v := .ref (h 14)) E dX7_rate_55 0 rfl rfl ?_
        refine z_iconst (v := (nI 4)) E dX7_rate_58 (by decide) ?_
        refine z_ialdN (f := (M.2 14)) E dX7_rate_59 6 rfl (by decide) (by decide) ?_
        refine z_topi (y := nI (P.1 4)) (congrArg nI (hN.1 4 (by decide))) ?_
        refine z_se E (rS E hX (c_X7_ones g (P.1 4) (by omega)) mw_X7_ones ms_X7_ones ml_X7_178 dX7_rate_60 (Nat.le_of_ble_eq_true rfl) ⟨(Nat.le_of_ble_eq_true rfl), (Nat.le_of_ble_eq_true rfl)⟩ rfl rfl (Nat.le_of_ble_eq_true rfl)) ?_
        refine z_isub E dX7_rate_63 ?_
        refine z_istore (lv' := [(0, .ref a), (1, .int (nI 1)), (2, .int (nI j2)), (3, .int (nI (((T.2 8) j2) + ((P.2 5) j2)))), (4, .int (nI ((((T.2 8) j2) + ((P.2 5) j2)) + ((P.2 5) j2)))), (5, .int ((nI (((T.2 8) j2) + ((P.2 5) j2))) - (nI (pc12 (P.1 4)))))]) E dX7_rate_64 (by decide) rfl ?_
        refine z_aload_n E dX7_rate_66 0 rfl rfl ?_
        refine z_dup E dX7_rate_67 rfl ?_
        refine gt_X7_217 (v := .long (lN (M.1 1))) E dX7_rate_68 0 rfl rfl ?_
        refine z_iload_n E dX7_rate_71 1 rfl rfl ?_
        refine z_ifN_ne E dX7_rate_72 79 (by decide) (by decide) (fun _ => ?_) (fun h => absurd h (by decide))
        refine z_iload_n E dX7_rate_79 1 rfl rfl ?_
        refine z_iconst (v := (nI 1)) E dX7_rate_80 (by decide) ?_
        refine z_icmpN_ne E dX7_rate_81 90 (by decide) (by decide) (by decide) (fun h => absurd h (by decide)) (fun _ => ?_)
        refine z_ldc2 (v := (lN 11)) E dX7_rate_84 kc_X7_221 ?_
        refine z_goto E dX7_rate_87 126 (by decide) ?_
        refine z_laddN E dX7_rate_126 ?_
        refine pt_X7_217 (x := lN ((M.1 1) + 11)) (ws' := wMod g a h (sF (sF M 0 0) 1 ((M.1 1) + 11))) E dX7_rate_127 0 rfl (Nat.le_of_ble_eq_true rfl) rfl ?_
        refine z_iload_n E dX7_rate_130 1 rfl rfl ?_
        refine z_ifN_ne E dX7_rate_131 138 (by decide) (by decide) (fun _ => ?_) (fun h => absurd h (by decide))
        refine z_iload_n E dX7_rate_138 1 rfl rfl ?_
        refine z_iconst (v := (nI 1)) E dX7_rate_139 (by decide) ?_
        refine z_icmpN_ne E dX7_rate_140 148 (by decide) (by decide) (by decide) (fun h => absurd h (by decide)) (fun _ => ?_)
        refine z_iload E dX7_rate_143 4 rfl ?_
        refine z_goto E dX7_rate_145 190 (by decide) ?_
        refine z_iret E Er dX7_rate_190 ?_
        exact ⟨by rw [rtV, if_pos (show rtC T (nI 1) (nI j2) = true by unfold rtC; rw [c1, c2]; rfl), nI_clamp (by omega)]; unfold rtF; rw [swF_k 1 (Nat.le_of_ble_eq_true rfl) (by decide)]; rfl, by rw [rtT, if_pos (show rtC T (nI 1) (nI j2) = true by unfold rtC; rw [c1, c2]; rfl)]; rfl⟩
      · refine z_aload_n E dX7_rate_25 0 rfl rfl ?_
        refine gt_X7_19 (v := .ref (h 12)) E dX7_rate_26 0 rfl rfl ?_
        refine z_iload_n E dX7_rate_29 2 rfl rfl ?_
        refine z_ialdN (f := (M.2 12)) E dX7_rate_30 4 rfl (by omega) (by decide) ?_
        refine z_topi (y := nI ((T.2 8) j2)) (congrArg nI ((hM.2 j2 (by omega)).2.2.1)) ?_
        refine z_aload_n E dX7_rate_31 0 rfl rfl ?_
        refine gt_X7_25 (v := .ref (h 14)) E dX7_rate_32 0 rfl rfl ?_
        refine z_iconst (v := (nI 5)) E dX7_rate_35 (by decide) ?_
        refine z_iload_n E dX7_rate_36 2 rfl rfl ?_
        refine z_iaddN E dX7_rate_37 ?_
        refine z_ialdN (f := (M.2 14)) E dX7_rate_38 6 rfl (by omega) (by decide) ?_
        refine z_topi (y := nI ((P.2 5) j2)) (congrArg nI (hN.2 j2 (by omega))) ?_
        refine z_iaddN E dX7_rate_39 ?_
        refine z_istore_n (lv' := [(0, .ref a), (1, .int (nI 2)), (2, .int (nI j2)), (3, .int (nI (((T.2 8) j2) + ((P.2 5) j2))))]) E dX7_rate_40 3 rfl (by decide) rfl ?_
        refine z_iload_n E dX7_rate_41 3 rfl rfl ?_
        refine z_aload_n E dX7_rate_42 0 rfl rfl ?_
        refine gt_X7_25 (v := .ref (h 14)) E dX7_rate_43 0 rfl rfl ?_
        refine z_iconst (v := (nI 5)) E dX7_rate_46 (by decide) ?_
        refine z_iload_n E dX7_rate_47 2 rfl rfl ?_
        refine z_iaddN E dX7_rate_48 ?_
        refine z_ialdN (f := (M.2 14)) E dX7_rate_49 6 rfl (by omega) (by decide) ?_
        refine z_topi (y := nI ((P.2 5) j2)) (congrArg nI (hN.2 j2 (by omega))) ?_
        refine z_iaddN E dX7_rate_50 ?_
        refine z_istore (lv' := [(0, .ref a), (1, .int (nI 2)), (2, .int (nI j2)), (3, .int (nI (((T.2 8) j2) + ((P.2 5) j2)))), (4, .int (nI ((((T.2 8) j2) + ((P.2 5) j2)) + ((P.2 5) j2))))]) E dX7_rate_51 (by decide) rfl ?_
        refine z_iload_n E dX7_rate_53 3 rfl rfl ?_
        refine z_aload_n E dX7_rate_54 0 rfl rfl ?_
        refine gt_X7_25 (v := .ref (h 14)) E dX7_rate_55 0 rfl rfl ?_
        refine z_iconst (v := (nI 4)) E dX7_rate_58 (by decide) ?_
        refine z_ialdN (f := (M.2 14)) E dX7_rate_59 6 rfl (by decide) (by decide) ?_
        refine z_topi (y := nI (P.1 4)) (congrArg nI (hN.1 4 (by decide))) ?_
        refine z_se E (rS E hX (c_X7_ones g (P.1 4) (by omega)) mw_X7_ones ms_X7_ones ml_X7_178 dX7_rate_60 (Nat.le_of_ble_eq_true rfl) ⟨(Nat.le_of_ble_eq_true rfl), (Nat.le_of_ble_eq_true rfl)⟩ rfl rfl (Nat.le_of_ble_eq_true rfl)) ?_
        refine z_isub E dX7_rate_63 ?_
        refine z_istore (lv' := [(0, .ref a), (1, .int (nI 2)), (2, .int (nI j2)), (3, .int (nI (((T.2 8) j2) + ((P.2 5) j2)))), (4, .int (nI ((((T.2 8) j2) + ((P.2 5) j2)) + ((P.2 5) j2)))), (5, .int ((nI (((T.2 8) j2) + ((P.2 5) j2))) - (nI (pc12 (P.1 4)))))]) E dX7_rate_64 (by decide) rfl ?_
        refine z_aload_n E dX7_rate_66 0 rfl rfl ?_
        refine z_dup E dX7_rate_67 rfl ?_
        refine gt_X7_217 (v := .long (lN (M.1 1))) E dX7_rate_68 0 rfl rfl ?_
        refine z_iload_n E dX7_rate_71 1 rfl rfl ?_
        refine z_ifN_ne E dX7_rate_72 79 (by decide) (by decide) (fun _ => ?_) (fun h => absurd h (by decide))
        refine z_iload_n E dX7_rate_79 1 rfl rfl ?_
        refine z_iconst (v := (nI 1)) E dX7_rate_80 (by decide) ?_
        refine z_icmpN_ne E dX7_rate_81 90 (by decide) (by decide) (by decide) (fun _ => ?_) (fun h => absurd h (by decide))
        refine z_iload_n E dX7_rate_90 1 rfl rfl ?_
        refine z_iconst (v := (nI 2)) E dX7_rate_91 (by decide) ?_
        refine z_icmpN_ne E dX7_rate_92 101 (by decide) (by decide) (by decide) (fun h => absurd h (by decide)) (fun _ => ?_)
        refine z_ldc2 (v := (lN 101)) E dX7_rate_95 kc_X7_223 ?_
        refine z_goto E dX7_rate_98 126 (by decide) ?_
        refine z_laddN E dX7_rate_126 ?_
        refine pt_X7_217 (x := lN ((M.1 1) + 101)) (ws' := wMod g a h (sF (sF M 0 0) 1 ((M.1 1) + 101))) E dX7_rate_127 0 rfl (Nat.le_of_ble_eq_true rfl) rfl ?_
        refine z_iload_n E dX7_rate_130 1 rfl rfl ?_
        refine z_ifN_ne E dX7_rate_131 138 (by decide) (by decide) (fun _ => ?_) (fun h => absurd h (by decide))
        refine z_iload_n E dX7_rate_138 1 rfl rfl ?_
        refine z_iconst (v := (nI 1)) E dX7_rate_139 (by decide) ?_
        refine z_icmpN_ne E dX7_rate_140 148 (by decide) (by decide) (by decide) (fun _ => ?_) (fun h => absurd h (by decide))
        refine z_iload_n E dX7_rate_148 1 rfl rfl ?_
        refine z_iconst (v := (nI 2)) E dX7_rate_149 (by decide) ?_
        refine z_icmpN_ne E dX7_rate_150 158 (by decide) (by decide) (by decide) (fun h => absurd h (by decide)) (fun _ => ?_)
        refine z_iload E dX7_rate_153 5 rfl ?_
        refine z_goto E dX7_rate_155 190 (by decide) ?_
        refine z_iret E Er dX7_rate_190 ?_
        exact ⟨by rw [rtV, if_pos (show rtC T (nI 2) (nI j2) = true by unfold rtC; rw [c1, c2]; rfl), nI_clamp (by omega)]; unfold rtF; rw [swF_k 2 (Nat.le_of_ble_eq_true rfl) (by decide)]; rfl, by rw [rtT, if_pos (show rtC T (nI 2) (nI j2) = true by unfold rtC; rw [c1, c2]; rfl)]; rfl⟩
      · refine z_aload_n E dX7_rate_25 0 rfl rfl ?_
        refine gt_X7_19 (v := .ref (h 12)) E dX7_rate_26 0 rfl rfl ?_
        refine z_iload_n E dX7_rate_29 2 rfl rfl ?_
        refine z_ialdN (f := (M.2 12)) E dX7_rate_30 4 rfl (by omega) (by decide) ?_
        refine z_topi (y := nI ((T.2 8) j2)) (congrArg nI ((hM.2 j2 (by omega)).2.2.1)) ?_
        refine z_aload_n E dX7_rate_31 0 rfl rfl ?_
        refine gt_X7_25 (v := .ref (h 14)) E dX7_rate_32 0 rfl rfl ?_
        refine z_iconst (v := (nI 5)) E dX7_rate_35 (by decide) ?_
        refine z_iload_n E dX7_rate_36 2 rfl rfl ?_
        refine z_iaddN E dX7_rate_37 ?_
        refine z_ialdN (f := (M.2 14)) E dX7_rate_38 6 rfl (by omega) (by decide) ?_
        refine z_topi (y := nI ((P.2 5) j2)) (congrArg nI (hN.2 j2 (by omega))) ?_
        refine z_iaddN E dX7_rate_39 ?_
        refine z_istore_n (lv' := [(0, .ref a), (1, .int (nI 3)), (2, .int (nI j2)), (3, .int (nI (((T.2 8) j2) + ((P.2 5) j2))))]) E dX7_rate_40 3 rfl (by decide) rfl ?_
        refine z_iload_n E dX7_rate_41 3 rfl rfl ?_
        refine z_aload_n E dX7_rate_42 0 rfl rfl ?_
        refine gt_X7_25 (v := .ref (h 14)) E dX7_rate_43 0 rfl rfl ?_
        refine z_iconst (v := (nI 5)) E dX7_rate_46 (by decide) ?_
        refine z_iload_n E dX7_rate_47 2 rfl rfl ?_
        refine z_iaddN E dX7_rate_48 ?_
        refine z_ialdN (f := (M.2 14)) E dX7_rate_49 6 rfl (by omega) (by decide) ?_
        refine z_topi (y := nI ((P.2 5) j2)) (congrArg nI (hN.2 j2 (by omega))) ?_
        refine z_iaddN E dX7_rate_50 ?_
        refine z_istore (lv' := [(0, .ref a), (1, .int (nI 3)), (2, .int (nI j2)), (3, .int (nI (((T.2 8) j2) + ((P.2 5) j2)))), (4, .int (nI ((((T.2 8) j2) + ((P.2 5) j2)) + ((P.2 5) j2))))]) E dX7_rate_51 (by decide) rfl ?_
        refine z_iload_n E dX7_rate_53 3 rfl rfl ?_
        refine z_aload_n E dX7_rate_54 0 rfl rfl ?_
        refine gt_X7_25 (v := .ref (h 14)) E dX7_rate_55 0 rfl rfl ?_
        refine z_iconst (v := (nI 4)) E dX7_rate_58 (by decide) ?_
        refine z_ialdN (f := (M.2 14)) E dX7_rate_59 6 rfl (by decide) (by decide) ?_
        refine z_topi (y := nI (P.1 4)) (congrArg nI (hN.1 4 (by decide))) ?_
        refine z_se E (rS E hX (c_X7_ones g (P.1 4) (by omega)) mw_X7_ones ms_X7_ones ml_X7_178 dX7_rate_60 (Nat.le_of_ble_eq_true rfl) ⟨(Nat.le_of_ble_eq_true rfl), (Nat.le_of_ble_eq_true rfl)⟩ rfl rfl (Nat.le_of_ble_eq_true rfl)) ?_
        refine z_isub E dX7_rate_63 ?_
        refine z_istore (lv' := [(0, .ref a), (1, .int (nI 3)), (2, .int (nI j2)), (3, .int (nI (((T.2 8) j2) + ((P.2 5) j2)))), (4, .int (nI ((((T.2 8) j2) + ((P.2 5) j2)) + ((P.2 5) j2)))), (5, .int ((nI (((T.2 8) j2) + ((P.2 5) j2))) - (nI (pc12 (P.1 4)))))]) E dX7_rate_64 (by decide) rfl ?_
        refine z_aload_n E dX7_rate_66 0 rfl rfl ?_
        refine z_dup E dX7_rate_67 rfl ?_
        refine gt_X7_217 (v := .long (lN (M.1 1))) E dX7_rate_68 0 rfl rfl ?_
        refine z_iload_n E dX7_rate_71 1 rfl rfl ?_
        refine z_ifN_ne E dX7_rate_72 79 (by decide) (by decide) (fun _ => ?_) (fun h => absurd h (by decide))
        refine z_iload_n E dX7_rate_79 1 rfl rfl ?_
        refine z_iconst (v := (nI 1)) E dX7_rate_80 (by decide) ?_
        refine z_icmpN_ne E dX7_rate_81 90 (by decide) (by decide) (by decide) (fun _ => ?_) (fun h => absurd h (by decide))
        refine z_iload_n E dX7_rate_90 1 rfl rfl ?_
        refine z_iconst (v := (nI 2)) E dX7_rate_91 (by decide) ?_
        refine z_icmpN_ne E dX7_rate_92 101 (by decide) (by decide) (by decide) (fun _ => ?_) (fun h => absurd h (by decide))
        refine z_iload_n E dX7_rate_101 1 rfl rfl ?_
        refine z_iconst (v := (nI 3)) E dX7_rate_102 (by decide) ?_
        refine z_icmpN_ne E dX7_rate_103 112 (by decide) (by decide) (by decide) (fun h => absurd h (by decide)) (fun _ => ?_)
        refine z_ldc2 (v := (lN 1011)) E dX7_rate_106 kc_X7_225 ?_
        refine z_goto E dX7_rate_109 126 (by decide) ?_
        refine z_laddN E dX7_rate_126 ?_
        refine pt_X7_217 (x := lN ((M.1 1) + 1011)) (ws' := wMod g a h (sF (sF M 0 0) 1 ((M.1 1) + 1011))) E dX7_rate_127 0 rfl (Nat.le_of_ble_eq_true rfl) rfl ?_
        refine z_iload_n E dX7_rate_130 1 rfl rfl ?_
        refine z_ifN_ne E dX7_rate_131 138 (by decide) (by decide) (fun _ => ?_) (fun h => absurd h (by decide))
        refine z_iload_n E dX7_rate_138 1 rfl rfl ?_
        refine z_iconst (v := (nI 1)) E dX7_rate_139 (by decide) ?_
        refine z_icmpN_ne E dX7_rate_140 148 (by decide) (by decide) (by decide) (fun _ => ?_) (fun h => absurd h (by decide))
        refine z_iload_n E dX7_rate_148 1 rfl rfl ?_
        refine z_iconst (v := (nI 2)) E dX7_rate_149 (by decide) ?_
        refine z_icmpN_ne E dX7_rate_150 158 (by decide) (by decide) (by decide) (fun _ => ?_) (fun h => absurd h (by decide))
        refine z_iload_n E dX7_rate_158 1 rfl rfl ?_
        refine z_iconst (v := (nI 3)) E dX7_rate_159 (by decide) ?_
        refine z_icmpN_ne E dX7_rate_160 170 (by decide) (by decide) (by decide) (fun h => absurd h (by decide)) (fun _ => ?_)
        refine z_iconst (v := (nI 2)) E dX7_rate_163 (by decide) ?_
        refine z_iload E dX7_rate_164 4 rfl ?_
        refine z_imulN E dX7_rate_166 ?_
        refine z_goto E dX7_rate_167 190 (by decide) ?_
        refine z_iret E Er dX7_rate_190 ?_
        exact ⟨by rw [rtV, if_pos (show rtC T (nI 3) (nI j2) = true by unfold rtC; rw [c1, c2]; rfl), nI_clamp (by omega)]; unfold rtF; rw [swF_k 3 (Nat.le_of_ble_eq_true rfl) (by decide)]; rfl, by rw [rtT, if_pos (show rtC T (nI 3) (nI j2) = true by unfold rtC; rw [c1, c2]; rfl)]; rfl⟩
      · refine z_aload_n E dX7_rate_25 0 rfl rfl ?_
        refine gt_X7_19 (v := .ref (h 12)) E dX7_rate_26 0 rfl rfl ?_
        refine z_iload_n E dX7_rate_29 2 rfl rfl ?_
        refine z_ialdN (f := (M.2 12)) E dX7_rate_30 4 rfl (by omega) (by decide) ?_
        refine z_topi (y := nI ((T.2 8) j2)) (congrArg nI ((hM.2 j2 (by omega)).2.2.1)) ?_
        refine z_aload_n E dX7_rate_31 0 rfl rfl ?_
        refine gt_X7_25 (v := .ref (h 14)) E dX7_rate_32 0 rfl rfl ?_
        refine z_iconst (v := (nI 5)) E dX7_rate_35 (by decide) ?_
        refine z_iload_n E dX7_rate_36 2 rfl rfl ?_
        refine z_iaddN E dX7_rate_37 ?_
        refine z_ialdN (f := (M.2 14)) E dX7_rate_38 6 rfl (by omega) (by decide) ?_
        refine z_topi (y := nI ((P.2 5) j2)) (congrArg nI (hN.2 j2 (by omega))) ?_
        refine z_iaddN E dX7_rate_39 ?_
        refine z_istore_n (lv' := [(0, .ref a), (1, .int (nI 4)), (2, .int (nI j2)), (3, .int (nI (((T.2 8) j2) + ((P.2 5) j2))))]) E dX7_rate_40 3 rfl (by decide) rfl ?_
        refine z_iload_n E dX7_rate_41 3 rfl rfl ?_
        refine z_aload_n E dX7_rate_42 0 rfl rfl ?_
        refine gt_X7_25 (v := .ref (h 14)) E dX7_rate_43 0 rfl rfl ?_
        refine z_iconst (v := (nI 5)) E dX7_rate_46 (by decide) ?_
        refine z_iload_n E dX7_rate_47 2 rfl rfl ?_
        refine z_iaddN E dX7_rate_48 ?_
        refine z_ialdN (f := (M.2 14)) E dX7_rate_49 6 rfl (by omega) (by decide) ?_
        refine z_topi (y := nI ((P.2 5) j2)) (congrArg nI (hN.2 j2 (by omega))) ?_
        refine z_iaddN E dX7_rate_50 ?_
        refine z_istore (lv' := [(0, .ref a), (1, .int (nI 4)), (2, .int (nI j2)), (3, .int (nI (((T.2 8) j2) + ((P.2 5) j2)))), (4, .int (nI ((((T.2 8) j2) + ((P.2 5) j2)) + ((P.2 5) j2))))]) E dX7_rate_51 (by decide) rfl ?_
        refine z_iload_n E dX7_rate_53 3 rfl rfl ?_
        refine z_aload_n E dX7_rate_54 0 rfl rfl ?_
        refine gt_X7_25 (v := .ref (h 14)) E dX7_rate_55 0 rfl rfl ?_
        refine z_iconst (v := (nI 4)) E dX7_rate_58 (by decide) ?_
        refine z_ialdN (f := (M.2 14)) E dX7_rate_59 6 rfl (by decide) (by decide) ?_
        refine z_topi (y := nI (P.1 4)) (congrArg nI (hN.1 4 (by decide))) ?_
        refine z_se E (rS E hX (c_X7_ones g (P.1 4) (by omega)) mw_X7_ones ms_X7_ones ml_X7_178 dX7_rate_60 (Nat.le_of_ble_eq_true rfl) ⟨(Nat.le_of_ble_eq_true rfl), (Nat.le_of_ble_eq_true rfl)⟩ rfl rfl (Nat.le_of_ble_eq_true rfl)) ?_
        refine z_isub E dX7_rate_63 ?_
        refine z_istore (lv' := [(0, .ref a), (1, .int (nI 4)), (2, .int (nI j2)), (3, .int (nI (((T.2 8) j2) + ((P.2 5) j2)))), (4, .int (nI ((((T.2 8) j2) + ((P.2 5) j2)) + ((P.2 5) j2)))), (5, .int ((nI (((T.2 8) j2) + ((P.2 5) j2))) - (nI (pc12 (P.1 4)))))]) E dX7_rate_64 (by decide) rfl ?_
        refine z_aload_n E dX7_rate_66 0 rfl rfl ?_
        refine z_dup E dX7_rate_67 rfl ?_
        refine gt_X7_217 (v := .long (lN (M.1 1))) E dX7_rate_68 0 rfl rfl ?_
        refine z_iload_n E dX7_rate_71 1 rfl rfl ?_
        refine z_ifN_ne E dX7_rate_72 79 (by decide) (by decide) (fun _ => ?_) (fun h => absurd h (by decide))
        refine z_iload_n E dX7_rate_79 1 rfl rfl ?_
        refine z_iconst (v := (nI 1)) E dX7_rate_80 (by decide) ?_
        refine z_icmpN_ne E dX7_rate_81 90 (by decide) (by decide) (by decide) (fun _ => ?_) (fun h => absurd h (by decide))
        refine z_iload_n E dX7_rate_90 1 rfl rfl ?_
        refine z_iconst (v := (nI 2)) E dX7_rate_91 (by decide) ?_
        refine z_icmpN_ne E dX7_rate_92 101 (by decide) (by decide) (by decide) (fun _ => ?_) (fun h => absurd h (by decide))
        refine z_iload_n E dX7_rate_101 1 rfl rfl ?_
        refine z_iconst (v := (nI 3)) E dX7_rate_102 (by decide) ?_
        refine z_icmpN_ne E dX7_rate_103 112 (by decide) (by decide) (by decide) (fun _ => ?_) (fun h => absurd h (by decide))
        refine z_iload_n E dX7_rate_112 1 rfl rfl ?_
        refine z_iconst (v := (nI 4)) E dX7_rate_113 (by decide) ?_
        refine z_icmpN_ne E dX7_rate_114 123 (by decide) (by decide) (by decide) (fun h => absurd h (by decide)) (fun _ => ?_)
        refine z_ldc2 (v := (lN 10101)) E dX7_rate_117 kc_X7_227 ?_
        refine z_goto E dX7_rate_120 126 (by decide) ?_
        refine z_laddN E dX7_rate_126 ?_
        refine pt_X7_217 (x := lN ((M.1 1) + 10101)) (ws' := wMod g a h (sF (sF M 0 0) 1 ((M.1 1) + 10101))) E dX7_rate_127 0 rfl (Nat.le_of_ble_eq_true rfl) rfl ?_
        refine z_iload_n E dX7_rate_130 1 rfl rfl ?_
        refine z_ifN_ne E dX7_rate_131 138 (by decide) (by decide) (fun _ => ?_) (fun h => absurd h (by decide))
        refine z_iload_n E dX7_rate_138 1 rfl rfl ?_
        refine z_iconst (v := (nI 1)) E dX7_rate_139 (by decide) ?_
        refine z_icmpN_ne E dX7_rate_140 148 (by decide) (by decide) (by decide) (fun _ => ?_) (fun h => absurd h (by decide))
        refine z_iload_n E dX7_rate_148 1 rfl rfl ?_
        refine z_iconst (v := (nI 2)) E dX7_rate_149 (by decide) ?_
        refine z_icmpN_ne E dX7_rate_150 158 (by decide) (by decide) (by decide) (fun _ => ?_) (fun h => absurd h (by decide))
        refine z_iload_n E dX7_rate_158 1 rfl rfl ?_
        refine z_iconst (v := (nI 3)) E dX7_rate_159 (by decide) ?_
        refine z_icmpN_ne E dX7_rate_160 170 (by decide) (by decide) (by decide) (fun _ => ?_) (fun h => absurd h (by decide))
        refine z_iload_n E dX7_rate_170 1 rfl rfl ?_
        refine z_iconst (v := (nI 4)) E dX7_rate_171 (by decide) ?_
        refine z_icmpN_ne E dX7_rate_172 182 (by decide) (by decide) (by decide) (fun h => absurd h (by decide)) (fun _ => ?_)
        refine z_iload E dX7_rate_175 5 rfl ?_
        refine z_iload_n E dX7_rate_177 2 rfl rfl ?_
        refine z_iadd E dX7_rate_178 ?_
        refine z_goto E dX7_rate_179 190 (by decide) ?_
        refine z_iret E Er dX7_rate_190 ?_
        exact ⟨by rw [rtV, if_pos (show rtC T (nI 4) (nI j2) = true by unfold rtC; rw [c1, c2]; rfl), nI_clamp (by omega)]; unfold rtF; rw [swF_k 4 (Nat.le_of_ble_eq_true rfl) (by decide)]; rfl, by rw [rtT, if_pos (show rtC T (nI 4) (nI j2) = true by unfold rtC; rw [c1, c2]; rfl)]; rfl⟩
      · refine z_aload_n E dX7_rate_25 0 rfl rfl ?_
        refine gt_X7_19 (v := .ref (h 12)) E dX7_rate_26 0 rfl rfl ?_
        refine z_iload_n E dX7_rate_29 2 rfl rfl ?_
        refine z_ialdN (f := (M.2 12)) E dX7_rate_30 4 rfl (by omega) (by decide) ?_
        refine z_topi (y := nI ((T.2 8) j2)) (congrArg nI ((hM.2 j2 (by omega)).2.2.1)) ?_
        refine z_aload_n E dX7_rate_31 0 rfl rfl ?_
        refine gt_X7_25 (v := .ref (h 14)) E dX7_rate_32 0 rfl rfl ?_
        refine z_iconst (v := (nI 5)) E dX7_rate_35 (by decide) ?_
        refine z_iload_n E dX7_rate_36 2 rfl rfl ?_
        refine z_iaddN E dX7_rate_37 ?_
        refine z_ialdN (f := (M.2 14)) E dX7_rate_38 6 rfl (by omega) (by decide) ?_
        refine z_topi (y := nI ((P.2 5) j2)) (congrArg nI (hN.2 j2 (by omega))) ?_
        refine z_iaddN E dX7_rate_39 ?_
        refine z_istore_n (lv' := [(0, .ref a), (1, .int (nI 5)), (2, .int (nI j2)), (3, .int (nI (((T.2 8) j2) + ((P.2 5) j2))))]) E dX7_rate_40 3 rfl (by decide) rfl ?_
        refine z_iload_n E dX7_rate_41 3 rfl rfl ?_
        refine z_aload_n E dX7_rate_42 0 rfl rfl ?_
        refine gt_X7_25 (v := .ref (h 14)) E dX7_rate_43 0 rfl rfl ?_
        refine z_iconst (v := (nI 5)) E dX7_rate_46 (by decide) ?_
        refine z_iload_n E dX7_rate_47 2 rfl rfl ?_
        refine z_iaddN E dX7_rate_48 ?_
        refine z_ialdN (f := (M.2 14)) E dX7_rate_49 6 rfl (by omega) (by decide) ?_
        refine z_topi (y := nI ((P.2 5) j2)) (congrArg nI (hN.2 j2 (by omega))) ?_
        refine z_iaddN E dX7_rate_50 ?_
        refine z_istore (lv' := [(0, .ref a), (1, .int (nI 5)), (2, .int (nI j2)), (3, .int (nI (((T.2 8) j2) + ((P.2 5) j2)))), (4, .int (nI ((((T.2 8) j2) + ((P.2 5) j2)) + ((P.2 5) j2))))]) E dX7_rate_51 (by decide) rfl ?_
        refine z_iload_n E dX7_rate_53 3 rfl rfl ?_
        refine z_aload_n E dX7_rate_54 0 rfl rfl ?_
        refine gt_X7_25 (v := .ref (h 14)) E dX7_rate_55 0 rfl rfl ?_
        refine z_iconst (v := (nI 4)) E dX7_rate_58 (by decide) ?_
        refine z_ialdN (f := (M.2 14)) E dX7_rate_59 6 rfl (by decide) (by decide) ?_
        refine z_topi (y := nI (P.1 4)) (congrArg nI (hN.1 4 (by decide))) ?_
        refine z_se E (rS E hX (c_X7_ones g (P.1 4) (by omega)) mw_X7_ones ms_X7_ones ml_X7_178 dX7_rate_60 (Nat.le_of_ble_eq_true rfl) ⟨(Nat.le_of_ble_eq_true rfl), (Nat.le_of_ble_eq_true rfl)⟩ rfl rfl (Nat.le_of_ble_eq_true rfl)) ?_
        refine z_isub E dX7_rate_63 ?_
        refine z_istore (lv' := [(0, .ref a), (1, .int (nI 5)), (2, .int (nI j2)), (3, .int (nI (((T.2 8) j2) + ((P.2 5) j2)))), (4, .int (nI ((((T.2 8) j2) + ((P.2 5) j2)) + ((P.2 5) j2)))), (5, .int ((nI (((T.2 8) j2) + ((P.2 5) j2))) - (nI (pc12 (P.1 4)))))]) E dX7_rate_64 (by decide) rfl ?_
        refine z_aload_n E dX7_rate_66 0 rfl rfl ?_
        refine z_dup E dX7_rate_67 rfl ?_
        refine gt_X7_217 (v := .long (lN (M.1 1))) E dX7_rate_68 0 rfl rfl ?_
        refine z_iload_n E dX7_rate_71 1 rfl rfl ?_
        refine z_ifN_ne E dX7_rate_72 79 (by decide) (by decide) (fun _ => ?_) (fun h => absurd h (by decide))
        refine z_iload_n E dX7_rate_79 1 rfl rfl ?_
        refine z_iconst (v := (nI 1)) E dX7_rate_80 (by decide) ?_
        refine z_icmpN_ne E dX7_rate_81 90 (by decide) (by decide) (by decide) (fun _ => ?_) (fun h => absurd h (by decide))
        refine z_iload_n E dX7_rate_90 1 rfl rfl ?_
        refine z_iconst (v := (nI 2)) E dX7_rate_91 (by decide) ?_
        refine z_icmpN_ne E dX7_rate_92 101 (by decide) (by decide) (by decide) (fun _ => ?_) (fun h => absurd h (by decide))
        refine z_iload_n E dX7_rate_101 1 rfl rfl ?_
        refine z_iconst (v := (nI 3)) E dX7_rate_102 (by decide) ?_
        refine z_icmpN_ne E dX7_rate_103 112 (by decide) (by decide) (by decide) (fun _ => ?_) (fun h => absurd h (by decide))
        refine z_iload_n E dX7_rate_112 1 rfl rfl ?_
        refine z_iconst (v := (nI 4)) E dX7_rate_113 (by decide) ?_
        refine z_icmpN_ne E dX7_rate_114 123 (by decide) (by decide) (by decide) (fun _ => ?_) (fun h => absurd h (by decide))
        refine z_ldc2 (v := (lN 100001)) E dX7_rate_123 kc_X7_229 ?_
        refine z_laddN E dX7_rate_126 ?_
        refine pt_X7_217 (x := lN ((M.1 1) + 100001)) (ws' := wMod g a h (sF (sF M 0 0) 1 ((M.1 1) + 100001))) E dX7_rate_127 0 rfl (Nat.le_of_ble_eq_true rfl) rfl ?_
        refine z_iload_n E dX7_rate_130 1 rfl rfl ?_
        refine z_ifN_ne E dX7_rate_131 138 (by decide) (by decide) (fun _ => ?_) (fun h => absurd h (by decide))
        refine z_iload_n E dX7_rate_138 1 rfl rfl ?_
        refine z_iconst (v := (nI 1)) E dX7_rate_139 (by decide) ?_
        refine z_icmpN_ne E dX7_rate_140 148 (by decide) (by decide) (by decide) (fun _ => ?_) (fun h => absurd h (by decide))
        refine z_iload_n E dX7_rate_148 1 rfl rfl ?_
        refine z_iconst (v := (nI 2)) E dX7_rate_149 (by decide) ?_
        refine z_icmpN_ne E dX7_rate_150 158 (by decide) (by decide) (by decide) (fun _ => ?_) (fun h => absurd h (by decide))
        refine z_iload_n E dX7_rate_158 1 rfl rfl ?_
        refine z_iconst (v := (nI 3)) E dX7_rate_159 (by decide) ?_
        refine z_icmpN_ne E dX7_rate_160 170 (by decide) (by decide) (by decide) (fun _ => ?_) (fun h => absurd h (by decide))
        refine z_iload_n E dX7_rate_170 1 rfl rfl ?_
        refine z_iconst (v := (nI 4)) E dX7_rate_171 (by decide) ?_
        refine z_icmpN_ne E dX7_rate_172 182 (by decide) (by decide) (by decide) (fun _ => ?_) (fun h => absurd h (by decide))
        refine z_iload_n E dX7_rate_182 3 rfl rfl ?_
        refine z_aload_n E dX7_rate_183 0 rfl rfl ?_
        refine gt_X7_25 (v := .ref (h 14)) E dX7_rate_184 0 rfl rfl ?_
        refine z_iconst (v := (nI 3)) E dX7_rate_187 (by decide) ?_
        refine z_ialdN (f := (M.2 14)) E dX7_rate_188 6 rfl (by decide) (by decide) ?_
        refine z_topi (y := nI (P.1 3)) (congrArg nI (hN.1 3 (by decide))) ?_
        refine z_iaddN E dX7_rate_189 ?_
        refine z_iret E Er dX7_rate_190 ?_
        exact ⟨by rw [rtV, if_pos (show rtC T (nI 5) (nI j2) = true by unfold rtC; rw [c1, c2]; rfl), nI_clamp (by omega)]; unfold rtF; rw [swF_k 5 (Nat.le_of_ble_eq_true rfl) (by decide)]; rfl, by rw [rtT, if_pos (show rtC T (nI 5) (nI j2) = true by unfold rtC; rw [c1, c2]; rfl)]; rfl⟩
    · refine z_ldc (v := (-1000000)) E dX7_rate_22 kc_X7_216 ?_
      refine z_iret E Er dX7_rate_24 ?_
      exact ⟨by rw [rtV, if_neg (show ¬ rtC T n r = true by unfold rtC; rw [c2]; simp)], by rw [rtT, if_neg (show ¬ rtC T n r = true by unfold rtC; rw [c2]; simp), Nat.add_zero]; exact congrArg (wMod g a h) (rt_same M).symm⟩
