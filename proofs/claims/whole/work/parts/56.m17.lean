set_option maxHeartbeats 4000000 in
set_option maxRecDepth 100000 in
theorem l_mse1 (g : GC) (a : Nat) (h : Nat → Nat) (M : NS) (X : XC) (E : Ob g X cX7_settles 2 RX7) (hX : X.2.2.1 = zR 0 0 0) (K : ∀ (f : Nat → Nat), (∀ k, k < 6 → f k = M.2 9 (6 + k)) → Z g X 2 0 0 (wMod g a h (sA M 9 f)) [(0, .ref a)] [] 29) : ∀ (n : Nat) (i : Nat) (f : Nat → Nat), (i ≤ 6) → (∀ k, k < i → f k = M.2 9 (6 + k)) → (∀ k, 6 ≤ k → f k = M.2 9 k) → (6 < i + n) → Z g X 2 0 0 (wMod g a h (sA M 9 f)) [(0, .ref a), (1, .int (nI i))] [] 2 := by
  intro n
  induction n with
  | zero =>
    intro i f hi hz hA hf
    exfalso; omega
  | succ n ih =>
    intro i f hi hz hA hf
    refine z_iload_n E dX7_settles_2 1 rfl rfl ?_
    refine z_bipush (v := (nI 6)) E dX7_settles_3 (by decide) ?_
    refine z_icmpN_ge E dX7_settles_5 29 (by decide) (by omega) (by decide) (fun c1 => ?_) (fun c1 => ?_)
    · refine z_lv [0] rfl ?_; exact K f (fun k hk => hz k (by omega))
    · refine z_aload_n E dX7_settles_8 0 rfl rfl ?_
      refine gt_X7_13 (v := .ref (h 9)) E dX7_settles_9 0 rfl rfl ?_
      refine z_iload_n E dX7_settles_12 1 rfl rfl ?_
      refine z_aload_n E dX7_settles_13 0 rfl rfl ?_
      refine gt_X7_13 (v := .ref (h 9)) E dX7_settles_14 0 rfl rfl ?_
      refine z_bipush (v := (nI 6)) E dX7_settles_17 (by decide) ?_
      refine z_iload_n E dX7_settles_19 1 rfl rfl ?_
      refine z_iaddN E dX7_settles_20 ?_
      refine z_ialdN (f := f) E dX7_settles_21 2 rfl (by omega) (by decide) ?_
      refine z_iastN (f := f) (i := i) (x := (f (6 + i))) (ws' := wMod g a h (sA M 9 (va_up f i (f (6 + i))))) E dX7_settles_22 2 rfl (by omega) (by decide) rfl ?_
      refine z_iincN (lv' := [(0, .ref a), (1, .int (nI (i + 1)))]) E dX7_settles_23 1 rfl (by decide) rfl ?_
      refine z_goto E dX7_settles_26 2 (by decide) ?_
      exact ih (i + 1) (va_up f i (f (6 + i))) (by omega) (fun k hk => by unfold va_up; by_cases q : k = i; (rw [if_pos q, hA _ (by omega), q]); (rw [if_neg q]; exact hz k (by omega))) (fun k hk => by unfold va_up; rw [if_neg (by omega)]; exact hA k hk) (by omega)

set_option maxHeartbeats 4000000 in
set_option maxRecDepth 100000 in
theorem l_mse2 (g : GC) (a : Nat) (h : Nat → Nat) (M : NS) (X : XC) (E : Ob g X cX7_settles 2 RX7) (hX : X.2.2.1 = zR 0 0 0) (f9 : Nat → Nat) (K : ∀ (e : Nat → Nat) (m : Nat → Nat) (s : Nat → Nat), (∀ k, k < 24 → e k = M.2 11 (24 + k)) → (∀ k, k < 12 → m k = M.2 12 (12 + k)) → (∀ k, k < 12 → s k = M.2 13 (12 + k)) → Z g X 2 0 0 (wMod g a h (sA (sA (sA (sA M 9 f9) 11 e) 12 m) 13 s)) [(0, .ref a)] [] 113) : ∀ (n : Nat) (i : Nat) (e : Nat → Nat) (m : Nat → Nat) (s : Nat → Nat), (i ≤ 12) → (∀ k, k < 2 * i → e k = M.2 11 (24 + k)) → (∀ k, 24 ≤ k → e k = M.2 11 k) → (∀ k, k < i → m k = M.2 12 (12 + k)) → (∀ k, 12 ≤ k → m k = M.2 12 k) → (∀ k, k < i → s k = M.2 13 (12 + k)) → (∀ k, 12 ≤ k → s k = M.2 13 k) → (12 < i + n) → Z g X 2 0 0 (wMod g a h (sA (sA (sA (sA M 9 f9) 11 e) 12 m) 13 s)) [(0, .ref a), (1, .int (nI i))] [] 31 := by
  intro n
  induction n with
  | zero =>
    intro i e m s hi he heA hm hmA hs hsA hf
    exfalso; omega
  | succ n ih =>
    intro i e m s hi he heA hm hmA hs hsA hf
    refine z_iload_n E dX7_settles_31 1 rfl rfl ?_
    refine z_bipush (v := (nI 12)) E dX7_settles_32 (by decide) ?_
    refine z_icmpN_ge E dX7_settles_34 113 (by decide) (by omega) (by decide) (fun c1 => ?_) (fun c1 => ?_)
    · refine z_lv [0] rfl ?_; exact K e m s (fun k hk => he k (by omega)) (fun k hk => hm k (by omega)) (fun k hk => hs k (by omega))
    · refine z_aload_n E dX7_settles_37 0 rfl rfl ?_
      refine gt_X7_16 (v := .ref (h 11)) E dX7_settles_38 0 rfl rfl ?_
      refine z_iconst (v := (nI 2)) E dX7_settles_41 (by decide) ?_
      refine z_iload_n E dX7_settles_42 1 rfl rfl ?_
      refine z_imulN E dX7_settles_43 ?_
      refine z_aload_n E dX7_settles_44 0 rfl rfl ?_
      refine gt_X7_16 (v := .ref (h 11)) E dX7_settles_45 0 rfl rfl ?_
      refine z_bipush (v := (nI 24)) E dX7_settles_48 (by decide) ?_
      refine z_iconst (v := (nI 2)) E dX7_settles_50 (by decide) ?_
      refine z_iload_n E dX7_settles_51 1 rfl rfl ?_
      refine z_imulN E dX7_settles_52 ?_
      refine z_iaddN E dX7_settles_53 ?_
      refine z_ialdN (f := e) E dX7_settles_54 3 rfl (by omega) (by decide) ?_
      refine z_iastN (f := e) (i := (2 * i)) (x := (e (24 + (2 * i)))) (ws' := wMod g a h (sA (sA (sA (sA M 9 f9) 11 (va_up e (2 * i) (e (24 + (2 * i))))) 12 m) 13 s)) E dX7_settles_55 3 rfl (by omega) (by decide) rfl ?_
      refine z_aload_n E dX7_settles_56 0 rfl rfl ?_
      refine gt_X7_16 (v := .ref (h 11)) E dX7_settles_57 0 rfl rfl ?_
      refine z_iconst (v := (nI 2)) E dX7_settles_60 (by decide) ?_
      refine z_iload_n E dX7_settles_61 1 rfl rfl ?_
      refine z_imulN E dX7_settles_62 ?_
      refine z_iconst (v := (nI 1)) E dX7_settles_63 (by decide) ?_
      refine z_iaddN E dX7_settles_64 ?_
      refine z_aload_n E dX7_settles_65 0 rfl rfl ?_
      refine gt_X7_16 (v := .ref (h 11)) E dX7_settles_66 0 rfl rfl ?_
      refine z_bipush (v := (nI 25)) E dX7_settles_69 (by decide) ?_
      refine z_iconst (v := (nI 2)) E dX7_settles_71 (by decide) ?_
      refine z_iload_n E dX7_settles_72 1 rfl rfl ?_
      refine z_imulN E dX7_settles_73 ?_
      refine z_iaddN E dX7_settles_74 ?_
      refine z_ialdN (f := (va_up e (2 * i) (e (24 + (2 * i))))) E dX7_settles_75 3 rfl (by omega) (by decide) ?_
      refine z_iastN (f := (va_up e (2 * i) (e (24 + (2 * i))))) (i := ((2 * i) + 1)) (x := ((va_up e (2 * i) (e (24 + (2 * i)))) (25 + (2 * i)))) (ws' := wMod g a h (sA (sA (sA (sA M 9 f9) 11 (va_up (va_up e (2 * i) (e (24 + (2 * i)))) ((2 * i) + 1) ((va_up e (2 * i) (e (24 + (2 * i)))) (25 + (2 * i))))) 12 m) 13 s)) E dX7_settles_76 3 rfl (by omega) (by decide) rfl ?_
      refine z_aload_n E dX7_settles_77 0 rfl rfl ?_
      refine gt_X7_19 (v := .ref (h 12)) E dX7_settles_78 0 rfl rfl ?_
      refine z_iload_n E dX7_settles_81 1 rfl rfl ?_
      refine z_aload_n E dX7_settles_82 0 rfl rfl ?_
      refine gt_X7_19 (v := .ref (h 12)) E dX7_settles_83 0 rfl rfl ?_
      refine z_bipush (v := (nI 12)) E dX7_settles_86 (by decide) ?_
      refine z_iload_n E dX7_settles_88 1 rfl rfl ?_
      refine z_iaddN E dX7_settles_89 ?_
      refine z_ialdN (f := m) E dX7_settles_90 4 rfl (by omega) (by decide) ?_
      refine z_iastN (f := m) (i := i) (x := (m (12 + i))) (ws' := wMod g a h (sA (sA (sA (sA M 9 f9) 11 (va_up (va_up e (2 * i) (e (24 + (2 * i)))) ((2 * i) + 1) ((va_up e (2 * i) (e (24 + (2 * i)))) (25 + (2 * i))))) 12 (va_up m i (m (12 + i)))) 13 s)) E dX7_settles_91 4 rfl (by omega) (by decide) rfl ?_
      refine z_aload_n E dX7_settles_92 0 rfl rfl ?_
      refine gt_X7_22 (v := .ref (h 13)) E dX7_settles_93 0 rfl rfl ?_
      refine z_iload_n E dX7_settles_96 1 rfl rfl ?_
      refine z_aload_n E dX7_settles_97 0 rfl rfl ?_
      refine gt_X7_22 (v := .ref (h 13)) E dX7_settles_98 0 rfl rfl ?_
      refine z_bipush (v := (nI 12)) E dX7_settles_101 (by decide) ?_
      refine z_iload_n E dX7_settles_103 1 rfl rfl ?_
      refine z_iaddN E dX7_settles_104 ?_
      refine z_ialdN (f := s) E dX7_settles_105 5 rfl (by omega) (by decide) ?_
      refine z_iastN (f := s) (i := i) (x := (s (12 + i))) (ws' := wMod g a h (sA (sA (sA (sA M 9 f9) 11 (va_up (va_up e (2 * i) (e (24 + (2 * i)))) ((2 * i) + 1) ((va_up e (2 * i) (e (24 + (2 * i)))) (25 + (2 * i))))) 12 (va_up m i (m (12 + i)))) 13 (va_up s i (s (12 + i))))) E dX7_settles_106 5 rfl (by omega) (by decide) rfl ?_
      refine z_iincN (lv' := [(0, .ref a), (1, .int (nI (i + 1)))]) E dX7_settles_107 1 rfl (by decide) rfl ?_
      refine z_goto E dX7_settles_110 31 (by decide) ?_
      exact ih (i + 1) (va_up (va_up e (2 * i) (e (24 + (2 * i)))) ((2 * i) + 1) ((va_up e (2 * i) (e (24 + (2 * i)))) (25 + (2 * i)))) (va_up m i (m (12 + i))) (va_up s i (s (12 + i))) (by omega) (fun k hk => by unfold va_up; by_cases q : k = 2 * i + 1; (rw [if_pos q, if_neg (by omega), heA _ (by omega), show 25 + 2 * i = 24 + k by omega]); (rw [if_neg q]; by_cases q2 : k = 2 * i; (rw [if_pos q2, heA _ (by omega), q2]); (rw [if_neg q2]; exact he k (by omega)))) (fun k hk => by unfold va_up; rw [if_neg (by omega), if_neg (by omega)]; exact heA k hk) (fun k hk => by unfold va_up; by_cases q : k = i; (rw [if_pos q, hmA _ (by omega), q]); (rw [if_neg q]; exact hm k (by omega))) (fun k hk => by unfold va_up; rw [if_neg (by omega)]; exact hmA k hk) (fun k hk => by unfold va_up; by_cases q : k = i; (rw [if_pos q, hsA _ (by omega), q]); (rw [if_neg q]; exact hs k (by omega))) (fun k hk => by unfold va_up; rw [if_neg (by omega)]; exact hsA k hk) (by omega)

set_option maxHeartbeats 4000000 in
set_option maxRecDepth 100000 in
theorem l_mse3 (g : GC) (a : Nat) (h : Nat → Nat) (M : NS) (X : XC) (E : Ob g X cX7_settles 2 RX7) (hX : X.2.2.1 = zR 0 0 0) (f9 e m s : Nat → Nat) (K : ∀ (f : Nat → Nat), (∀ k, k < 17 → f k = 0) → Z g X 2 0 0 (wMod g a h (sA (sA (sA (sA (sA M 9 f9) 11 e) 12 m) 13 s) 14 f)) [(0, .ref a)] [] 134) : ∀ (n : Nat) (i : Nat) (f : Nat → Nat), (i ≤ 17) → (∀ k, k < i → f k = 0) → (17 < i + n) → Z g X 2 0 0 (wMod g a h (sA (sA (sA (sA (sA M 9 f9) 11 e) 12 m) 13 s) 14 f)) [(0, .ref a), (1, .int (nI i))] [] 115 := by
  intro n
  induction n with
  | zero =>
    intro i f hi hz hf
    exfalso; omega
  | succ n ih =>
    intro i f hi hz hf
    refine z_iload_n E dX7_settles_115 1 rfl rfl ?_
    refine z_bipush (v := (nI 17)) E dX7_settles_116 (by decide) ?_
    refine z_icmpN_ge E dX7_settles_118 134 (by decide) (by omega) (by decide) (fun c1 => ?_) (fun c1 => ?_)
    · refine z_lv [0] rfl ?_; exact K f (fun k hk => hz k (by omega))
    · refine z_aload_n E dX7_settles_121 0 rfl rfl ?_
      refine gt_X7_25 (v := .ref (h 14)) E dX7_settles_122 0 rfl rfl ?_
      refine z_iload_n E dX7_settles_125 1 rfl rfl ?_
      refine z_iconst (v := (nI 0)) E dX7_settles_126 (by decide) ?_
      refine z_iastN (f := f) (i := i) (x := 0) (ws' := wMod g a h (sA (sA (sA (sA (sA M 9 f9) 11 e) 12 m) 13 s) 14 (va_up f i 0))) E dX7_settles_127 6 rfl (by omega) (by decide) rfl ?_
      refine z_iincN (lv' := [(0, .ref a), (1, .int (nI (i + 1)))]) E dX7_settles_128 1 rfl (by decide) rfl ?_
      refine z_goto E dX7_settles_131 115 (by decide) ?_
      exact ih (i + 1) (va_up f i 0) (by omega) (fun k hk => by unfold va_up; split; rfl; exact hz k (by omega)) (by omega)

theorem se_T {D M M2 : NS} (h : mdT D M) (hR : D.1 1 ≤ 12) (h9 : ∀ k, k < 6 → M2.2 9 k = M.2 9 (6 + k)) (h11 : ∀ k, k < 24 → M2.2 11 k = M.2 11 (24 + k)) (h12 : ∀ k, k < 12 → M2.2 12 k = M.2 12 (12 + k)) (h13 : ∀ k, k < 12 → M2.2 13 k = M.2 13 (12 + k)) : mrT D M2 := by
  refine ⟨fun k hk => (h9 k hk).trans (h.1 k hk), fun r hr => ?_⟩
  have hb := h.2.1 r hr
  refine ⟨(h11 _ (by omega)).trans hb.1, ?_, (h12 _ (by omega)).trans hb.2.2.1, (h13 _ (by omega)).trans hb.2.2.2⟩
  rw [h11 _ (by omega), show 24 + (2 * r + 1) = 25 + 2 * r by omega]
  exact hb.2.1
theorem se_P {x : Nat} {f : Nat → Nat} {M2 : NS} (e : M2.2 14 = va_up f 0 x) (hz : ∀ k, k < 17 → f k = 0) : mrP (st0 x) M2 := by
  refine ⟨fun k hk => ?_, fun r hr => ?_⟩
  · rw [e]
    show va_up f 0 x k = if k = 0 then x else 0
    unfold va_up
    by_cases q : k = 0
    · rw [if_pos q, if_pos q]
    · rw [if_neg q, if_neg q]; exact hz k (by omega)
  · rw [e]
    unfold va_up
    rw [if_neg (by omega)]
    exact hz _ (by omega)

set_option maxHeartbeats 4000000 in
set_option maxRecDepth 100000 in
theorem c_X7_settles (g : GC) (a : Nat) (h : Nat → Nat) (M : NS) : Ct g yX7_settles cX7_settles 2 none 0 0 0 [.ref a] (wMod g a h M) (QV (fun w_ => ∃ M2 : NS, w_ = wMod g a h M2 ∧ ((∀ D, mdT D M → D.1 1 ≤ 12 → mrT D M2 ∧ mrP (st0 (D.1 2)) M2) ∧ M2.1 3 = 0 ∧ M2.1 18 = 0 ∧ M2.1 20 = 0 ∧ M2.1 23 = 0 ∧ M2.1 1 = M.1 1 ∧ M2.2 16 0 = 0 ∧ M2.2 16 1 = 0 ∧ M2.1 7 = M.1 7 ∧ M2.1 8 = M.1 8))) := by
  refine Ct.of (by decide) (Nat.le_of_ble_eq_true rfl) ?_
  intro X E Er hX _ hnm
  have E : Ob g X cX7_settles 2 RX7 := E
  refine z_lve (lv' := [(0, .ref a)]) rfl ?_
  refine z_iconst (v := (nI 0)) E dX7_settles_0 (by decide) ?_
  refine z_istore_n (lv' := [(0, .ref a), (1, .int (nI 0))]) E dX7_settles_1 1 rfl (by decide) rfl ?_
  refine l_mse1 g a h M X E hX (fun f hz => ?_) 7 0 (M.2 9) (by omega) (fun k hk => absurd hk (Nat.not_lt_zero k)) (fun k _ => rfl) (by omega)
  refine z_iconst (v := (nI 0)) E dX7_settles_29 (by decide) ?_
  refine z_istore_n (lv' := [(0, .ref a), (1, .int (nI 0))]) E dX7_settles_30 1 rfl (by decide) rfl ?_
  refine z_ws (ws' := wMod g a h (sA (sA (sA (sA M 9 f) 11 (M.2 11)) 12 (M.2 12)) 13 (M.2 13))) rfl ?_
  refine l_mse2 g a h M X E hX f (fun e m s he hm hs => ?_) 13 0 (M.2 11) (M.2 12) (M.2 13) (by omega) (fun k hk => absurd hk (Nat.not_lt_zero k)) (fun k _ => rfl) (fun k hk => absurd hk (Nat.not_lt_zero k)) (fun k _ => rfl) (fun k hk => absurd hk (Nat.not_lt_zero k)) (fun k _ => rfl) (by omega)
  refine z_iconst (v := (nI 0)) E dX7_settles_113 (by decide) ?_
  refine z_istore_n (lv' := [(0, .ref a), (1, .int (nI 0))]) E dX7_settles_114 1 rfl (by decide) rfl ?_
  refine z_ws (ws' := wMod g a h (sA (sA (sA (sA (sA M 9 f) 11 e) 12 m) 13 s) 14 (M.2 14))) rfl ?_
  refine l_mse3 g a h M X E hX f e m s (fun f4 hz4 => ?_) 18 0 (M.2 14) (by omega) (fun k hk => absurd hk (Nat.not_lt_zero k)) (by omega)
  refine z_aload_n E dX7_settles_134 0 rfl rfl ?_
  refine gt_X7_25 (v := .ref (h 14)) E dX7_settles_135 0 rfl rfl ?_
  refine z_iconst (v := (nI 0)) E dX7_settles_138 (by decide) ?_
  refine z_aload_n E dX7_settles_139 0 rfl rfl ?_
  refine gt_X7_13 (v := .ref (h 9)) E dX7_settles_140 0 rfl rfl ?_
  refine z_iconst (v := (nI 2)) E dX7_settles_143 (by decide) ?_
  refine z_ialdN (f := f) E dX7_settles_144 2 rfl (by decide) (by decide) ?_
  refine z_iastN (f := f4) (i := 0) (x := (f 2)) (ws' := wMod g a h (sA (sA (sA (sA (sA M 9 f) 11 e) 12 m) 13 s) 14 (va_up f4 0 (f 2)))) E dX7_settles_145 6 rfl (by decide) (by decide) rfl ?_
  refine z_aload_n E dX7_settles_146 0 rfl rfl ?_
  refine z_iconst (v := (nI 0)) E dX7_settles_147 (by decide) ?_
  refine pt_X7_77 (x := nI 0) (ws' := wMod g a h (sA (sA (sA (sA (sA (sF M 3 0) 9 f) 11 e) 12 m) 13 s) 14 (va_up f4 0 (f 2)))) E dX7_settles_148 0 rfl (Nat.le_of_ble_eq_true rfl) rfl ?_
  refine z_aload_n E dX7_settles_151 0 rfl rfl ?_
  refine z_iconst (v := (nI 0)) E dX7_settles_152 (by decide) ?_
  refine pt_X7_134 (x := nI 0) (ws' := wMod g a h (sA (sA (sA (sA (sA (sF (sF M 3 0) 20 0) 9 f) 11 e) 12 m) 13 s) 14 (va_up f4 0 (f 2)))) E dX7_settles_153 0 rfl (Nat.le_of_ble_eq_true rfl) rfl ?_
  refine z_aload_n E dX7_settles_156 0 rfl rfl ?_
  refine z_iconst (v := (nI 0)) E dX7_settles_157 (by decide) ?_
  refine pt_X7_137 (x := nI 0) (ws' := wMod g a h (sA (sA (sA (sA (sA (sF (sF (sF M 3 0) 20 0) 23 0) 9 f) 11 e) 12 m) 13 s) 14 (va_up f4 0 (f 2)))) E dX7_settles_158 0 rfl (Nat.le_of_ble_eq_true rfl) rfl ?_
  refine z_aload_n E dX7_settles_161 0 rfl rfl ?_
  refine z_iconst (v := (nI 0)) E dX7_settles_162 (by decide) ?_
  refine pt_X7_140 (x := nI 0) (ws' := wMod g a h (sA (sA (sA (sA (sA (sF (sF (sF (sF M 3 0) 18 0) 20 0) 23 0) 9 f) 11 e) 12 m) 13 s) 14 (va_up f4 0 (f 2)))) E dX7_settles_163 0 rfl (Nat.le_of_ble_eq_true rfl) rfl ?_
  refine z_aload_n E dX7_settles_166 0 rfl rfl ?_
  refine gt_X7_31 (v := .ref (h 16)) E dX7_settles_167 0 rfl rfl ?_
  refine z_iconst (v := (nI 0)) E dX7_settles_170 (by decide) ?_
  refine z_iconst (v := (nI 0)) E dX7_settles_171 (by decide) ?_
  refine z_zastN (f := (M.2 16)) (i := 0) (x := 0) (ws' := wMod g a h (sA (sA (sA (sA (sA (sA (sF (sF (sF (sF M 3 0) 18 0) 20 0) 23 0) 9 f) 11 e) 12 m) 13 s) 14 (va_up f4 0 (f 2))) 16 (va_up (M.2 16) 0 0))) E dX7_settles_172 8 rfl (by decide) (by decide) (by decide) rfl ?_
  refine z_aload_n E dX7_settles_173 0 rfl rfl ?_
  refine gt_X7_31 (v := .ref (h 16)) E dX7_settles_174 0 rfl rfl ?_
  refine z_iconst (v := (nI 1)) E dX7_settles_177 (by decide) ?_
  refine z_iconst (v := (nI 0)) E dX7_settles_178 (by decide) ?_
  refine z_zastN (f := (va_up (M.2 16) 0 0)) (i := 1) (x := 0) (ws' := wMod g a h (sA (sA (sA (sA (sA (sA (sF (sF (sF (sF M 3 0) 18 0) 20 0) 23 0) 9 f) 11 e) 12 m) 13 s) 14 (va_up f4 0 (f 2))) 16 (va_up (va_up (M.2 16) 0 0) 1 0))) E dX7_settles_179 8 rfl (by decide) (by decide) (by decide) rfl ?_
  refine z_vret E Er dX7_settles_180 ?_
  exact ⟨rfl, _, rfl, fun D hD hR => ⟨se_T hD hR hz he hm hs, by rw [← hD.1 2 (by decide), ← hz 2 (by decide)]; exact se_P rfl hz4⟩, rfl, rfl, rfl, rfl, rfl, rfl, rfl, rfl, rfl⟩
