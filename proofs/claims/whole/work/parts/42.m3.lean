theorem up_idm {f : Nat → Nat} {i : Nat} : va_up f i (f i) = f := by
  funext k
  unfold va_up
  split
  · rename_i h; rw [h]
  · rfl
theorem sumN_up_lt {f : Nat → Nat} {i x : Nat} (hx : x < f i) : ∀ n, i < n → sumN (va_up f i x) n < sumN f n
  | 0, h => absurd h (Nat.not_lt_zero i)
  | n + 1, h => by
    unfold sumN
    rcases Nat.lt_or_ge i n with q | q
    · have := sumN_up_lt hx n q
      have e : va_up f i x n = f n := by unfold va_up; rw [if_neg (by omega)]
      omega
    · have e0 : i = n := by omega
      subst e0
      have e : va_up f i x i = x := by unfold va_up; rw [if_pos rfl]
      have e2 : sumN (va_up f i x) i ≤ sumN f i := sumN_le i (fun k hk => by unfold va_up; rw [if_neg (by omega)]; exact Nat.le_refl _)
      omega
/-- along one round of the reference's search: g0 at its beginning, m whether there was something better, g now, i behind how many -/
def msI (T : NS) (c : Nat → Nat) (o : Nat) (g0 : Nat → Nat) (m : Nat) (g : Nat → Nat) (i : Nat) : Prop := m ≤ 1 ∧ (∀ k, k < 2 * T.1 1 → LF T c o k ≤ g k ∧ g k ≤ 1000000) ∧ (m = 0 → g = g0 ∧ ∀ j, j < i → g j ≤ farT T c o g (j / 2 + 1) (plT T j)) ∧ (m = 1 → sumN g (2 * T.1 1) < sumN g0 (2 * T.1 1)) ∧ sumN g (2 * T.1 1) ≤ sumN g0 (2 * T.1 1)
theorem msI_0 {T : NS} {c : Nat → Nat} {o : Nat} {g : Nat → Nat} (h : ∀ k, k < 2 * T.1 1 → LF T c o k ≤ g k ∧ g k ≤ 1000000) : msI T c o g 0 g 0 := ⟨Nat.zero_le _, h, fun _ => ⟨rfl, fun j hj => absurd hj (Nat.not_lt_zero j)⟩, fun e => absurd e (by decide), Nat.le_refl _⟩
theorem msI_1 {T : NS} {c : Nat → Nat} {o : Nat} {g0 : Nat → Nat} {m : Nat} {g : Nat → Nat} {i : Nat} (h : msI T c o g0 m g i) (hi : i < 2 * T.1 1) (hf : farT T c o g (i / 2 + 1) (plT T i) < g i) : msI T c o g0 1 (va_up g i (farT T c o g (i / 2 + 1) (plT T i))) (i + 1) := by
  obtain ⟨h1, h2, h3, h4, h5⟩ := h
  have hs := sumN_up_lt hf (2 * T.1 1) hi
  refine ⟨Nat.le_refl _, fun k hk => ?_, fun e => absurd e (by decide), fun _ => by omega, by omega⟩
  unfold va_up
  split
  · rename_i e
    subst e
    have hm : farT T c o (LF T c o) (k / 2 + 1) (plT T k) ≤ farT T c o g (k / 2 + 1) (plT T k) := farT_mono (fun j hj => (h2 j hj).1)
    have he := LF_fix T c o k hk
    have := h2 k hk
    exact ⟨by omega, by omega⟩
  · exact h2 k hk
theorem msI_2 {T : NS} {c : Nat → Nat} {o : Nat} {g0 : Nat → Nat} {m : Nat} {g : Nat → Nat} {i : Nat} (h : msI T c o g0 m g i) (hm : m ≠ 0) : msI T c o g0 1 (va_up g i (g i)) (i + 1) := by
  rw [up_idm]
  obtain ⟨h1, h2, h3, h4, h5⟩ := h
  exact ⟨Nat.le_refl _, h2, fun e => absurd e (by decide), fun _ => h4 (by omega), h5⟩
theorem msI_3 {T : NS} {c : Nat → Nat} {o : Nat} {g0 : Nat → Nat} {m : Nat} {g : Nat → Nat} {i : Nat} (h : msI T c o g0 m g i) (hm : m = 0) (hf : g i ≤ farT T c o g (i / 2 + 1) (plT T i)) : msI T c o g0 0 (va_up g i (g i)) (i + 1) := by
  rw [up_idm]
  obtain ⟨h1, h2, h3, h4, h5⟩ := h
  refine ⟨Nat.zero_le _, h2, fun _ => ⟨(h3 hm).1, fun j hj => ?_⟩, fun e => absurd e (by decide), h5⟩
  rcases Nat.lt_or_ge j i with q | q
  · exact (h3 hm).2 j q
  · rw [show j = i by omega]; exact hf
theorem ms_end {T : NS} {c : Nat → Nat} {o : Nat} {g : Nat → Nat} (hc : ∀ r, r < T.1 1 → 1 ≤ c r) (h1 : ∀ k, k < 2 * T.1 1 → LF T c o k ≤ g k ∧ g k ≤ 1000000) (h2 : ∀ k, k < 2 * T.1 1 → g k ≤ farT T c o g (k / 2 + 1) (plT T k)) : ∀ (m k : Nat), k < 2 * T.1 1 → LF T c o k = m → g k ≤ LF T c o k := by
  intro m
  induction m using Nat.strongRecOn with
  | _ m ih =>
    intro k hk hm
    have e1 := LF_fix T c o k hk
    have e2 := h2 k hk
    unfold farT at e1 e2
    by_cases hg : plT T k = T.1 3
    · rw [if_pos hg] at e1 e2
      omega
    · rw [if_neg hg] at e1 e2
      rcases farL_att T c o (LF T c o) (k / 2 + 1) (plT T k) (T.1 1) with q | ⟨j, hj, hok, hon⟩
      · have := (h1 k hk).2
        omega
      · have hc1 := hc j hj
        unfold onT at hon
        have h3 := ih _ (by omega) _ (arT_lt (T := T) (p := plT T k) hj) rfl
        have h4 := farL_on (c := c) (L := g) (b := k / 2 + 1) hj hok
        unfold onT at h4
        omega

set_option maxHeartbeats 4000000 in
set_option maxRecDepth 100000 in
theorem l_mme1 (g : GC) (a : Nat) (h : Nat → Nat) (M : NS) (T : NS) (c : Nat → Nat) (o : Nat) (hT : tdI T) (hM : mrT T M) (hc : ∀ r, r < T.1 1 → M.2 24 r = c r) (hcl : ∀ r, r < T.1 1 → c r ≤ 100000) (hc1 : ∀ r, r < T.1 1 → 1 ≤ c r) (ho : M.1 25 = o) (ho2 : o < 2 ^ 31) (X : XC) (E : Ob g X cX7_measures 4 RX7) (hX : X.2.2.1 = zR 4 0 0) (K : ∀ (f : Nat → Nat), (∀ k, k < 24 → f k = 1000000) → Z g X 4 0 0 (wMod g a h (sA M 26 f)) [(0, .ref a)] [] 22) : ∀ (n : Nat) (i : Nat) (f : Nat → Nat), (i ≤ 24) → (∀ k, k < i → f k = 1000000) → (24 < i + n) → Z g X 4 0 0 (wMod g a h (sA M 26 f)) [(0, .ref a), (1, .int (nI i))] [] 2 := by
  intro n
  induction n with
  | zero =>
    intro i f hi hz hf
    exfalso; omega
  | succ n ih =>
    intro i f hi hz hf
    refine z_iload_n E dX7_measures_2 1 rfl rfl ?_
    refine z_bipush (v := (nI 24)) E dX7_measures_3 (by decide) ?_
    refine z_icmpN_ge E dX7_measures_5 22 (by decide) (by omega) (by decide) (fun c1 => ?_) (fun c1 => ?_)
    · refine z_lv [0] rfl ?_; exact K f (fun k hk => hz k (by omega))
    · refine z_aload_n E dX7_measures_8 0 rfl rfl ?_
      refine gt_X7_50 (v := .ref (h 26)) E dX7_measures_9 0 rfl rfl ?_
      refine z_iload_n E dX7_measures_12 1 rfl rfl ?_
      refine z_ldc (v := nI 1000000) E dX7_measures_13 kc_X7_181 ?_
      refine z_iastN (f := f) (i := i) (x := 1000000) (ws' := wMod g a h (sA M 26 (va_up f i 1000000))) E dX7_measures_15 14 rfl (by omega) (by decide) rfl ?_
      refine z_iincN (lv' := [(0, .ref a), (1, .int (nI (i + 1)))]) E dX7_measures_16 1 rfl (by decide) rfl ?_
      refine z_goto E dX7_measures_19 2 (by decide) ?_
      exact ih (i + 1) (va_up f i 1000000) (by omega) (fun k hk => by unfold va_up; split; rfl; exact hz k (by omega)) (by omega)

set_option maxHeartbeats 4000000 in
set_option maxRecDepth 100000 in
theorem l_mme2 (g : GC) (a : Nat) (h : Nat → Nat) (M : NS) (T : NS) (c : Nat → Nat) (o : Nat) (hT : tdI T) (hM : mrT T M) (hc : ∀ r, r < T.1 1 → M.2 24 r = c r) (hcl : ∀ r, r < T.1 1 → c r ≤ 100000) (hc1 : ∀ r, r < T.1 1 → 1 ≤ c r) (ho : M.1 25 = o) (ho2 : o < 2 ^ 31) (X : XC) (E : Ob g X cX7_measures 4 RX7) (hX : X.2.2.1 = zR 4 0 0) (f0 : Nat → Nat) (K : ∀ (m : Nat) (f : Nat → Nat), (msI T c o f0 m f (2 * T.1 1)) → Z g X 4 0 0 (wMod g a h (sA M 26 f)) [(0, .ref a), (1, .int (nI m))] [] 112) : ∀ (n : Nat) (i : Nat) (m : Nat) (f : Nat → Nat), (i ≤ 2 * T.1 1) → (msI T c o f0 m f i) → (2 * T.1 1 < i + n) → Z g X 4 0 0 (wMod g a h (sA M 26 f)) [(0, .ref a), (1, .int (nI m)), (2, .int (nI i))] [] 32 := by
  intro n
  induction n with
  | zero =>
    intro i m f hi hI hf
    have hR := hT.2.2.1
    have hb := hT.2.1.2
    have h4 := hT.2.2.2.2.2.1
    have hg3 := hT.2.2.2.2.1
    have hm1 := hI.1
    exfalso; omega
  | succ n ih =>
    intro i m f hi hI hf
    have hR := hT.2.2.1
    have hb := hT.2.1.2
    have h4 := hT.2.2.2.2.2.1
    have hg3 := hT.2.2.2.2.1
    have hm1 := hI.1
    refine z_iload_n E dX7_measures_32 2 rfl rfl ?_
    refine z_iconst (v := (nI 2)) E dX7_measures_33 (by decide) ?_
    refine z_aload_n E dX7_measures_34 0 rfl rfl ?_
    refine gt_X7_13 (v := .ref (h 9)) E dX7_measures_35 0 rfl rfl ?_
    refine z_iconst (v := (nI 1)) E dX7_measures_38 (by decide) ?_
    refine z_ialdN (f := (M.2 9)) E dX7_measures_39 2 rfl (by decide) (by decide) ?_
    refine z_topi (y := nI (T.1 1)) (congrArg nI (hM.1 1 (by decide))) ?_
    refine z_imulN E dX7_measures_40 ?_
    refine z_icmpN_ge E dX7_measures_41 112 (by decide) (by omega) (by omega) (fun c1 => ?_) (fun c1 => ?_)
    · refine z_lv [0, 1] rfl ?_; exact K m f (by rw [show 2 * T.1 1 = i by omega]; exact hI)
    · refine z_aload_n E dX7_measures_44 0 rfl rfl ?_
      refine z_aload_n E dX7_measures_45 0 rfl rfl ?_
      refine gt_X7_16 (v := .ref (h 11)) E dX7_measures_46 0 rfl rfl ?_
      refine z_iload_n E dX7_measures_49 2 rfl rfl ?_
      refine z_ialdN (f := (M.2 11)) E dX7_measures_50 3 rfl (by omega) (by decide) ?_
      refine z_topi (y := nI (plT T i)) (congrArg nI (mr_pl hM (by omega))) ?_
      refine z_iload_n E dX7_measures_51 2 rfl rfl ?_
      refine z_iconst (v := (nI 2)) E dX7_measures_52 (by decide) ?_
      refine z_idivN E dX7_measures_53 (by omega) (by omega) (by decide) ?_
      refine z_iconst (v := (nI 1)) E dX7_measures_54 (by decide) ?_
      refine z_iaddN E dX7_measures_55 ?_
      refine z_ro0 E (rV E hX (c_X7_farFrom g a h (sA M 26 f) (plT T i) ((i / 2) + 1) T c o f hT hM hc hcl ho ho2 (fun k _ => rfl) (fun k hk => (hI.2.1 k hk).2) (plT_lt hT.1 _) (by omega)) mw_X7_farFrom ml_X7_186 dX7_measures_56 (Nat.le_of_ble_eq_true rfl) ⟨(Nat.le_of_ble_eq_true rfl), (Nat.le_of_ble_eq_true rfl)⟩ rfl rfl (Nat.le_of_ble_eq_true rfl) 0 rfl rfl) ?_
      have hfl := farT_le T c o f (i / 2 + 1) (plT T i)
      have hgi := (hI.2.1 i c1).2
      refine z_istore_n (lv' := [(0, .ref a), (1, .int (nI m)), (2, .int (nI i)), (3, .int (nI (farT T c o f ((i / 2) + 1) (plT T i))))]) E dX7_measures_59 3 rfl (by decide) rfl ?_
      refine z_iload_n E dX7_measures_60 1 rfl rfl ?_
      refine z_ifN_ne E dX7_measures_61 74 (by decide) (by omega) (fun c2 => ?_) (fun c2 => ?_)
      · refine z_iconst (v := (nI 1)) E dX7_measures_74 (by decide) ?_
        refine z_goto E dX7_measures_75 79 (by decide) ?_
        refine z_istore_n (lv' := [(0, .ref a), (1, .int (nI 1)), (2, .int (nI i)), (3, .int (nI (farT T c o f ((i / 2) + 1) (plT T i))))]) E dX7_measures_79 1 rfl (by decide) rfl ?_
        refine z_aload_n E dX7_measures_80 0 rfl rfl ?_
        refine gt_X7_50 (v := .ref (h 26)) E dX7_measures_81 0 rfl rfl ?_
        refine z_iload_n E dX7_measures_84 2 rfl rfl ?_
        refine z_iload_n E dX7_measures_85 3 rfl rfl ?_
        refine z_aload_n E dX7_measures_86 0 rfl rfl ?_
        refine gt_X7_50 (v := .ref (h 26)) E dX7_measures_87 0 rfl rfl ?_
        refine z_iload_n E dX7_measures_90 2 rfl rfl ?_
        refine z_ialdN (f := f) E dX7_measures_91 14 rfl (by omega) (by decide) ?_
        refine z_icmpN_ge E dX7_measures_92 99 (by decide) (by have := farT_le T c o f ((i / 2) + 1) (plT T i); omega) (by omega) (fun c3 => ?_) (fun c3 => ?_)
        · refine z_aload_n E dX7_measures_99 0 rfl rfl ?_
          refine gt_X7_50 (v := .ref (h 26)) E dX7_measures_100 0 rfl rfl ?_
          refine z_iload_n E dX7_measures_103 2 rfl rfl ?_
          refine z_ialdN (f := f) E dX7_measures_104 14 rfl (by omega) (by decide) ?_
          refine z_iastN (f := f) (i := i) (x := (f i)) (ws' := wMod g a h (sA M 26 (va_up f i (f i)))) E dX7_measures_105 14 rfl (by omega) (by decide) rfl ?_
          refine z_iincN (lv' := [(0, .ref a), (1, .int (nI 1)), (2, .int (nI (i + 1))), (3, .int (nI (farT T c o f ((i / 2) + 1) (plT T i))))]) E dX7_measures_106 2 rfl (by decide) rfl ?_
          refine z_goto E dX7_measures_109 32 (by decide) ?_
          refine z_lv [0, 1, 2] rfl ?_; exact ih (i + 1) 1 (va_up f i (f i)) (by omega) (msI_2 hI c2) (by omega)
        · refine z_iload_n E dX7_measures_95 3 rfl rfl ?_
          refine z_goto E dX7_measures_96 105 (by decide) ?_
          refine z_iastN (f := f) (i := i) (x := (farT T c o f ((i / 2) + 1) (plT T i))) (ws' := wMod g a h (sA M 26 (va_up f i (farT T c o f ((i / 2) + 1) (plT T i))))) E dX7_measures_105 14 rfl (by omega) (by decide) rfl ?_
          refine z_iincN (lv' := [(0, .ref a), (1, .int (nI 1)), (2, .int (nI (i + 1))), (3, .int (nI (farT T c o f ((i / 2) + 1) (plT T i))))]) E dX7_measures_106 2 rfl (by decide) rfl ?_
          refine z_goto E dX7_measures_109 32 (by decide) ?_
          refine z_lv [0, 1, 2] rfl ?_; exact ih (i + 1) 1 (va_up f i (farT T c o f ((i / 2) + 1) (plT T i))) (by omega) (msI_1 hI c1 c3) (by omega)
      · refine z_iload_n E dX7_measures_64 3 rfl rfl ?_
        refine z_aload_n E dX7_measures_65 0 rfl rfl ?_
        refine gt_X7_50 (v := .ref (h 26)) E dX7_measures_66 0 rfl rfl ?_
        refine z_iload_n E dX7_measures_69 2 rfl rfl ?_
        refine z_ialdN (f := f) E dX7_measures_70 14 rfl (by omega) (by decide) ?_
        refine z_icmpN_ge E dX7_measures_71 78 (by decide) (by have := farT_le T c o f ((i / 2) + 1) (plT T i); omega) (by omega) (fun c3 => ?_) (fun c3 => ?_)
        · refine z_iconst (v := (nI 0)) E dX7_measures_78 (by decide) ?_
          refine z_istore_n (lv' := [(0, .ref a), (1, .int (nI 0)), (2, .int (nI i)), (3, .int (nI (farT T c o f ((i / 2) + 1) (plT T i))))]) E dX7_measures_79 1 rfl (by decide) rfl ?_
          refine z_aload_n E dX7_measures_80 0 rfl rfl ?_
          refine gt_X7_50 (v := .ref (h 26)) E dX7_measures_81 0 rfl rfl ?_
          refine z_iload_n E dX7_measures_84 2 rfl rfl ?_
          refine z_iload_n E dX7_measures_85 3 rfl rfl ?_
          refine z_aload_n E dX7_measures_86 0 rfl rfl ?_
          refine gt_X7_50 (v := .ref (h 26)) E dX7_measures_87 0 rfl rfl ?_
          refine z_iload_n E dX7_measures_90 2 rfl rfl ?_
          refine z_ialdN (f := f) E dX7_measures_91 14 rfl (by omega) (by decide) ?_
          refine z_icmpN_ge E dX7_measures_92 99 (by decide) (by have := farT_le T c o f ((i / 2) + 1) (plT T i); omega) (by omega) (fun _ => ?_) (fun h => absurd h (Nat.not_lt.mpr c3))
          refine z_aload_n E dX7_measures_99 0 rfl rfl ?_
          refine gt_X7_50 (v := .ref (h 26)) E dX7_measures_100 0 rfl rfl ?_
          refine z_iload_n E dX7_measures_103 2 rfl rfl ?_
          refine z_ialdN (f := f) E dX7_measures_104 14 rfl (by omega) (by decide) ?_
          refine z_iastN (f := f) (i := i) (x := (f i)) (ws' := wMod g a h (sA M 26 (va_up f i (f i)))) E dX7_measures_105 14 rfl (by omega) (by decide) rfl ?_
          refine z_iincN (lv' := [(0, .ref a), (1, .int (nI 0)), (2, .int (nI (i + 1))), (3, .int (nI (farT T c o f ((i / 2) + 1) (plT T i))))]) E dX7_measures_106 2 rfl (by decide) rfl ?_
          refine z_goto E dX7_measures_109 32 (by decide) ?_
          refine z_lv [0, 1, 2] rfl ?_; exact ih (i + 1) 0 (va_up f i (f i)) (by omega) (msI_3 hI c2 c3) (by omega)
        · refine z_iconst (v := (nI 1)) E dX7_measures_74 (by decide) ?_
          refine z_goto E dX7_measures_75 79 (by decide) ?_
          refine z_istore_n (lv' := [(0, .ref a), (1, .int (nI 1)), (2, .int (nI i)), (3, .int (nI (farT T c o f ((i / 2) + 1) (plT T i))))]) E dX7_measures_79 1 rfl (by decide) rfl ?_
          refine z_aload_n E dX7_measures_80 0 rfl rfl ?_
          refine gt_X7_50 (v := .ref (h 26)) E dX7_measures_81 0 rfl rfl ?_
          refine z_iload_n E dX7_measures_84 2 rfl rfl ?_
          refine z_iload_n E dX7_measures_85 3 rfl rfl ?_
          refine z_aload_n E dX7_measures_86 0 rfl rfl ?_
          refine gt_X7_50 (v := .ref (h 26)) E dX7_measures_87 0 rfl rfl ?_
          refine z_iload_n E dX7_measures_90 2 rfl rfl ?_
          refine z_ialdN (f := f) E dX7_measures_91 14 rfl (by omega) (by decide) ?_
          refine z_icmpN_ge E dX7_measures_92 99 (by decide) (by have := farT_le T c o f ((i / 2) + 1) (plT T i); omega) (by omega) (fun h => absurd h (Nat.not_le.mpr c3)) (fun _ => ?_)
          refine z_iload_n E dX7_measures_95 3 rfl rfl ?_
          refine z_goto E dX7_measures_96 105 (by decide) ?_
          refine z_iastN (f := f) (i := i) (x := (farT T c o f ((i / 2) + 1) (plT T i))) (ws' := wMod g a h (sA M 26 (va_up f i (farT T c o f ((i / 2) + 1) (plT T i))))) E dX7_measures_105 14 rfl (by omega) (by decide) rfl ?_
          refine z_iincN (lv' := [(0, .ref a), (1, .int (nI 1)), (2, .int (nI (i + 1))), (3, .int (nI (farT T c o f ((i / 2) + 1) (plT T i))))]) E dX7_measures_106 2 rfl (by decide) rfl ?_
          refine z_goto E dX7_measures_109 32 (by decide) ?_
          refine z_lv [0, 1, 2] rfl ?_; exact ih (i + 1) 1 (va_up f i (farT T c o f ((i / 2) + 1) (plT T i))) (by omega) (msI_1 hI c1 c3) (by omega)

set_option maxHeartbeats 4000000 in
set_option maxRecDepth 100000 in
theorem l_mme3 (g : GC) (a : Nat) (h : Nat → Nat) (M : NS) (T : NS) (c : Nat → Nat) (o : Nat) (hT : tdI T) (hM : mrT T M) (hc : ∀ r, r < T.1 1 → M.2 24 r = c r) (hcl : ∀ r, r < T.1 1 → c r ≤ 100000) (hc1 : ∀ r, r < T.1 1 → 1 ≤ c r) (ho : M.1 25 = o) (ho2 : o < 2 ^ 31) (X : XC) (E : Ob g X cX7_measures 4 RX7) (hX : X.2.2.1 = zR 4 0 0) (K : ∀ (f : Nat → Nat), (∀ k, k < 2 * T.1 1 → f k = LF T c o k) → Z g X 4 0 0 (wMod g a h (sA M 26 f)) [(0, .ref a)] [] 115) : ∀ (n : Nat) (m : Nat) (f : Nat → Nat), (m ≤ 1 ∧ (∀ k, k < 2 * T.1 1 → LF T c o k ≤ f k ∧ f k ≤ 1000000) ∧ (m = 0 → ∀ k, k < 2 * T.1 1 → f k ≤ farT T c o f (k / 2 + 1) (plT T k))) → (sumN f (2 * T.1 1) + m < n) → Z g X 4 0 0 (wMod g a h (sA M 26 f)) [(0, .ref a), (1, .int (nI m))] [] 24 := by
  intro n
  induction n with
  | zero =>
    intro m f hO hf
    have hR := hT.2.2.1
    have hb := hT.2.1.2
    have h4 := hT.2.2.2.2.2.1
    have hg3 := hT.2.2.2.2.1
    have hm1 := hO.1
    exfalso; omega
  | succ n ih =>
    intro m f hO hf
    have hR := hT.2.2.1
    have hb := hT.2.1.2
    have h4 := hT.2.2.2.2.2.1
    have hg3 := hT.2.2.2.2.1
    have hm1 := hO.1
    refine z_iload_n E dX7_measures_24 1 rfl rfl ?_
    refine z_ifN_eq E dX7_measures_25 115 (by decide) (by omega) (fun c1 => ?_) (fun c1 => ?_)
    · refine z_lv [0] rfl ?_; exact K f (fun k hk => Nat.le_antisymm (ms_end hc1 hO.2.1 (hO.2.2 c1) _ k hk rfl) (hO.2.1 k hk).1)
    · refine z_iconst (v := (nI 0)) E dX7_measures_28 (by decide) ?_
      refine z_istore_n (lv' := [(0, .ref a), (1, .int (nI 0))]) E dX7_measures_29 1 rfl (by decide) rfl ?_
      refine z_iconst (v := (nI 0)) E dX7_measures_30 (by decide) ?_
      refine z_istore_n (lv' := [(0, .ref a), (1, .int (nI 0)), (2, .int (nI 0))]) E dX7_measures_31 2 rfl (by decide) rfl ?_
      refine l_mme2 g a h M T c o hT hM hc hcl hc1 ho ho2 X E hX f (fun m2 f2 hI => ?_) (2 * T.1 1 + 1) 0 0 f (Nat.zero_le _) (msI_0 hO.2.1) (by omega)
      refine z_goto E dX7_measures_112 24 (by decide) ?_
      exact ih m2 f2 (⟨hI.1, hI.2.1, fun e => (hI.2.2.1 e).2⟩) (by have := hI.1; have a4 := hI.2.2.2.1; have a5 := hI.2.2.2.2; rcases (show m2 = 0 ∨ m2 = 1 by omega) with q | q; (rw [q]; omega); (have := a4 q; omega))

set_option maxHeartbeats 4000000 in
set_option maxRecDepth 100000 in
theorem c_X7_measures (g : GC) (a : Nat) (h : Nat → Nat) (M : NS) (T : NS) (c : Nat → Nat) (o : Nat) (hT : tdI T) (hM : mrT T M) (hc : ∀ r, r < T.1 1 → M.2 24 r = c r) (hcl : ∀ r, r < T.1 1 → c r ≤ 100000) (hc1 : ∀ r, r < T.1 1 → 1 ≤ c r) (ho : M.1 25 = o) (ho2 : o < 2 ^ 31) : Ct g yX7_measures cX7_measures 4 none 4 0 0 [.ref a] (wMod g a h M) (QV (fun w_ => ∃ M2 : NS, w_ = wMod g a h M2 ∧ (∃ f, M2 = sA M 26 f ∧ ∀ k, k < 2 * T.1 1 → f k = LF T c o k))) := by
  refine Ct.of (by decide) (Nat.le_of_ble_eq_true rfl) ?_
  intro X E Er hX _ hnm
  have E : Ob g X cX7_measures 4 RX7 := E
  have hR := hT.2.2.1
  have hb := hT.2.1.2
  have h4 := hT.2.2.2.2.2.1
  have hg3 := hT.2.2.2.2.1
  refine z_lve (lv' := [(0, .ref a)]) rfl ?_
  refine z_iconst (v := (nI 0)) E dX7_measures_0 (by decide) ?_
  refine z_istore_n (lv' := [(0, .ref a), (1, .int (nI 0))]) E dX7_measures_1 1 rfl (by decide) rfl ?_
  refine l_mme1 g a h M T c o hT hM hc hcl hc1 ho ho2 X E hX (fun f hz => ?_) 25 0 (M.2 26) (by omega) (fun k hk => absurd hk (Nat.not_lt_zero k)) (by omega)
  refine z_iconst (v := (nI 1)) E dX7_measures_22 (by decide) ?_
  refine z_istore_n (lv' := [(0, .ref a), (1, .int (nI 1))]) E dX7_measures_23 1 rfl (by decide) rfl ?_
  refine l_mme3 g a h M T c o hT hM hc hcl hc1 ho ho2 X E hX (fun f hz => ?_) (sumN f (2 * T.1 1) + 1 + 1) 1 f (⟨Nat.le_refl _, fun k hk => by rw [hz k (by omega)]; exact ⟨by rw [LF_fix T c o k hk]; exact farT_le _ _ _ _ _ _, Nat.le_refl _⟩, fun e => absurd e (by decide)⟩) (Nat.lt_succ_self _)
  refine z_vret E Er dX7_measures_115 ?_
  exact ⟨rfl, _, rfl, f, rfl, hz⟩
