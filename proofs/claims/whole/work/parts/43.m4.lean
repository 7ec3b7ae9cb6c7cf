/-- the reference's first road: is j as good as the best -/
def ffP (T : NS) (c : Nat → Nat) (o : Nat) (L : Nat → Nat) (b p j : Nat) : Prop := p ≠ T.1 3 ∧ farT T c o L b p < 1000000 ∧ okR T o p j = true ∧ onT T c L b p j = farT T c o L b p
def ffI (T : NS) (c : Nat → Nat) (o : Nat) (L : Nat → Nat) (b p i z : Nat) : Prop := (z ≠ 0 → i ≤ z - 1 ∧ z ≤ T.1 1 ∧ ffP T c o L b p (z - 1)) ∧ ∀ j, i ≤ j → j < T.1 1 → ffP T c o L b p j → z ≠ 0 ∧ z - 1 ≤ j
def ffV (T : NS) (c : Nat → Nat) (o : Nat) (L : Nat → Nat) (b p : Nat) : Nat := if p = T.1 3 then 0 else frT T c o L b p (T.1 1)
theorem ffV_le (T : NS) (c : Nat → Nat) (o : Nat) (L : Nat → Nat) (b p : Nat) : ffV T c o L b p ≤ T.1 1 := by
  unfold ffV
  split
  · omega
  · exact frT_le _ _ _ _ _ _ _
theorem ffI_0 (T : NS) (c : Nat → Nat) (o : Nat) (L : Nat → Nat) (b p : Nat) : ffI T c o L b p (T.1 1) 0 := ⟨fun h => absurd rfl h, fun j h1 h2 => absurd h2 (Nat.not_lt.mpr h1)⟩
theorem ffI_y {T : NS} {c : Nat → Nat} {o : Nat} {L : Nat → Nat} {b p i z : Nat} (hi : i ≠ 0) (hR : i ≤ T.1 1) (h : ffI T c o L b p i z) (hp : ffP T c o L b p (i - 1)) : ffI T c o L b p (i - 1) (i - 1 + 1) :=
  ⟨fun _ => ⟨by omega, by omega, by rw [Nat.add_sub_cancel]; exact hp⟩, fun j h1 h2 h3 => ⟨by omega, by omega⟩⟩
theorem ffI_n {T : NS} {c : Nat → Nat} {o : Nat} {L : Nat → Nat} {b p i z : Nat} (hi : i ≠ 0) (h : ffI T c o L b p i z) (hp : ¬ ffP T c o L b p (i - 1)) : ffI T c o L b p (i - 1) z :=
  ⟨fun q => ⟨by have := (h.1 q).1; omega, (h.1 q).2⟩, fun j h1 h2 h3 => by
    rcases Nat.lt_or_ge j i with q | q
    · rw [show j = i - 1 by omega] at h3
      exact absurd h3 hp
    · exact h.2 j q h2 h3⟩
theorem ffI_end {T : NS} {c : Nat → Nat} {o : Nat} {L : Nat → Nat} {b p z : Nat} (h : ffI T c o L b p 0 z) : z = ffV T c o L b p := by
  unfold ffV
  by_cases hg : p = T.1 3
  · rw [if_pos hg]
    rcases Nat.eq_zero_or_pos z with q | q
    · exact q
    · exact absurd hg (h.1 (by omega)).2.2.1
  · rw [if_neg hg]
    have hfar : farT T c o L b p = farL T c o L b p (T.1 1) := by unfold farT; rw [if_neg hg]
    by_cases hf : frT T c o L b p (T.1 1) = 0
    · rw [hf]
      have e := (frT_0 (T.1 1)).mp hf
      rcases Nat.eq_zero_or_pos z with q | q
      · exact q
      · have := (h.1 (by omega)).2.2.2.1
        omega
    · obtain ⟨h1, h2, h3⟩ := frT_on (T.1 1) hf
      have hlt : farL T c o L b p (T.1 1) < 1000000 := by
        have := farL_le T c o L b p (T.1 1)
        have : farL T c o L b p (T.1 1) ≠ 1000000 := fun e => hf ((frT_0 (T.1 1)).mpr e)
        omega
      obtain ⟨a1, a2⟩ := h.2 (frT T c o L b p (T.1 1) - 1) (Nat.zero_le _) (by omega) ⟨hg, by omega, h2, by rw [h3, hfar]⟩
      obtain ⟨b1, b2, b3⟩ := h.1 a1
      have := frT_least (T.1 1) (z - 1) (by omega) b3.2.2.1 (by rw [b3.2.2.2, hfar]) hlt
      omega

set_option maxHeartbeats 4000000 in
set_option maxRecDepth 100000 in
theorem l_mfirst (g : GC) (a : Nat) (h : Nat → Nat) (M : NS) (p : Nat) (b : Nat) (T : NS) (c : Nat → Nat) (o : Nat) (L : Nat → Nat) (hT : tdI T) (hM : mrT T M) (hc : ∀ r, r < T.1 1 → M.2 24 r = c r) (hcl : ∀ r, r < T.1 1 → c r ≤ 100000) (ho : M.1 25 = o) (ho2 : o < 2 ^ 31) (hl : ∀ k, k < 2 * T.1 1 → M.2 26 k = L k) (hLl : ∀ k, k < 2 * T.1 1 → L k ≤ 1000000) (hp : p < 2 ^ 31) (hbR : b ≤ T.1 1) (X : XC) (E : Ob g X cX7_firstFrom 7 RX7) (hX : X.2.2.1 = zR 4 0 0) (K : ∀ (z : Nat), (z = ffV T c o L b p) → Z g X 7 0 0 (wMod g a h M) [(0, .ref a), (1, .int (nI p)), (2, .int (nI b)), (3, .int (cm z))] [] 104) : ∀ (n : Nat) (i : Nat) (z : Nat), (i ≤ T.1 1) → (ffI T c o L b p i z) → (i < n) → Z g X 7 0 0 (wMod g a h M) [(0, .ref a), (1, .int (nI p)), (2, .int (nI b)), (3, .int (cm z)), (4, .int (nI (farT T c o L b p))), (5, .int (pm i))] [] 21 := by
  intro n
  induction n with
  | zero =>
    intro i z hi hz hf
    have hR := hT.2.2.1
    have hb := hT.2.1.2
    have h4 := hT.2.2.2.2.2.1
    have hg3 := hT.2.2.2.2.1
    have hfl := farT_le T c o L b p
    exfalso; omega
  | succ n ih =>
    intro i z hi hz hf
    have hR := hT.2.2.1
    have hb := hT.2.1.2
    have h4 := hT.2.2.2.2.2.1
    have hg3 := hT.2.2.2.2.1
    have hfl := farT_le T c o L b p
    refine z_iload E dX7_firstFrom_21 5 rfl ?_
    refine z_ifP_lt E dX7_firstFrom_23 104 (by decide) (by omega) (fun c1 => ?_) (fun c1 => ?_)
    · refine z_lv [0, 1, 2, 3] rfl ?_; exact K z (ffI_end (by rw [← c1]; exact hz))
    · refine z_lve (lv' := [(0, .ref a), (1, .int (nI p)), (2, .int (nI b)), (3, .int (cm z)), (4, .int (nI (farT T c o L b p))), (5, .int (nI (i - 1)))]) (by rw [pm_pos c1]) ?_
      refine z_iload_n E dX7_firstFrom_26 1 rfl rfl ?_
      refine z_aload_n E dX7_firstFrom_27 0 rfl rfl ?_
      refine gt_X7_13 (v := .ref (h 9)) E dX7_firstFrom_28 0 rfl rfl ?_
      refine z_iconst (v := (nI 3)) E dX7_firstFrom_31 (by decide) ?_
      refine z_ialdN (f := (M.2 9)) E dX7_firstFrom_32 2 rfl (by decide) (by decide) ?_
      refine z_topi (y := nI (T.1 3)) (congrArg nI (hM.1 3 (by decide))) ?_
      refine z_icmpN_eq E dX7_firstFrom_33 83 (by decide) (by omega) (hT.1.1 _) (fun c2 => ?_) (fun c2 => ?_)
      · refine z_iconst (v := (nI 0)) E dX7_firstFrom_83 (by decide) ?_
        refine z_istore (lv' := [(0, .ref a), (1, .int (nI p)), (2, .int (nI b)), (3, .int (cm z)), (4, .int (nI (farT T c o L b p))), (5, .int (nI (i - 1))), (6, .int (nI 0))]) E dX7_firstFrom_84 (by decide) rfl ?_
        refine z_iload E dX7_firstFrom_86 6 rfl ?_
        refine z_ifN_eq E dX7_firstFrom_88 96 (by decide) (by decide) (fun _ => ?_) (fun h => absurd h (by decide))
        refine z_iload_n E dX7_firstFrom_96 3 rfl rfl ?_
        refine z_istore_n (lv' := [(0, .ref a), (1, .int (nI p)), (2, .int (nI b)), (3, .int (cm z)), (4, .int (nI (farT T c o L b p))), (5, .int (nI (i - 1))), (6, .int (nI 0))]) E dX7_firstFrom_97 3 rfl (by decide) rfl ?_
        refine z_iinc (lv' := [(0, .ref a), (1, .int (nI p)), (2, .int (nI b)), (3, .int (cm z)), (4, .int (nI (farT T c o L b p))), (5, .int (pm (i - 1))), (6, .int (nI 0))]) E dX7_firstFrom_98 5 rfl (pm_dec c1) (by decide) rfl ?_
        refine z_goto E dX7_firstFrom_101 21 (by decide) ?_
        refine z_lv [0, 1, 2, 3, 4, 5] rfl ?_; exact ih (i - 1) z (by omega) (ffI_n c1 hz (fun q => q.1 c2)) (by omega)
      · refine z_iload E dX7_firstFrom_36 4 rfl ?_
        refine z_ldc (v := nI 1000000) E dX7_firstFrom_38 kc_X7_181 ?_
        refine z_icmpN_ge E dX7_firstFrom_40 83 (by decide) (by omega) (by decide) (fun c3 => ?_) (fun c3 => ?_)
        · refine z_iconst (v := (nI 0)) E dX7_firstFrom_83 (by decide) ?_
          refine z_istore (lv' := [(0, .ref a), (1, .int (nI p)), (2, .int (nI b)), (3, .int (cm z)), (4, .int (nI (farT T c o L b p))), (5, .int (nI (i - 1))), (6, .int (nI 0))]) E dX7_firstFrom_84 (by decide) rfl ?_
          refine z_iload E dX7_firstFrom_86 6 rfl ?_
          refine z_ifN_eq E dX7_firstFrom_88 96 (by decide) (by decide) (fun _ => ?_) (fun h => absurd h (by decide))
          refine z_iload_n E dX7_firstFrom_96 3 rfl rfl ?_
          refine z_istore_n (lv' := [(0, .ref a), (1, .int (nI p)), (2, .int (nI b)), (3, .int (cm z)), (4, .int (nI (farT T c o L b p))), (5, .int (nI (i - 1))), (6, .int (nI 0))]) E dX7_firstFrom_97 3 rfl (by decide) rfl ?_
          refine z_iinc (lv' := [(0, .ref a), (1, .int (nI p)), (2, .int (nI b)), (3, .int (cm z)), (4, .int (nI (farT T c o L b p))), (5, .int (pm (i - 1))), (6, .int (nI 0))]) E dX7_firstFrom_98 5 rfl (pm_dec c1) (by decide) rfl ?_
          refine z_goto E dX7_firstFrom_101 21 (by decide) ?_
          refine z_lv [0, 1, 2, 3, 4, 5] rfl ?_; exact ih (i - 1) z (by omega) (ffI_n c1 hz (fun q => absurd q.2.1 (by omega))) (by omega)
        · refine z_aload_n E dX7_firstFrom_43 0 rfl rfl ?_
          refine gt_X7_163 (v := .int (nI (M.1 25))) E dX7_firstFrom_44 0 rfl rfl ?_
          refine z_topi (y := nI o) (congrArg nI (ho)) ?_
          refine z_iload E dX7_firstFrom_47 5 rfl ?_
          refine z_ishrN E dX7_firstFrom_49 (by omega) (by omega) ?_
          refine z_iconst (v := (nI 1)) E dX7_firstFrom_50 (by decide) ?_
          refine z_iandN E dX7_firstFrom_51 ?_
          refine z_topi (tb_bI o (i - 1)) ?_
          refine z_iconst (v := (nI 1)) E dX7_firstFrom_52 (by decide) ?_
          refine z_icmpB1_ne E dX7_firstFrom_53 83 (by decide) (fun c4 => ?_) (fun c4 => ?_)
          · refine z_iconst (v := (nI 0)) E dX7_firstFrom_83 (by decide) ?_
            refine z_istore (lv' := [(0, .ref a), (1, .int (nI p)), (2, .int (nI b)), (3, .int (cm z)), (4, .int (nI (farT T c o L b p))), (5, .int (nI (i - 1))), (6, .int (nI 0))]) E dX7_firstFrom_84 (by decide) rfl ?_
            refine z_iload E dX7_firstFrom_86 6 rfl ?_
            refine z_ifN_eq E dX7_firstFrom_88 96 (by decide) (by decide) (fun _ => ?_) (fun h => absurd h (by decide))
            refine z_iload_n E dX7_firstFrom_96 3 rfl rfl ?_
            refine z_istore_n (lv' := [(0, .ref a), (1, .int (nI p)), (2, .int (nI b)), (3, .int (cm z)), (4, .int (nI (farT T c o L b p))), (5, .int (nI (i - 1))), (6, .int (nI 0))]) E dX7_firstFrom_97 3 rfl (by decide) rfl ?_
            refine z_iinc (lv' := [(0, .ref a), (1, .int (nI p)), (2, .int (nI b)), (3, .int (cm z)), (4, .int (nI (farT T c o L b p))), (5, .int (pm (i - 1))), (6, .int (nI 0))]) E dX7_firstFrom_98 5 rfl (pm_dec c1) (by decide) rfl ?_
            refine z_goto E dX7_firstFrom_101 21 (by decide) ?_
            refine z_lv [0, 1, 2, 3, 4, 5] rfl ?_; exact ih (i - 1) z (by omega) (ffI_n c1 hz (fun q => by have := q.2.2.1; unfold okR at this; rw [c4] at this; exact absurd this (by simp))) (by omega)
          · refine z_aload_n E dX7_firstFrom_56 0 rfl rfl ?_
            refine z_iload E dX7_firstFrom_57 5 rfl ?_
            refine z_iload_n E dX7_firstFrom_59 1 rfl rfl ?_
            refine z_ro0 E (rV E hX (c_X7_isAt g a h M (i - 1) p T hT hM (by omega) (by omega)) mw_X7_isAt ml_X7_146 dX7_firstFrom_60 (Nat.le_of_ble_eq_true rfl) ⟨(Nat.le_of_ble_eq_true rfl), (Nat.le_of_ble_eq_true rfl)⟩ rfl rfl (Nat.le_of_ble_eq_true rfl) 0 rfl rfl) ?_
            refine z_ifB_eq E dX7_firstFrom_63 83 (by decide) (fun c5 => ?_) (fun c5 => ?_)
            · refine z_iconst (v := (nI 0)) E dX7_firstFrom_83 (by decide) ?_
              refine z_istore (lv' := [(0, .ref a), (1, .int (nI p)), (2, .int (nI b)), (3, .int (cm z)), (4, .int (nI (farT T c o L b p))), (5, .int (nI (i - 1))), (6, .int (nI 0))]) E dX7_firstFrom_84 (by decide) rfl ?_
              refine z_iload E dX7_firstFrom_86 6 rfl ?_
              refine z_ifN_eq E dX7_firstFrom_88 96 (by decide) (by decide) (fun _ => ?_) (fun h => absurd h (by decide))
              refine z_iload_n E dX7_firstFrom_96 3 rfl rfl ?_
              refine z_istore_n (lv' := [(0, .ref a), (1, .int (nI p)), (2, .int (nI b)), (3, .int (cm z)), (4, .int (nI (farT T c o L b p))), (5, .int (nI (i - 1))), (6, .int (nI 0))]) E dX7_firstFrom_97 3 rfl (by decide) rfl ?_
              refine z_iinc (lv' := [(0, .ref a), (1, .int (nI p)), (2, .int (nI b)), (3, .int (cm z)), (4, .int (nI (farT T c o L b p))), (5, .int (pm (i - 1))), (6, .int (nI 0))]) E dX7_firstFrom_98 5 rfl (pm_dec c1) (by decide) rfl ?_
              refine z_goto E dX7_firstFrom_101 21 (by decide) ?_
              refine z_lv [0, 1, 2, 3, 4, 5] rfl ?_; exact ih (i - 1) z (by omega) (ffI_n c1 hz (fun q => by have := q.2.2.1; unfold okR at this; rw [c5] at this; exact absurd this (by simp))) (by omega)
            · refine z_aload_n E dX7_firstFrom_66 0 rfl rfl ?_
              refine z_iload_n E dX7_firstFrom_67 1 rfl rfl ?_
              refine z_iload_n E dX7_firstFrom_68 2 rfl rfl ?_
              refine z_iload E dX7_firstFrom_69 5 rfl ?_
              refine z_ro0 E (rV E hX (c_X7_onBy g a h M p b (i - 1) T c o L hT hM hc hcl ho ho2 hl hLl (by omega) (by omega) (by omega)) mw_X7_onBy ml_X7_182 dX7_firstFrom_71 (Nat.le_of_ble_eq_true rfl) ⟨(Nat.le_of_ble_eq_true rfl), (Nat.le_of_ble_eq_true rfl)⟩ rfl rfl (Nat.le_of_ble_eq_true rfl) 0 rfl rfl) ?_
              refine z_iload E dX7_firstFrom_74 4 rfl ?_
              refine z_icmpN_ne E dX7_firstFrom_76 83 (by decide) (by omega) (by omega) (fun c6 => ?_) (fun c6 => ?_)
              · refine z_iconst (v := (nI 0)) E dX7_firstFrom_83 (by decide) ?_
                refine z_istore (lv' := [(0, .ref a), (1, .int (nI p)), (2, .int (nI b)), (3, .int (cm z)), (4, .int (nI (farT T c o L b p))), (5, .int (nI (i - 1))), (6, .int (nI 0))]) E dX7_firstFrom_84 (by decide) rfl ?_
                refine z_iload E dX7_firstFrom_86 6 rfl ?_
                refine z_ifN_eq E dX7_firstFrom_88 96 (by decide) (by decide) (fun _ => ?_) (fun h => absurd h (by decide))
                refine z_iload_n E dX7_firstFrom_96 3 rfl rfl ?_
                refine z_istore_n (lv' := [(0, .ref a), (1, .int (nI p)), (2, .int (nI b)), (3, .int (cm z)), (4, .int (nI (farT T c o L b p))), (5, .int (nI (i - 1))), (6, .int (nI 0))]) E dX7_firstFrom_97 3 rfl (by decide) rfl ?_
                refine z_iinc (lv' := [(0, .ref a), (1, .int (nI p)), (2, .int (nI b)), (3, .int (cm z)), (4, .int (nI (farT T c o L b p))), (5, .int (pm (i - 1))), (6, .int (nI 0))]) E dX7_firstFrom_98 5 rfl (pm_dec c1) (by decide) rfl ?_
                refine z_goto E dX7_firstFrom_101 21 (by decide) ?_
                refine z_lv [0, 1, 2, 3, 4, 5] rfl ?_; exact ih (i - 1) z (by omega) (ffI_n c1 hz (fun q => c6 (by have := q.2.2.2; have := q.2.1; omega))) (by omega)
              · refine z_iconst (v := (nI 1)) E dX7_firstFrom_79 (by decide) ?_
                refine z_goto E dX7_firstFrom_80 84 (by decide) ?_
                refine z_istore (lv' := [(0, .ref a), (1, .int (nI p)), (2, .int (nI b)), (3, .int (cm z)), (4, .int (nI (farT T c o L b p))), (5, .int (nI (i - 1))), (6, .int (nI 1))]) E dX7_firstFrom_84 (by decide) rfl ?_
                refine z_iload E dX7_firstFrom_86 6 rfl ?_
                refine z_ifN_eq E dX7_firstFrom_88 96 (by decide) (by decide) (fun h => absurd h (by decide)) (fun _ => ?_)
                refine z_iload E dX7_firstFrom_91 5 rfl ?_
                refine z_goto E dX7_firstFrom_93 97 (by decide) ?_
                refine z_istore_n (lv' := [(0, .ref a), (1, .int (nI p)), (2, .int (nI b)), (3, .int (nI (i - 1))), (4, .int (nI (farT T c o L b p))), (5, .int (nI (i - 1))), (6, .int (nI 1))]) E dX7_firstFrom_97 3 rfl (by decide) rfl ?_
                refine z_iinc (lv' := [(0, .ref a), (1, .int (nI p)), (2, .int (nI b)), (3, .int (nI (i - 1))), (4, .int (nI (farT T c o L b p))), (5, .int (pm (i - 1))), (6, .int (nI 1))]) E dX7_firstFrom_98 5 rfl (pm_dec c1) (by decide) rfl ?_
                refine z_goto E dX7_firstFrom_101 21 (by decide) ?_
                refine z_lv [0, 1, 2, 3, 4, 5] rfl ?_; exact ih (i - 1) ((i - 1) + 1) (by omega) (ffI_y c1 hi hz ⟨c2, by omega, by unfold okR; rw [c4, c5]; rfl, by omega⟩) (by omega)

set_option maxHeartbeats 4000000 in
set_option maxRecDepth 100000 in
theorem c_X7_firstFrom (g : GC) (a : Nat) (h : Nat → Nat) (M : NS) (p : Nat) (b : Nat) (T : NS) (c : Nat → Nat) (o : Nat) (L : Nat → Nat) (hT : tdI T) (hM : mrT T M) (hc : ∀ r, r < T.1 1 → M.2 24 r = c r) (hcl : ∀ r, r < T.1 1 → c r ≤ 100000) (ho : M.1 25 = o) (ho2 : o < 2 ^ 31) (hl : ∀ k, k < 2 * T.1 1 → M.2 26 k = L k) (hLl : ∀ k, k < 2 * T.1 1 → L k ≤ 1000000) (hp : p < 2 ^ 31) (hbR : b ≤ T.1 1) : Ct g yX7_firstFrom cX7_firstFrom 7 (some .int) 4 0 0 [.ref a, .int (nI p), .int (nI b)] (wMod g a h M) (DI (cm (ffV T c o L b p)) (wMod g a h M)) := by
  refine Ct.of (by decide) (Nat.le_of_ble_eq_true rfl) ?_
  intro X E Er hX _ hnm
  have E : Ob g X cX7_firstFrom 7 RX7 := E
  have hR := hT.2.2.1
  have hb := hT.2.1.2
  have h4 := hT.2.2.2.2.2.1
  have hg3 := hT.2.2.2.2.1
  refine z_lve (lv' := [(0, .ref a), (1, .int (nI p)), (2, .int (nI b))]) rfl ?_
  refine z_bipush (v := (-9)) E dX7_firstFrom_0 (by decide) ?_
  refine z_istore_n (lv' := [(0, .ref a), (1, .int (nI p)), (2, .int (nI b)), (3, .int (-9))]) E dX7_firstFrom_2 3 rfl (by decide) rfl ?_
  refine z_aload_n E dX7_firstFrom_3 0 rfl rfl ?_
  refine z_iload_n E dX7_firstFrom_4 1 rfl rfl ?_
  refine z_iload_n E dX7_firstFrom_5 2 rfl rfl ?_
  refine z_ro0 E (rV E hX (c_X7_farFrom g a h M p b T c o L hT hM hc hcl ho ho2 hl hLl (by omega) (by omega)) mw_X7_farFrom ml_X7_186 dX7_firstFrom_6 (Nat.le_of_ble_eq_true rfl) ⟨(Nat.le_of_ble_eq_true rfl), (Nat.le_of_ble_eq_true rfl)⟩ rfl rfl (Nat.le_of_ble_eq_true rfl) 0 rfl rfl) ?_
  refine z_istore (lv' := [(0, .ref a), (1, .int (nI p)), (2, .int (nI b)), (3, .int (-9)), (4, .int (nI (farT T c o L b p)))]) E dX7_firstFrom_9 (by decide) rfl ?_
  refine z_aload_n E dX7_firstFrom_11 0 rfl rfl ?_
  refine gt_X7_13 (v := .ref (h 9)) E dX7_firstFrom_12 0 rfl rfl ?_
  refine z_iconst (v := (nI 1)) E dX7_firstFrom_15 (by decide) ?_
  refine z_ialdN (f := (M.2 9)) E dX7_firstFrom_16 2 rfl (by decide) (by decide) ?_
  refine z_topi (y := nI (T.1 1)) (congrArg nI (hM.1 1 (by decide))) ?_
  refine z_iconst (v := (nI 1)) E dX7_firstFrom_17 (by decide) ?_
  refine z_isub E dX7_firstFrom_18 ?_
  refine z_topi (y := pm (T.1 1)) (pm_sub1 _) ?_
  refine z_istore (lv' := [(0, .ref a), (1, .int (nI p)), (2, .int (nI b)), (3, .int (-9)), (4, .int (nI (farT T c o L b p))), (5, .int (pm (T.1 1)))]) E dX7_firstFrom_19 (by decide) rfl ?_
  refine l_mfirst g a h M p b T c o L hT hM hc hcl ho ho2 hl hLl hp hbR X E hX (fun z hz => ?_) (T.1 1 + 1) (T.1 1) 0 (by omega) (ffI_0 T c o L b p) (by omega)
  refine z_iload_n E dX7_firstFrom_104 3 rfl rfl ?_
  refine z_iret E Er dX7_firstFrom_105 ?_
  exact ⟨by rw [hz], rfl⟩

theorem pth_lt {T : NS} {c : Nat → Nat} {o : Nat} {L : Nat → Nat} (hT : tdI T) {p b : Nat} (hp : p < 2 ^ 31) (hb : b ≤ T.1 1) : ∀ i, (pth T c o L (p, b) i).1 < 2 ^ 31 ∧ (pth T c o L (p, b) i).2 ≤ T.1 1
  | 0 => ⟨hp, hb⟩
  | i + 1 => by
    rw [pth_s]
    refine ⟨?_, frT_le _ _ _ _ _ _ _⟩
    show otherT T _ _ < _
    unfold otherT
    split
    · exact hT.1.2 _ _
    · exact hT.1.2 _ _
/-- where the reference's way has an end: just there -/
theorem kth_end {T : NS} {c : Nat → Nat} {o : Nat} {p b x y i : Nat} (hc : ∀ r, r < T.1 1 → 1 ≤ c r) (hf : farV T c o b p < 1000000) (hxy : (x, y) = pthV T c o (p, b) i) (hg : ∀ j, j < i → (pthV T c o (p, b) j).1 ≠ T.1 3) (h0 : ffV T c o (LF T c o) y x = 0) : i = lenV T c o (p, b) := by
  by_cases hx : x = T.1 3
  · exact lenV_eq (by rw [← hxy]; exact hx) hg
  · have h1 := (pth_ok (s := (p, b)) hc (LF_fix T c o) hf i hg).1
    have e : pth T c o (LF T c o) (p, b) i = (x, y) := hxy.symm
    rw [e] at h1
    dsimp only at h1
    unfold ffV at h0
    rw [if_neg hx] at h0
    have := (frT_0 (T.1 1)).mp h0
    unfold farT at h1
    rw [if_neg hx] at h1
    omega
theorem kth_lt {T : NS} {c : Nat → Nat} {o : Nat} {p b i : Nat} (hc : ∀ r, r < T.1 1 → 1 ≤ c r) (hf : farV T c o b p < 1000000) (hg : ∀ j, j < i → (pthV T c o (p, b) j).1 ≠ T.1 3) : i ≤ lenV T c o (p, b) := by
  have h := lenV_spec (s := (p, b)) hc hf
  rcases Nat.lt_or_ge (lenV T c o (p, b)) i with q | q
  · exact absurd h.2.1 (hg _ q)
  · exact q
theorem kth_rd {T : NS} {c : Nat → Nat} {o : Nat} {p b x y i : Nat} (hxy : (x, y) = pthV T c o (p, b) i) (h0 : ffV T c o (LF T c o) y x ≠ 0) : x ≠ T.1 3 ∧ ffV T c o (LF T c o) y x - 1 = rdV T c o (p, b) i ∧ pthV T c o (p, b) (i + 1) = (otherT T (ffV T c o (LF T c o) y x - 1) x, ffV T c o (LF T c o) y x) := by
  unfold ffV at *
  by_cases hx : x = T.1 3
  · rw [if_pos hx] at h0; exact absurd rfl h0
  · rw [if_neg hx]
    have e : pth T c o (LF T c o) (p, b) i = (x, y) := hxy.symm
    refine ⟨hx, ?_, ?_⟩
    · unfold rdV rdT; rw [e]
    · unfold pthV; rw [pth_s, e]; rfl

set_option maxHeartbeats 4000000 in
set_option maxRecDepth 100000 in
theorem l_mgone (g : GC) (a : Nat) (h : Nat → Nat) (M : NS) (p : Nat) (b : Nat) (kk : Nat) (T : NS) (c : Nat → Nat) (o : Nat) (hT : tdI T) (hM : mrT T M) (hc : ∀ r, r < T.1 1 → M.2 24 r = c r) (hcl : ∀ r, r < T.1 1 → c r ≤ 100000) (hc1 : ∀ r, r < T.1 1 → 1 ≤ c r) (ho : M.1 25 = o) (ho2 : o < 2 ^ 31) (hl : ∀ k, k < 2 * T.1 1 → M.2 26 k = LF T c o k) (hp : p < 2 ^ 31) (hbR : b ≤ T.1 1) (hkk : kk < 2 ^ 31) (hfar : farV T c o b p < 1000000) (X : XC) (E : Ob g X cX7_kthFrom 8 RX7) (hX : X.2.2.1 = zR 5 0 0) (K : ∀ (f : Nat → Nat), (∀ k, k < 12 → f k = 0) → Z g X 8 0 0 (wMod g a h (sA (sF M 27 0) 28 f)) [(0, .ref a), (1, .int (nI p)), (2, .int (nI b)), (3, .int (nI kk)), (4, .int (nI p)), (5, .int (nI b))] [] 35) : ∀ (n : Nat) (i : Nat) (f : Nat → Nat), (i ≤ 12) → (∀ k, k < i → f k = 0) → (12 < i + n) → Z g X 8 0 0 (wMod g a h (sA (sF M 27 0) 28 f)) [(0, .ref a), (1, .int (nI p)), (2, .int (nI b)), (3, .int (nI kk)), (4, .int (nI p)), (5, .int (nI b)), (6, .int (nI i))] [] 14 := by
  intro n
  induction n with
  | zero =>
    intro i f hi hz hf
    exfalso; omega
  | succ n ih =>
    intro i f hi hz hf
    refine z_iload E dX7_kthFrom_14 6 rfl ?_
    refine z_bipush (v := (nI 12)) E dX7_kthFrom_16 (by decide) ?_
    refine z_icmpN_ge E dX7_kthFrom_18 35 (by decide) (by omega) (by decide) (fun c1 => ?_) (fun c1 => ?_)
    · refine z_lv [0, 1, 2, 3, 4, 5] rfl ?_; exact K f (fun k hk => hz k (by omega))
    · refine z_aload_n E dX7_kthFrom_21 0 rfl rfl ?_
      refine gt_X7_53 (v := .ref (h 28)) E dX7_kthFrom_22 0 rfl rfl ?_
      refine z_iload E dX7_kthFrom_25 6 rfl ?_
      refine z_iconst (v := (nI 0)) E dX7_kthFrom_27 (by decide) ?_
      refine z_iastN (f := f) (i := i) (x := 0) (ws' := wMod g a h (sA (sF M 27 0) 28 (va_up f i 0))) E dX7_kthFrom_28 15 rfl (by omega) (by decide) rfl ?_
      refine z_iincN (lv' := [(0, .ref a), (1, .int (nI p)), (2, .int (nI b)), (3, .int (nI kk)), (4, .int (nI p)), (5, .int (nI b)), (6, .int (nI (i + 1)))]) E dX7_kthFrom_29 6 rfl (by decide) rfl ?_
      refine z_goto E dX7_kthFrom_32 14 (by decide) ?_
      exact ih (i + 1) (va_up f i 0) (by omega) (fun k hk => by unfold va_up; split; rfl; exact hz k (by omega)) (by omega)

set_option maxHeartbeats 4000000 in
set_option maxRecDepth 100000 in
theorem l_mkth (g : GC) (a : Nat) (h : Nat → Nat) (M : NS) (p : Nat) (b : Nat) (kk : Nat) (T : NS) (c : Nat → Nat) (o : Nat) (hT : tdI T) (hM : mrT T M) (hc : ∀ r, r < T.1 1 → M.2 24 r = c r) (hcl : ∀ r, r < T.1 1 → c r ≤ 100000) (hc1 : ∀ r, r < T.1 1 → 1 ≤ c r) (ho : M.1 25 = o) (ho2 : o < 2 ^ 31) (hl : ∀ k, k < 2 * T.1 1 → M.2 26 k = LF T c o k) (hp : p < 2 ^ 31) (hbR : b ≤ T.1 1) (hkk : kk < 2 ^ 31) (hfar : farV T c o b p < 1000000) (X : XC) (E : Ob g X cX7_kthFrom 8 RX7) (hX : X.2.2.1 = zR 5 0 0) (Er : Oe g X (some .int) (QI (fun r_ w_ => ∃ M2 : NS, r_ = (if kk < lenV T c o (p, b) then nI (rdV T c o (p, b) kk) else -5) ∧ w_ = wMod g a h M2 ∧ (∃ t f, M2 = sA (sF M 27 t) 28 f ∧ (lenV T c o (p, b) ≤ kk → t = trV T c o (p, b) (lenV T c o (p, b)) ∧ ∀ r, r < 12 → f r = cR (rdV T c o (p, b)) (lenV T c o (p, b)) r)))) 0 0) : ∀ (n : Nat) (i : Nat) (x : Nat) (y : Nat) (t : Nat) (f : Nat → Nat), ((x, y) = pthV T c o (p, b) i) → (∀ j, j < i → (pthV T c o (p, b) j).1 ≠ T.1 3) → (i ≤ kk) → (t = trV T c o (p, b) i) → (∀ r, r < 12 → f r = cR (rdV T c o (p, b)) i r) → (24 < i + n) → Z g X 8 0 0 (wMod g a h (sA (sF M 27 t) 28 f)) [(0, .ref a), (1, .int (nI p)), (2, .int (nI b)), (3, .int (nI kk)), (4, .int (nI x)), (5, .int (nI y)), (6, .int (nI i))] [] 38 := by
  intro n
  induction n with
  | zero =>
    intro i x y t f hxy hg hik ht hgo hf
    have hR := hT.2.2.1
    have hb := hT.2.1.2
    have h4 := hT.2.2.2.2.2.1
    have hg3 := hT.2.2.2.2.1
    have hil := kth_lt hc1 hfar hg
    have hl24 := (lenV_spec (s := (p, b)) hc1 hfar).1
    have hpl := pth_lt (c := c) (o := o) (L := LF T c o) hT hp hbR i
    rw [show pth T c o (LF T c o) (p, b) i = (x, y) from hxy.symm] at hpl
    dsimp only at hpl
    have hpl1 := hpl.1
    have hpl2 := hpl.2
    exfalso; omega
  | succ n ih =>
    intro i x y t f hxy hg hik ht hgo hf
    have hR := hT.2.2.1
    have hb := hT.2.1.2
    have h4 := hT.2.2.2.2.2.1
    have hg3 := hT.2.2.2.2.1
    have hil := kth_lt hc1 hfar hg
    have hl24 := (lenV_spec (s := (p, b)) hc1 hfar).1
    have hpl := pth_lt (c := c) (o := o) (L := LF T c o) hT hp hbR i
    rw [show pth T c o (LF T c o) (p, b) i = (x, y) from hxy.symm] at hpl
    dsimp only at hpl
    have hpl1 := hpl.1
    have hpl2 := hpl.2
    refine z_aload_n E dX7_kthFrom_38 0 rfl rfl ?_
    refine z_iload E dX7_kthFrom_39 4 rfl ?_
    refine z_iload E dX7_kthFrom_41 5 rfl ?_
    refine z_ro0 E (rV E hX (c_X7_firstFrom g a h (sA (sF M 27 t) 28 f) x y T c o (LF T c o) hT hM hc hcl ho ho2 hl (fun k hk => by rw [LF_fix T c o k hk]; exact farT_le _ _ _ _ _ _) (by omega) (by omega)) mw_X7_firstFrom ml_X7_192 dX7_kthFrom_43 (Nat.le_of_ble_eq_true rfl) ⟨(Nat.le_of_ble_eq_true rfl), (Nat.le_of_ble_eq_true rfl)⟩ rfl rfl (Nat.le_of_ble_eq_true rfl) 0 rfl rfl) ?_
    refine z_istore (lv' := [(0, .ref a), (1, .int (nI p)), (2, .int (nI b)), (3, .int (nI kk)), (4, .int (nI x)), (5, .int (nI y)), (6, .int (nI i)), (7, .int (cm (ffV T c o (LF T c o) y x)))]) E dX7_kthFrom_46 (by decide) rfl ?_
    refine z_iload E dX7_kthFrom_48 7 rfl ?_
    refine z_bipush (v := (-9)) E dX7_kthFrom_50 (by decide) ?_
    refine z_icmpC_ne E dX7_kthFrom_52 58 (by decide) (by have := ffV_le T c o (LF T c o) y x; have := hT.2.2.1; omega) (fun c1 => ?_) (fun c1 => ?_)
    · obtain ⟨hx3, hrd, hnx⟩ := kth_rd hxy c1
      have hfl := ffV_le T c o (LF T c o) y x
      refine z_lve (lv' := [(0, .ref a), (1, .int (nI p)), (2, .int (nI b)), (3, .int (nI kk)), (4, .int (nI x)), (5, .int (nI y)), (6, .int (nI i)), (7, .int (nI ((ffV T c o (LF T c o) y x) - 1)))]) (by rw [cm_pos c1]) ?_
      refine z_iload E dX7_kthFrom_58 6 rfl ?_
      refine z_iload_n E dX7_kthFrom_60 3 rfl rfl ?_
      refine z_icmpN_ne E dX7_kthFrom_61 67 (by decide) (by omega) (hkk) (fun c2 => ?_) (fun c2 => ?_)
      · refine z_aload_n E dX7_kthFrom_67 0 rfl rfl ?_
        refine z_dup E dX7_kthFrom_68 rfl ?_
        refine gt_X7_189 (v := .int (nI t)) E dX7_kthFrom_69 0 rfl rfl ?_
        refine z_aload_n E dX7_kthFrom_72 0 rfl rfl ?_
        refine z_iload E dX7_kthFrom_73 5 rfl ?_
        refine z_iload E dX7_kthFrom_75 7 rfl ?_
        refine z_ro0 E (rV E hX (c_X7_isTurn g a h (sA (sF M 27 t) 28 f) y ((ffV T c o (LF T c o) y x) - 1) T hT hM (by omega) (by omega)) mw_X7_isTurn ml_X7_160 dX7_kthFrom_77 (Nat.le_of_ble_eq_true rfl) ⟨(Nat.le_of_ble_eq_true rfl), (Nat.le_of_ble_eq_true rfl)⟩ rfl rfl (Nat.le_of_ble_eq_true rfl) 0 rfl rfl) ?_
        refine z_ifB_eq E dX7_kthFrom_80 87 (by decide) (fun c3 => ?_) (fun c3 => ?_)
        · refine z_iconst (v := (nI 0)) E dX7_kthFrom_87 (by decide) ?_
          refine z_iaddN E dX7_kthFrom_88 ?_
          refine pt_X7_189 (x := nI (t + 0)) (ws' := wMod g a h (sA (sF M 27 (t + 0)) 28 f)) E dX7_kthFrom_89 0 rfl (Nat.le_of_ble_eq_true rfl) rfl ?_
          refine z_aload_n E dX7_kthFrom_92 0 rfl rfl ?_
          refine gt_X7_53 (v := .ref (h 28)) E dX7_kthFrom_93 0 rfl rfl ?_
          refine z_iload E dX7_kthFrom_96 7 rfl ?_
          refine z_dup2 E dX7_kthFrom_98 rfl rfl ?_
          refine z_ialdN (f := f) E dX7_kthFrom_99 15 rfl (by omega) (by decide) ?_
          refine z_iconst (v := (nI 1)) E dX7_kthFrom_100 (by decide) ?_
          refine z_iaddN E dX7_kthFrom_101 ?_
          refine z_iastN (f := f) (i := ((ffV T c o (LF T c o) y x) - 1)) (x := ((f ((ffV T c o (LF T c o) y x) - 1)) + 1)) (ws' := wMod g a h (sA (sF M 27 (t + 0)) 28 (va_up f ((ffV T c o (LF T c o) y x) - 1) ((f ((ffV T c o (LF T c o) y x) - 1)) + 1)))) E dX7_kthFrom_102 15 rfl (by omega) (by decide) rfl ?_
          refine z_aload_n E dX7_kthFrom_103 0 rfl rfl ?_
          refine z_iload E dX7_kthFrom_104 7 rfl ?_
          refine z_iload E dX7_kthFrom_106 4 rfl ?_
          refine z_ro0 E (rV E hX (c_X7_otherEnd g a h (sA (sF M 27 (t + 0)) 28 (va_up f ((ffV T c o (LF T c o) y x) - 1) ((f ((ffV T c o (LF T c o) y x) - 1)) + 1))) ((ffV T c o (LF T c o) y x) - 1) x T hT hM (by omega) (by omega)) mw_X7_otherEnd ml_X7_175 dX7_kthFrom_108 (Nat.le_of_ble_eq_true rfl) ⟨(Nat.le_of_ble_eq_true rfl), (Nat.le_of_ble_eq_true rfl)⟩ rfl rfl (Nat.le_of_ble_eq_true rfl) 0 rfl rfl) ?_
          refine z_istore (lv' := [(0, .ref a), (1, .int (nI p)), (2, .int (nI b)), (3, .int (nI kk)), (4, .int (nI (otherT T ((ffV T c o (LF T c o) y x) - 1) x))), (5, .int (nI y)), (6, .int (nI i)), (7, .int (nI ((ffV T c o (LF T c o) y x) - 1)))]) E dX7_kthFrom_111 (by decide) rfl ?_
          refine z_iload E dX7_kthFrom_113 7 rfl ?_
          refine z_iconst (v := (nI 1)) E dX7_kthFrom_115 (by decide) ?_
          refine z_iaddN E dX7_kthFrom_116 ?_
          refine z_istore (lv' := [(0, .ref a), (1, .int (nI p)), (2, .int (nI b)), (3, .int (nI kk)), (4, .int (nI (otherT T ((ffV T c o (LF T c o) y x) - 1) x))), (5, .int (nI (((ffV T c o (LF T c o) y x) - 1) + 1))), (6, .int (nI i)), (7, .int (nI ((ffV T c o (LF T c o) y x) - 1)))]) E dX7_kthFrom_117 (by decide) rfl ?_
          refine z_iincN (lv' := [(0, .ref a), (1, .int (nI p)), (2, .int (nI b)), (3, .int (nI kk)), (4, .int (nI (otherT T ((ffV T c o (LF T c o) y x) - 1) x))), (5, .int (nI (((ffV T c o (LF T c o) y x) - 1) + 1))), (6, .int (nI (i + 1))), (7, .int (nI ((ffV T c o (LF T c o) y x) - 1)))]) E dX7_kthFrom_119 6 rfl (by decide) rfl ?_
          refine z_goto E dX7_kthFrom_122 38 (by decide) ?_
          refine z_lv [0, 1, 2, 3, 4, 5, 6] rfl ?_; exact ih (i + 1) (otherT T ((ffV T c o (LF T c o) y x) - 1) x) (((ffV T c o (LF T c o) y x) - 1) + 1) (t + 0) (va_up f ((ffV T c o (LF T c o) y x) - 1) ((f ((ffV T c o (LF T c o) y x) - 1)) + 1)) (by rw [hnx, show ffV T c o (LF T c o) y x - 1 + 1 = ffV T c o (LF T c o) y x by omega]) (fun j hj => by rcases Nat.lt_or_ge j i with q | q; (exact hg j q); (rw [show j = i by omega, ← hxy]; exact hx3)) (by omega) (by show _ = trV T c o (p, b) i + _; rw [← ht, show pth T c o (LF T c o) (p, b) i = (x, y) from hxy.symm]; show _ = t + (if isTn T y (rdV T c o (p, b) i) = true then 1 else 0); rw [← hrd, if_neg (by rw [c3]; decide)]) (fun r hr => by rw [cR_s, ← hrd, ← hgo r hr]; unfold va_up; by_cases q : r = ffV T c o (LF T c o) y x - 1; (rw [if_pos q, if_pos q.symm, q]); (rw [if_neg q, if_neg (fun e => q e.symm), Nat.add_zero])) (by omega)
        · refine z_iconst (v := (nI 1)) E dX7_kthFrom_83 (by decide) ?_
          refine z_goto E dX7_kthFrom_84 88 (by decide) ?_
          refine z_iaddN E dX7_kthFrom_88 ?_
          refine pt_X7_189 (x := nI (t + 1)) (ws' := wMod g a h (sA (sF M 27 (t + 1)) 28 f)) E dX7_kthFrom_89 0 rfl (Nat.le_of_ble_eq_true rfl) rfl ?_
          refine z_aload_n E dX7_kthFrom_92 0 rfl rfl ?_
          refine gt_X7_53 (v := .ref (h 28)) E dX7_kthFrom_93 0 rfl rfl ?_
          refine z_iload E dX7_kthFrom_96 7 rfl ?_
          refine z_dup2 E dX7_kthFrom_98 rfl rfl ?_
          refine z_ialdN (f := f) E dX7_kthFrom_99 15 rfl (by omega) (by decide) ?_
          refine z_iconst (v := (nI 1)) E dX7_kthFrom_100 (by decide) ?_
          refine z_iaddN E dX7_kthFrom_101 ?_
          refine z_iastN (f := f) (i := ((ffV T c o (LF T c o) y x) - 1)) (x := ((f ((ffV T c o (LF T c o) y x) - 1)) + 1)) (ws' := wMod g a h (sA (sF M 27 (t + 1)) 28 (va_up f ((ffV T c o (LF T c o) y x) - 1) ((f ((ffV T c o (LF T c o) y x) - 1)) + 1)))) E dX7_kthFrom_102 15 rfl (by omega) (by decide) rfl ?_
          refine z_aload_n E dX7_kthFrom_103 0 rfl rfl ?_
          refine z_iload E dX7_kthFrom_104 7 rfl ?_
          refine z_iload E dX7_kthFrom_106 4 rfl ?_
          refine z_ro0 E (rV E hX (c_X7_otherEnd g a h (sA (sF M 27 (t + 1)) 28 (va_up f ((ffV T c o (LF T c o) y x) - 1) ((f ((ffV T c o (LF T c o) y x) - 1)) + 1))) ((ffV T c o (LF T c o) y x) - 1) x T hT hM (by omega) (by omega)) mw_X7_otherEnd ml_X7_175 dX7_kthFrom_108 (Nat.le_of_ble_eq_true rfl) ⟨(Nat.le_of_ble_eq_true rfl), (Nat.le_of_ble_eq_true rfl)⟩ rfl rfl (Nat.le_of_ble_eq_true rfl) 0 rfl rfl) ?_
          refine z_istore (lv' := [(0, .ref a), (1, .int (nI p)), (2, .int (nI b)), (3, .int (nI kk)), (4, .int (nI (otherT T ((ffV T c o (LF T c o) y x) - 1) x))), (5, .int (nI y)), (6, .int (nI i)), (7, .int (nI ((ffV T c o (LF T c o) y x) - 1)))]) E dX7_kthFrom_111 (by decide) rfl ?_
          refine z_iload E dX7_kthFrom_113 7 rfl ?_
          refine z_iconst (v := (nI 1)) E dX7_kthFrom_115 (by decide) ?_
          refine z_iaddN E dX7_kthFrom_116 ?_
          refine z_istore (lv' := [(0, .ref a), (1, .int (nI p)), (2, .int (nI b)), (3, .int (nI kk)), (4, .int (nI (otherT T ((ffV T c o (LF T c o) y x) - 1) x))), (5, .int (nI (((ffV T c o (LF T c o) y x) - 1) + 1))), (6, .int (nI i)), (7, .int (nI ((ffV T c o (LF T c o) y x) - 1)))]) E dX7_kthFrom_117 (by decide) rfl ?_
          refine z_iincN (lv' := [(0, .ref a), (1, .int (nI p)), (2, .int (nI b)), (3, .int (nI kk)), (4, .int (nI (otherT T ((ffV T c o (LF T c o) y x) - 1) x))), (5, .int (nI (((ffV T c o (LF T c o) y x) - 1) + 1))), (6, .int (nI (i + 1))), (7, .int (nI ((ffV T c o (LF T c o) y x) - 1)))]) E dX7_kthFrom_119 6 rfl (by decide) rfl ?_
          refine z_goto E dX7_kthFrom_122 38 (by decide) ?_
          refine z_lv [0, 1, 2, 3, 4, 5, 6] rfl ?_; exact ih (i + 1) (otherT T ((ffV T c o (LF T c o) y x) - 1) x) (((ffV T c o (LF T c o) y x) - 1) + 1) (t + 1) (va_up f ((ffV T c o (LF T c o) y x) - 1) ((f ((ffV T c o (LF T c o) y x) - 1)) + 1)) (by rw [hnx, show ffV T c o (LF T c o) y x - 1 + 1 = ffV T c o (LF T c o) y x by omega]) (fun j hj => by rcases Nat.lt_or_ge j i with q | q; (exact hg j q); (rw [show j = i by omega, ← hxy]; exact hx3)) (by omega) (by show _ = trV T c o (p, b) i + _; rw [← ht, show pth T c o (LF T c o) (p, b) i = (x, y) from hxy.symm]; show _ = t + (if isTn T y (rdV T c o (p, b) i) = true then 1 else 0); rw [← hrd, if_pos c3]) (fun r hr => by rw [cR_s, ← hrd, ← hgo r hr]; unfold va_up; by_cases q : r = ffV T c o (LF T c o) y x - 1; (rw [if_pos q, if_pos q.symm, q]); (rw [if_neg q, if_neg (fun e => q e.symm), Nat.add_zero])) (by omega)
      · have hil2 := kth_lt (i := i + 1) hc1 hfar (fun j hj => by rcases Nat.lt_or_ge j i with q | q; (exact hg j q); (rw [show j = i by omega, ← hxy]; exact hx3))
        refine z_iload E dX7_kthFrom_64 7 rfl ?_
        refine z_iret E Er dX7_kthFrom_66 ?_
        exact ⟨_, rfl, _, by rw [if_pos (by rw [← c2]; exact hil2), ← c2, hrd], rfl, t, f, rfl, fun q => absurd (c2 ▸ hil2) (Nat.not_lt.mpr q)⟩
    · refine z_bipush (v := (-5)) E dX7_kthFrom_55 (by decide) ?_
      refine z_iret E Er dX7_kthFrom_57 ?_
      exact ⟨_, rfl, _, by rw [if_neg (by rw [← kth_end hc1 hfar hxy hg c1]; omega)], rfl, t, f, rfl, fun _ => by rw [← kth_end hc1 hfar hxy hg c1]; exact ⟨ht, hgo⟩⟩

set_option maxHeartbeats 4000000 in
set_option maxRecDepth 100000 in
theorem c_X7_kthFrom (g : GC) (a : Nat) (h : Nat → Nat) (M : NS) (p : Nat) (b : Nat) (kk : Nat) (T : NS) (c : Nat → Nat) (o : Nat) (hT : tdI T) (hM : mrT T M) (hc : ∀ r, r < T.1 1 → M.2 24 r = c r) (hcl : ∀ r, r < T.1 1 → c r ≤ 100000) (hc1 : ∀ r, r < T.1 1 → 1 ≤ c r) (ho : M.1 25 = o) (ho2 : o < 2 ^ 31) (hl : ∀ k, k < 2 * T.1 1 → M.2 26 k = LF T c o k) (hp : p < 2 ^ 31) (hbR : b ≤ T.1 1) (hkk : kk < 2 ^ 31) (hfar : farV T c o b p < 1000000) : Ct g yX7_kthFrom cX7_kthFrom 8 (some .int) 5 0 0 [.ref a, .int (nI p), .int (nI b), .int (nI kk)] (wMod g a h M) (QI (fun r_ w_ => ∃ M2 : NS, r_ = (if kk < lenV T c o (p, b) then nI (rdV T c o (p, b) kk) else -5) ∧ w_ = wMod g a h M2 ∧ (∃ t f, M2 = sA (sF M 27 t) 28 f ∧ (lenV T c o (p, b) ≤ kk → t = trV T c o (p, b) (lenV T c o (p, b)) ∧ ∀ r, r < 12 → f r = cR (rdV T c o (p, b)) (lenV T c o (p, b)) r)))) := by
  refine Ct.of (by decide) (Nat.le_of_ble_eq_true rfl) ?_
  intro X E Er hX _ hnm
  have E : Ob g X cX7_kthFrom 8 RX7 := E
  have hR := hT.2.2.1
  have hb := hT.2.1.2
  have h4 := hT.2.2.2.2.2.1
  have hg3 := hT.2.2.2.2.1
  refine z_lve (lv' := [(0, .ref a), (1, .int (nI p)), (2, .int (nI b)), (3, .int (nI kk))]) rfl ?_
  refine z_iload_n E dX7_kthFrom_0 1 rfl rfl ?_
  refine z_istore (lv' := [(0, .ref a), (1, .int (nI p)), (2, .int (nI b)), (3, .int (nI kk)), (4, .int (nI p))]) E dX7_kthFrom_1 (by decide) rfl ?_
  refine z_iload_n E dX7_kthFrom_3 2 rfl rfl ?_
  refine z_istore (lv' := [(0, .ref a), (1, .int (nI p)), (2, .int (nI b)), (3, .int (nI kk)), (4, .int (nI p)), (5, .int (nI b))]) E dX7_kthFrom_4 (by decide) rfl ?_
  refine z_aload_n E dX7_kthFrom_6 0 rfl rfl ?_
  refine z_iconst (v := (nI 0)) E dX7_kthFrom_7 (by decide) ?_
  refine pt_X7_189 (x := nI 0) (ws' := wMod g a h (sF M 27 0)) E dX7_kthFrom_8 0 rfl (Nat.le_of_ble_eq_true rfl) rfl ?_
  refine z_iconst (v := (nI 0)) E dX7_kthFrom_11 (by decide) ?_
  refine z_istore (lv' := [(0, .ref a), (1, .int (nI p)), (2, .int (nI b)), (3, .int (nI kk)), (4, .int (nI p)), (5, .int (nI b)), (6, .int (nI 0))]) E dX7_kthFrom_12 (by decide) rfl ?_
  refine l_mgone g a h M p b kk T c o hT hM hc hcl hc1 ho ho2 hl hp hbR hkk hfar X E hX (fun f hz => ?_) 13 0 (M.2 28) (by omega) (fun k hk => absurd hk (Nat.not_lt_zero k)) (by omega)
  refine z_iconst (v := (nI 0)) E dX7_kthFrom_35 (by decide) ?_
  refine z_istore (lv' := [(0, .ref a), (1, .int (nI p)), (2, .int (nI b)), (3, .int (nI kk)), (4, .int (nI p)), (5, .int (nI b)), (6, .int (nI 0))]) E dX7_kthFrom_36 (by decide) rfl ?_
  exact l_mkth g a h M p b kk T c o hT hM hc hcl hc1 ho ho2 hl hp hbR hkk hfar X E hX Er 25 0 p b 0 f rfl (fun j hj => absurd hj (Nat.not_lt_zero j)) (by omega) rfl (fun r hr => hz r hr) (by omega)
