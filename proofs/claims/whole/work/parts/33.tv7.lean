/-- his way: how many roads, where, how come, minutes -/
def hsS (T P W : NS) : Nat → Nat × Nat × Nat × Nat
  | 0 => (0, P.1 0, P.1 1, 0)
  | i + 1 => if (hsS T P W i).1 = i ∧ canT T P (W.2 7 i) (hsS T P W i).2.1 = true then (i + 1, otherT T (W.2 7 i) (hsS T P W i).2.1, W.2 7 i + 1, (hsS T P W i).2.2.2 + (T.2 8 (W.2 7 i) + P.2 5 (W.2 7 i) + nvT T (hsS T P W i).2.2.1 (W.2 7 i))) else hsS T P W i
theorem hsS_s (T P W : NS) (i : Nat) : hsS T P W (i + 1) = if (hsS T P W i).1 = i ∧ canT T P (W.2 7 i) (hsS T P W i).2.1 = true then (i + 1, otherT T (W.2 7 i) (hsS T P W i).2.1, W.2 7 i + 1, (hsS T P W i).2.2.2 + (T.2 8 (W.2 7 i) + P.2 5 (W.2 7 i) + nvT T (hsS T P W i).2.2.1 (W.2 7 i))) else hsS T P W i := rfl
theorem hsS_le (T P W : NS) : ∀ i, (hsS T P W i).1 ≤ i
  | 0 => Nat.le_refl _
  | i + 1 => by
    have := hsS_le T P W i
    rw [hsS_s]
    split
    · exact Nat.le_refl _
    · omega
theorem hsS_stop {T P W : NS} {i : Nat} (h : hsS T P W (i + 1) = hsS T P W i) : ∀ j, i ≤ j → hsS T P W j = hsS T P W i
  | 0, hj => by rw [show i = 0 by omega]
  | j + 1, hj => by
    rcases Nat.lt_trichotomy j i with q | q | q
    · rw [show i = j + 1 by omega]
    · rw [q]; exact h
    · have e := hsS_stop h j (by omega)
      have l := hsS_le T P W i
      rw [hsS_s, if_neg (by rw [e]; intro q2; omega), e]
theorem otherT_l8 {T : NS} (hT : tdI T) {r p : Nat} (hr : r < T.1 1) : otherT T r p < T.1 0 := by
  have h := hT.2.2.2.2.2.2.2.2.2 r hr
  unfold otherT
  split
  · exact h.2.1
  · exact h.1
theorem hsS_lt {T P W : NS} (hT : tdI T) (hP : pnI T P) (hW : tvI T W) : ∀ i, i ≤ W.1 8 → (hsS T P W i).2.1 < T.1 0 ∧ (hsS T P W i).2.2.1 ≤ T.1 1 ∧ (hsS T P W i).2.2.2 ≤ 140 * i
  | 0, _ => ⟨hP.2.1, hP.2.2.1, Nat.zero_le _⟩
  | i + 1, hi => by
    obtain ⟨h1, h2, h3⟩ := hsS_lt hT hP hW i (by omega)
    have h7 := hW.2.2.1 i (by omega)
    have e8 := hT.2.2.2.2.2.2.2.1 (W.2 7 i)
    have e5 := hP.2.2.2.2.2.2 (W.2 7 i)
    have env := nvT_le T (hsS T P W i).2.2.1 (W.2 7 i)
    have e4 := hT.2.2.2.2.2.1
    rw [hsS_s]
    split
    · exact ⟨otherT_l8 hT h7, h7, by show _ + _ ≤ _; omega⟩
    · exact ⟨h1, h2, by omega⟩
noncomputable def hisV (T P W : NS) (n : Int32) : Int32 := if wi n (nI 0) (nI 1) = true then (if n = nI 1 then nI (hsS T P W (W.1 8)).1 else if mfV T (cT T P) (opn T P) (hsS T P W (W.1 8)).2.2.1 (hsS T P W (W.1 8)).2.1 = 0 then -9 else nI ((hsS T P W (W.1 8)).2.2.2 + (mfV T (cT T P) (opn T P) (hsS T P W (W.1 8)).2.2.1 (hsS T P W (W.1 8)).2.1 - 1))) else -1

set_option maxHeartbeats 4000000 in
set_option maxRecDepth 100000 in
theorem l_his (g : GC) (x : Nat) (y : Nat → Nat) (W : NS) (rd : Nat) (dr : Nat) (pa : Nat) (ch : Nat) (im : Nat → Nat) (a : Nat) (h : Nat → Nat) (T : NS) (p : Nat) (q : Nat → Nat) (P : NS) (vo : Nat) (hv : Nat → Nat) (V : NS) (t : Nat) (n2 : Nat) (hT : tdI T) (hP : pnI T P) (hW : tvI T W) (X : XC) (E : Ob g X cX6_his 7 RX6) (hX : X.2.2.1 = zR 6 0 0) (K : ∀ (i : Nat) (z : Nat) (b : Nat) (m : Nat), ((i, z, b, m) = hsS T P W (W.1 8)) → Z g X 7 0 0 (wTV g x y rd a dr p pa vo ch im W ++ (wTown g a h T ++ (wPres g p q P ++ (wVoice g vo hv t V)))) [(0, .ref x), (1, .int (nI n2)), (2, .int (nI z)), (3, .int (cm b)), (4, .int (nI m)), (5, .int (nI i))] [] 98) : ∀ (n : Nat) (i : Nat) (z : Nat) (b : Nat) (m : Nat), (i ≤ W.1 8) → ((i, z, b, m) = hsS T P W i) → (W.1 8 < i + n) → Z g X 7 0 0 (wTV g x y rd a dr p pa vo ch im W ++ (wTown g a h T ++ (wPres g p q P ++ (wVoice g vo hv t V)))) [(0, .ref x), (1, .int (nI n2)), (2, .int (nI z)), (3, .int (cm b)), (4, .int (nI m)), (5, .int (nI i))] [] 33 := by
  intro n
  induction n with
  | zero =>
    intro i z b m hi hs hf
    have hl := hsS_lt hT hP hW i hi
    rw [← hs] at hl
    dsimp only at hl
    have hw8 := hW.1
    have hR := hT.2.2.1
    have hs4 := hP.s4 hT
    have hb := hT.2.1.2
    have hp0 := hP.2.1
    have hp1 := hP.2.2.1
    have h4 := hT.2.2.2.2.2.1
    exfalso; omega
  | succ n ih =>
    intro i z b m hi hs hf
    have hl := hsS_lt hT hP hW i hi
    rw [← hs] at hl
    dsimp only at hl
    have hw8 := hW.1
    have hR := hT.2.2.1
    have hs4 := hP.s4 hT
    have hb := hT.2.1.2
    have hp0 := hP.2.1
    have hp1 := hP.2.2.1
    have h4 := hT.2.2.2.2.2.1
    refine z_iload E dX6_his_33 5 rfl ?_
    refine z_aload_n E dX6_his_35 0 rfl rfl ?_
    refine gt_X6_214 (v := .int (nI (W.1 8))) E dX6_his_36 0 rfl rfl ?_
    refine z_icmpN_ge E dX6_his_39 98 (by decide) (by omega) (by omega) (fun c1 => ?_) (fun c1 => ?_)
    · exact K i z b m (by rw [hs, show i = W.1 8 by omega])
    · have h7 := hW.2.2.1 i c1
      refine z_aload_n E dX6_his_42 0 rfl rfl ?_
      refine z_aload_n E dX6_his_43 0 rfl rfl ?_
      refine gt_X6_54 (v := .ref (y 7)) E dX6_his_44 0 rfl rfl ?_
      refine z_iload E dX6_his_47 5 rfl ?_
      refine z_ialdN (f := (W.2 7)) E dX6_his_49 1 rfl (by omega) (by decide) ?_
      refine z_iload_n E dX6_his_50 2 rfl rfl ?_
      refine z_fro (ws := wTV g x y rd a dr p pa vo ch im W ++ (wTown g a h T ++ (wPres g p q P ++ (wVoice g vo hv t V)))) (cs := [wTV g x y rd a dr p pa vo ch im W, wTown g a h T, wPres g p q P, wVoice g vo hv t V]) (ds := [wTV g x y rd a dr p pa vo ch im W, wTown g a h T, wPres g p q P]) (rs := [wVoice g vo hv t V]) E [0, 0, 0] rfl rfl (rV E hX (c_X6_canTake g x y W rd dr pa vo ch im a h T p q P ((W.2 7) i) z (by assumption) (by omega) (by omega) (by omega)) mw_X6_canTake ml_X6_149 dX6_his_51 (Nat.le_of_ble_eq_true rfl) ⟨(Nat.le_of_ble_eq_true rfl), (Nat.le_of_ble_eq_true rfl)⟩ rfl rfl (Nat.le_of_ble_eq_true rfl) 0 rfl rfl) ?_
      refine z_ifB_eq E dX6_his_54 98 (by decide) (fun c2 => ?_) (fun c2 => ?_)
      · exact K i z b m (by rw [hs]; exact (hsS_stop (by rw [hsS_s, if_neg (by rw [← hs]; dsimp only; rw [c2]; intro q; exact absurd q.2 (by decide))]) _ (by omega)).symm)
      · refine z_aload_n E dX6_his_57 0 rfl rfl ?_
        refine gt_X6_54 (v := .ref (y 7)) E dX6_his_58 0 rfl rfl ?_
        refine z_iload E dX6_his_61 5 rfl ?_
        refine z_ialdN (f := (W.2 7)) E dX6_his_63 1 rfl (by omega) (by decide) ?_
        refine z_istore (lv' := [(0, .ref x), (1, .int (nI n2)), (2, .int (nI z)), (3, .int (cm b)), (4, .int (nI m)), (5, .int (nI i)), (6, .int (nI ((W.2 7) i)))]) E dX6_his_64 (by decide) rfl ?_
        refine z_iload E dX6_his_66 4 rfl ?_
        refine z_aload_n E dX6_his_68 0 rfl rfl ?_
        refine z_iload_n E dX6_his_69 3 rfl rfl ?_
        refine z_iload E dX6_his_70 6 rfl ?_
        refine z_fro (ws := wTV g x y rd a dr p pa vo ch im W ++ (wTown g a h T ++ (wPres g p q P ++ (wVoice g vo hv t V)))) (cs := [wTV g x y rd a dr p pa vo ch im W, wTown g a h T, wPres g p q P, wVoice g vo hv t V]) (ds := [wTV g x y rd a dr p pa vo ch im W, wTown g a h T, wPres g p q P]) (rs := [wVoice g vo hv t V]) E [0, 0, 0] rfl rfl (rV E hX (c_X6_minutesOfTaking g x y W rd dr pa vo ch im a h T p q P b ((W.2 7) i) (by assumption) (by omega) (by omega)) mw_X6_minutesOfTaking ml_X6_153 dX6_his_72 (Nat.le_of_ble_eq_true rfl) ⟨(Nat.le_of_ble_eq_true rfl), (Nat.le_of_ble_eq_true rfl)⟩ rfl rfl (Nat.le_of_ble_eq_true rfl) 0 rfl rfl) ?_
        refine z_iaddN E dX6_his_75 ?_
        refine z_istore (lv' := [(0, .ref x), (1, .int (nI n2)), (2, .int (nI z)), (3, .int (cm b)), (4, .int (nI (m + ((T.2 8) ((W.2 7) i) + (P.2 5) ((W.2 7) i) + nvT T b ((W.2 7) i))))), (5, .int (nI i)), (6, .int (nI ((W.2 7) i)))]) E dX6_his_76 (by decide) rfl ?_
        refine z_aload_n E dX6_his_78 0 rfl rfl ?_
        refine gt_X6_19 (v := .ref a) E dX6_his_79 0 rfl rfl ?_
        refine z_iload E dX6_his_82 6 rfl ?_
        refine z_iload_n E dX6_his_84 2 rfl rfl ?_
        refine z_fro (ws := wTV g x y rd a dr p pa vo ch im W ++ (wTown g a h T ++ (wPres g p q P ++ (wVoice g vo hv t V)))) (cs := [wTV g x y rd a dr p pa vo ch im W, wTown g a h T, wPres g p q P, wVoice g vo hv t V]) (ds := [wTown g a h T]) (rs := [wTV g x y rd a dr p pa vo ch im W, wPres g p q P, wVoice g vo hv t V]) E [1] rfl rfl (rV E hX (c_X4_otherEnd g a h T ((W.2 7) i) z hT.1 (by omega) (by omega)) mw_X4_otherEnd ml_X6_164 dX6_his_85 (Nat.le_of_ble_eq_true rfl) ⟨(Nat.le_of_ble_eq_true rfl), (Nat.le_of_ble_eq_true rfl)⟩ rfl rfl (Nat.le_of_ble_eq_true rfl) 0 rfl rfl) ?_
        refine z_istore_n (lv' := [(0, .ref x), (1, .int (nI n2)), (2, .int (nI (otherT T ((W.2 7) i) z))), (3, .int (cm b)), (4, .int (nI (m + ((T.2 8) ((W.2 7) i) + (P.2 5) ((W.2 7) i) + nvT T b ((W.2 7) i))))), (5, .int (nI i)), (6, .int (nI ((W.2 7) i)))]) E dX6_his_88 2 rfl (by decide) rfl ?_
        refine z_iload E dX6_his_89 6 rfl ?_
        refine z_istore_n (lv' := [(0, .ref x), (1, .int (nI n2)), (2, .int (nI (otherT T ((W.2 7) i) z))), (3, .int (nI ((W.2 7) i))), (4, .int (nI (m + ((T.2 8) ((W.2 7) i) + (P.2 5) ((W.2 7) i) + nvT T b ((W.2 7) i))))), (5, .int (nI i)), (6, .int (nI ((W.2 7) i)))]) E dX6_his_91 3 rfl (by decide) rfl ?_
        refine z_iincN (lv' := [(0, .ref x), (1, .int (nI n2)), (2, .int (nI (otherT T ((W.2 7) i) z))), (3, .int (nI ((W.2 7) i))), (4, .int (nI (m + ((T.2 8) ((W.2 7) i) + (P.2 5) ((W.2 7) i) + nvT T b ((W.2 7) i))))), (5, .int (nI (i + 1))), (6, .int (nI ((W.2 7) i)))]) E dX6_his_92 5 rfl (by decide) rfl ?_
        refine z_goto E dX6_his_95 33 (by decide) ?_
        refine z_lv [0, 1, 2, 3, 4, 5] rfl ?_; exact ih (i + 1) (otherT T ((W.2 7) i) z) (((W.2 7) i) + 1) (m + ((T.2 8) ((W.2 7) i) + (P.2 5) ((W.2 7) i) + nvT T b ((W.2 7) i))) (by omega) (by rw [hsS_s, ← hs]; dsimp only; rw [if_pos ⟨rfl, c2⟩]) (by omega)

set_option maxHeartbeats 4000000 in
set_option maxRecDepth 100000 in
theorem c_X6_his (g : GC) (x : Nat) (y : Nat → Nat) (W : NS) (rd : Nat) (dr : Nat) (pa : Nat) (ch : Nat) (im : Nat → Nat) (a : Nat) (h : Nat → Nat) (T : NS) (p : Nat) (q : Nat → Nat) (P : NS) (vo : Nat) (hv : Nat → Nat) (V : NS) (t : Nat) (n : Int32) (hT : tdI T) (hP : pnI T P) (hV : vI V) (hW : tvI T W) : Ct g yX6_his cX6_his 7 (some .int) 6 0 0 [.ref x, .int n] (wTV g x y rd a dr p pa vo ch im W ++ (wTown g a h T ++ (wPres g p q P ++ (wVoice g vo hv t V)))) (QI (fun r_ w_ => ∃ V2 : NS, ∃ t2 : Nat, r_ = (hisV T P W n) ∧ w_ = wTV g x y rd a dr p pa vo ch im W ++ (wTown g a h T ++ (wPres g p q P ++ (wVoice g vo hv t2 V2))) ∧ (vI V2 ∧ (t2 = a ∨ t2 = t)))) := by
  refine Ct.of (by decide) (Nat.le_of_ble_eq_true rfl) ?_
  intro X E Er hX _ hnm
  have E : Ob g X cX6_his 7 RX6 := E
  have hR := hT.2.2.1
  have hs4 := hP.s4 hT
  have hb := hT.2.1.2
  have hp0 := hP.2.1
  have hp1 := hP.2.2.1
  have h4 := hT.2.2.2.2.2.1
  have hc1 := cT_1 P hT
  have hg3 := hT.2.2.2.2.1
  have hg2 := hT.2.2.2.1
  refine z_lve (lv' := [(0, .ref x), (1, .int n)]) rfl ?_
  refine z_iload_n E dX6_his_0 1 rfl rfl ?_
  refine z_iconst (v := (nI 0)) E dX6_his_1 (by decide) ?_
  refine z_iconst (v := (nI 1)) E dX6_his_2 (by decide) ?_
  refine z_se E (rS E hX (c_X6_isWithin g n (nI 0) (nI 1)) mw_X6_isWithin ms_X6_isWithin ml_X6_80 dX6_his_3 (Nat.le_of_ble_eq_true rfl) ⟨(Nat.le_of_ble_eq_true rfl), (Nat.le_of_ble_eq_true rfl)⟩ rfl rfl (Nat.le_of_ble_eq_true rfl)) ?_
  refine z_ifB_ne E dX6_his_6 11 (by decide) (fun c1 => ?_) (fun c1 => ?_)
  · obtain ⟨n2, -, hn2, rfl⟩ := wi_nI (by decide) (by decide) c1
    refine z_aload_n E dX6_his_11 0 rfl rfl ?_
    refine gt_X6_29 (v := .ref p) E dX6_his_12 0 rfl rfl ?_
    refine gt_X6_133 (v := .int (nI (P.1 0))) E dX6_his_15 11 rfl rfl ?_
    refine z_istore_n (lv' := [(0, .ref x), (1, .int (nI n2)), (2, .int (nI (P.1 0)))]) E dX6_his_18 2 rfl (by decide) rfl ?_
    refine z_aload_n E dX6_his_19 0 rfl rfl ?_
    refine gt_X6_29 (v := .ref p) E dX6_his_20 0 rfl rfl ?_
    refine gt_X6_136 (v := .int (cm (P.1 1))) E dX6_his_23 11 rfl rfl ?_
    refine z_istore_n (lv' := [(0, .ref x), (1, .int (nI n2)), (2, .int (nI (P.1 0))), (3, .int (cm (P.1 1)))]) E dX6_his_26 3 rfl (by decide) rfl ?_
    refine z_iconst (v := (nI 0)) E dX6_his_27 (by decide) ?_
    refine z_istore (lv' := [(0, .ref x), (1, .int (nI n2)), (2, .int (nI (P.1 0))), (3, .int (cm (P.1 1))), (4, .int (nI 0))]) E dX6_his_28 (by decide) rfl ?_
    refine z_iconst (v := (nI 0)) E dX6_his_30 (by decide) ?_
    refine z_istore (lv' := [(0, .ref x), (1, .int (nI n2)), (2, .int (nI (P.1 0))), (3, .int (cm (P.1 1))), (4, .int (nI 0)), (5, .int (nI 0))]) E dX6_his_31 (by decide) rfl ?_
    refine l_his g x y W rd dr pa ch im a h T p q P vo hv V t n2 hT hP hW X E hX (fun i z b m hs => ?_) (W.1 8 + 1) 0 (P.1 0) (P.1 1) 0 (by omega) rfl (by omega)
    have hl := hsS_lt hT hP hW (W.1 8) (Nat.le_refl _)
    rw [← hs] at hl
    dsimp only at hl
    have hw8 := hW.1
    refine z_iload_n E dX6_his_98 1 rfl rfl ?_
    refine z_iconst (v := (nI 1)) E dX6_his_99 (by decide) ?_
    refine z_icmpN_ne E dX6_his_100 106 (by decide) (by omega) (by decide) (fun c2 => ?_) (fun c2 => ?_)
    · refine z_aload_n E dX6_his_106 0 rfl rfl ?_
      refine gt_X6_43 (v := .ref vo) E dX6_his_107 0 rfl rfl ?_
      refine z_aload_n E dX6_his_110 0 rfl rfl ?_
      refine gt_X6_19 (v := .ref a) E dX6_his_111 0 rfl rfl ?_
      refine z_aload_n E dX6_his_114 0 rfl rfl ?_
      refine gt_X6_29 (v := .ref p) E dX6_his_115 0 rfl rfl ?_
      refine z_fqv (ws := wTV g x y rd a dr p pa vo ch im W ++ (wTown g a h T ++ (wPres g p q P ++ (wVoice g vo hv t V)))) (cs := [wTV g x y rd a dr p pa vo ch im W, wTown g a h T, wPres g p q P, wVoice g vo hv t V]) (ds := [wVoice g vo hv t V, wTown g a h T, wPres g p q P]) (rs := [wTV g x y rd a dr p pa vo ch im W]) E [3, 1, 1] rfl rfl (rV E hX (c_X5_look g vo hv V t a h T p q P hV hT.1 hT.wf (by omega) hT.2.2.2.2.2.2.2.1 hP.2.2.2.2.2.2) mw_X5_look ml_X6_176 dX6_his_118 (Nat.le_of_ble_eq_true rfl) ⟨(Nat.le_of_ble_eq_true rfl), (Nat.le_of_ble_eq_true rfl)⟩ rfl rfl (Nat.le_of_ble_eq_true rfl) 0 rfl rfl) (fun w2 hw => ?_)
      obtain ⟨V1, rfl, hk⟩ := hw
      refine ⟨[wVoice g vo hv a V1, wTown g a h T, wPres g p q P], [wTV g x y rd a dr p pa vo ch im W, wTown g a h T, wPres g p q P, wVoice g vo hv a V1], wTV g x y rd a dr p pa vo ch im W ++ (wTown g a h T ++ (wPres g p q P ++ (wVoice g vo hv a V1))), rfl, rfl, rfl, rfl, ?_⟩
      refine z_aload_n E dX6_his_121 0 rfl rfl ?_
      refine gt_X6_43 (v := .ref vo) E dX6_his_122 0 rfl rfl ?_
      refine z_iload_n E dX6_his_125 2 rfl rfl ?_
      refine z_iload_n E dX6_his_126 3 rfl rfl ?_
      refine z_fro (ws := wTV g x y rd a dr p pa vo ch im W ++ (wTown g a h T ++ (wPres g p q P ++ (wVoice g vo hv a V1)))) (cs := [wTV g x y rd a dr p pa vo ch im W, wTown g a h T, wPres g p q P, wVoice g vo hv a V1]) (ds := [wVoice g vo hv a V1, wTown g a h T]) (rs := [wTV g x y rd a dr p pa vo ch im W, wPres g p q P]) E [3, 1] rfl rfl (rV E hX (c_X5_minutesFrom g vo hv V1 a h T z b hk.1.1 hT.1 hR hk.1.2.1 (fun r => Nat.le_trans (hk.1.2.2.2 r) (by decide)) (by omega) (by omega) (by omega)) mw_X5_minutesFrom ml_X6_202 dX6_his_127 (Nat.le_of_ble_eq_true rfl) ⟨(Nat.le_of_ble_eq_true rfl), (Nat.le_of_ble_eq_true rfl)⟩ rfl rfl (Nat.le_of_ble_eq_true rfl) 0 rfl rfl) ?_
      have hmf := lk_mf hT hk b z
      have hm2 := mfE_lt T (V1.2 2) (V1.1 1) (V1.2 3) b z
      refine z_istore (lv' := [(0, .ref x), (1, .int (nI n2)), (2, .int (nI z)), (3, .int (cm b)), (4, .int (nI m)), (5, .int (nI i)), (6, .int (cm (mfE T ((V1.2 2)) ((V1.1 1)) ((V1.2 3)) b z)))]) E dX6_his_130 (by decide) rfl ?_
      refine z_iload E dX6_his_132 6 rfl ?_
      refine z_bipush (v := (-9)) E dX6_his_134 (by decide) ?_
      refine z_icmpC_ne E dX6_his_136 144 (by decide) (mfE_lt _ _ _ _ _ _) (fun c3 => ?_) (fun c3 => ?_)
      · refine z_lve (lv' := [(0, .ref x), (1, .int (nI n2)), (2, .int (nI z)), (3, .int (cm b)), (4, .int (nI m)), (5, .int (nI i)), (6, .int (nI ((mfE T ((V1.2 2)) ((V1.1 1)) ((V1.2 3)) b z) - 1)))]) (by rw [cm_pos c3]) ?_
        refine z_iload E dX6_his_144 4 rfl ?_
        refine z_iload E dX6_his_146 6 rfl ?_
        refine z_iaddN E dX6_his_148 ?_
        refine z_iret E Er dX6_his_149 ?_
        exact ⟨_, rfl, _, _, by rw [hisV, if_pos c1, if_neg (fun q => c2 ((nI_injI (by omega) (by decide)).mp q)), ← hs]; dsimp only; rw [if_neg (hmf ▸ c3), hmf], rfl, hk.1, Or.inl rfl⟩
      · refine z_bipush (v := (-9)) E dX6_his_139 (by decide) ?_
        refine z_goto E dX6_his_141 149 (by decide) ?_
        refine z_iret E Er dX6_his_149 ?_
        exact ⟨_, rfl, _, _, by rw [hisV, if_pos c1, if_neg (fun q => c2 ((nI_injI (by omega) (by decide)).mp q)), ← hs]; dsimp only; rw [if_pos (hmf ▸ c3)], rfl, hk.1, Or.inl rfl⟩
    · refine z_iload E dX6_his_103 5 rfl ?_
      refine z_iret E Er dX6_his_105 ?_
      exact ⟨_, rfl, _, _, by rw [hisV, if_pos c1, if_pos (by rw [c2]), ← hs], rfl, hV, Or.inr rfl⟩
  · refine z_iconst (v := (-1)) E dX6_his_9 (by decide) ?_
    refine z_iret E Er dX6_his_10 ?_
    exact ⟨_, rfl, _, _, by rw [hisV, if_neg (show ¬ wi n (nI 0) (nI 1) = true by rw [c1]; decide)], rfl, hV, Or.inr rfl⟩

noncomputable def wcF (T P : NS) (j v : Nat) : Nat → Nat
  | 0 => 0
  | i + 1 => if mfV T (va_up (cT T P) i (cT T P i + j)) (opn T P) 0 (T.1 2) = v + 1 then wcF T P j v i ||| 1 <<< i else wcF T P j v i
theorem wcF_s (T P : NS) (j v i : Nat) : wcF T P j v (i + 1) = if mfV T (va_up (cT T P) i (cT T P i + j)) (opn T P) 0 (T.1 2) = v + 1 then wcF T P j v i ||| 1 <<< i else wcF T P j v i := rfl
noncomputable def wcV (T P : NS) (j v : Int32) : Int32 := if (wi j (nI 0) (nI 60) && wi v (nI 0) (nI 999)) = true then nI (wcF T P j.toNatClampNeg v.toNatClampNeg (T.1 1)) else -1
theorem up_1 {T P : NS} (hT : tdI T) (i j : Nat) : ∀ r, r < T.1 1 → 1 ≤ va_up (cT T P) i (cT T P i + j) r := fun r hr => by
  have h := cT_1 P hT r hr
  unfold va_up
  split
  · rename_i e; rw [e] at h; omega
  · exact h

set_option maxHeartbeats 4000000 in
set_option maxRecDepth 100000 in
theorem l_which (g : GC) (x : Nat) (y : Nat → Nat) (W : NS) (rd : Nat) (dr : Nat) (pa : Nat) (ch : Nat) (im : Nat → Nat) (a : Nat) (h : Nat → Nat) (T : NS) (p : Nat) (q : Nat → Nat) (P : NS) (vo : Nat) (hv : Nat → Nat) (V : NS) (j2 : Nat) (v2 : Nat) (hT : tdI T) (hP : pnI T P) (hj2 : j2 ≤ 60) (hv2 : v2 ≤ 999) (X : XC) (E : Ob g X cX6_which 5 RX6) (hX : X.2.2.1 = zR 7 0 0) (K : ∀ (z : Nat) (V3 : NS), (z = wcF T P j2 v2 (T.1 1)) → (vI V3) → Z g X 5 0 0 (wTV g x y rd a dr p pa vo ch im W ++ (wTown g a h T ++ (wPres g p q P ++ (wVoice g vo hv a V3)))) [(0, .ref x), (1, .int (nI j2)), (2, .int (nI v2)), (3, .int (nI z))] [] 89) : ∀ (n : Nat) (i : Nat) (z : Nat) (V3 : NS), (i ≤ T.1 1) → (z = wcF T P j2 v2 i) → (vI V3 ∧ V3.1 1 = opn T P ∧ ∀ r, r < T.1 1 → V3.2 2 r = cT T P r) → (T.1 1 < i + n) → Z g X 5 0 0 (wTV g x y rd a dr p pa vo ch im W ++ (wTown g a h T ++ (wPres g p q P ++ (wVoice g vo hv a V3)))) [(0, .ref x), (1, .int (nI j2)), (2, .int (nI v2)), (3, .int (nI z)), (4, .int (nI i))] [] 43 := by
  intro n
  induction n with
  | zero =>
    intro i z V3 hi hz hv3 hf
    have hR := hT.2.2.1
    have hs4 := hP.s4 hT
    have hb := hT.2.1.2
    have hp0 := hP.2.1
    have hp1 := hP.2.2.1
    have h4 := hT.2.2.2.2.2.1
    have hg2 := hT.2.2.2.1
    exfalso; omega
  | succ n ih =>
    intro i z V3 hi hz hv3 hf
    have hR := hT.2.2.1
    have hs4 := hP.s4 hT
    have hb := hT.2.1.2
    have hp0 := hP.2.1
    have hp1 := hP.2.2.1
    have h4 := hT.2.2.2.2.2.1
    have hg2 := hT.2.2.2.1
    refine z_iload E dX6_which_43 4 rfl ?_
    refine z_aload_n E dX6_which_45 0 rfl rfl ?_
    refine gt_X6_19 (v := .ref a) E dX6_which_46 0 rfl rfl ?_
    refine gt_X6_205 (v := .int (nI (T.1 1))) E dX6_which_49 6 rfl rfl ?_
    refine z_icmpN_ge E dX6_which_52 89 (by decide) (by omega) (hT.1.1 _) (fun c1 => ?_) (fun c1 => ?_)
    · refine z_lv [0, 1, 2, 3] rfl ?_; exact K z V3 (by rw [hz, show i = T.1 1 by omega]) hv3.1
    · refine z_aload_n E dX6_which_55 0 rfl rfl ?_
      refine gt_X6_43 (v := .ref vo) E dX6_which_56 0 rfl rfl ?_
      refine z_iload E dX6_which_59 4 rfl ?_
      refine z_iload_n E dX6_which_61 1 rfl rfl ?_
      refine z_aload_n E dX6_which_62 0 rfl rfl ?_
      refine gt_X6_19 (v := .ref a) E dX6_which_63 0 rfl rfl ?_
      refine gt_X6_72 (v := .int (nI (T.1 2))) E dX6_which_66 6 rfl rfl ?_
      refine z_fq (ws := wTV g x y rd a dr p pa vo ch im W ++ (wTown g a h T ++ (wPres g p q P ++ (wVoice g vo hv a V3)))) (cs := [wTV g x y rd a dr p pa vo ch im W, wTown g a h T, wPres g p q P, wVoice g vo hv a V3]) (ds := [wVoice g vo hv a V3, wTown g a h T]) (rs := [wTV g x y rd a dr p pa vo ch im W, wPres g p q P]) E [3, 1] rfl rfl (rV E hX (c_X5_minutesWithLonger g vo hv V3 a h T i j2 (T.1 2) hv3.1 hT.1 hT.wf (by omega) (by omega) (by omega) (by omega)) mw_X5_minutesWithLonger ml_X6_232 dX6_which_69 (Nat.le_of_ble_eq_true rfl) ⟨(Nat.le_of_ble_eq_true rfl), (Nat.le_of_ble_eq_true rfl)⟩ rfl rfl (Nat.le_of_ble_eq_true rfl) 0 rfl rfl) (fun r w2 hw => ?_)
      obtain ⟨V4, rfl, rfl, ⟨hv4, hv4o, hv4c, hv4F⟩⟩ := hw
      refine ⟨[wVoice g vo hv a V4, wTown g a h T], [wTV g x y rd a dr p pa vo ch im W, wTown g a h T, wPres g p q P, wVoice g vo hv a V4], wTV g x y rd a dr p pa vo ch im W ++ (wTown g a h T ++ (wPres g p q P ++ (wVoice g vo hv a V4))), rfl, rfl, rfl, rfl, ?_⟩
      have hmv : mfE T (va_up (V3.2 2) i (V3.2 2 i + j2)) (V3.1 1) (V4.2 3) 0 (T.1 2) = mfV T (va_up (cT T P) i (cT T P i + j2)) (opn T P) 0 (T.1 2) := by rw [hv3.2.1]; rw [hv3.2.1] at hv4F; exact mf_V (up_1 hT i j2) (fun r hr => by unfold va_up; split; (rw [hv3.2.2 i c1]); exact hv3.2.2 r hr) hv4F _ _
      refine z_topi (y := cm (mfV T (va_up (cT T P) i (cT T P i + j2)) (opn T P) 0 (T.1 2))) (by rw [hmv]) ?_
      have hml := mfV_le T (va_up (cT T P) i (cT T P i + j2)) (opn T P) 0 (T.1 2)
      refine z_iload_n E dX6_which_72 2 rfl rfl ?_
      refine z_icmp_ne E dX6_which_73 83 (by decide) (fun c2 => ?_) (fun c2 => ?_)
      · refine z_iincN (lv' := [(0, .ref x), (1, .int (nI j2)), (2, .int (nI v2)), (3, .int (nI z)), (4, .int (nI (i + 1)))]) E dX6_which_83 4 rfl (by decide) rfl ?_
        refine z_goto E dX6_which_86 43 (by decide) ?_
        exact ih (i + 1) z V4 (by omega) (by rw [wcF_s, if_neg (fun e => c2 ((cm_inj (y := v2 + 1) (by omega) (by omega)).mpr e)), hz]) (⟨hv4, hv4o.trans hv3.2.1, fun r hr => (hv4c r).trans (hv3.2.2 r hr)⟩) (by omega)
      · refine z_iload_n E dX6_which_76 3 rfl rfl ?_
        refine z_iconst (v := (nI 1)) E dX6_which_77 (by decide) ?_
        refine z_iload E dX6_which_78 4 rfl ?_
        refine z_ishlN E dX6_which_80 (by omega) ?_
        refine z_iorN E dX6_which_81 ?_
        refine z_istore_n (lv' := [(0, .ref x), (1, .int (nI j2)), (2, .int (nI v2)), (3, .int (nI (z ||| (1 <<< i)))), (4, .int (nI i))]) E dX6_which_82 3 rfl (by decide) rfl ?_
        refine z_iincN (lv' := [(0, .ref x), (1, .int (nI j2)), (2, .int (nI v2)), (3, .int (nI (z ||| (1 <<< i)))), (4, .int (nI (i + 1)))]) E dX6_which_83 4 rfl (by decide) rfl ?_
        refine z_goto E dX6_which_86 43 (by decide) ?_
        exact ih (i + 1) (z ||| (1 <<< i)) V4 (by omega) (by rw [wcF_s, if_pos ((cm_inj (by omega) (by omega)).mp c2), hz]) (⟨hv4, hv4o.trans hv3.2.1, fun r hr => (hv4c r).trans (hv3.2.2 r hr)⟩) (by omega)

set_option maxHeartbeats 4000000 in
set_option maxRecDepth 100000 in
theorem c_X6_which (g : GC) (x : Nat) (y : Nat → Nat) (W : NS) (rd : Nat) (dr : Nat) (pa : Nat) (ch : Nat) (im : Nat → Nat) (a : Nat) (h : Nat → Nat) (T : NS) (p : Nat) (q : Nat → Nat) (P : NS) (vo : Nat) (hv : Nat → Nat) (V : NS) (t : Nat) (j : Int32) (v : Int32) (hT : tdI T) (hP : pnI T P) (hV : vI V) : Ct g yX6_which cX6_which 5 (some .int) 7 0 0 [.ref x, .int j, .int v] (wTV g x y rd a dr p pa vo ch im W ++ (wTown g a h T ++ (wPres g p q P ++ (wVoice g vo hv t V)))) (QI (fun r_ w_ => ∃ V2 : NS, ∃ t2 : Nat, r_ = (wcV T P j v) ∧ w_ = wTV g x y rd a dr p pa vo ch im W ++ (wTown g a h T ++ (wPres g p q P ++ (wVoice g vo hv t2 V2))) ∧ (vI V2 ∧ (t2 = a ∨ t2 = t)))) := by
  refine Ct.of (by decide) (Nat.le_of_ble_eq_true rfl) ?_
  intro X E Er hX _ hnm
  have E : Ob g X cX6_which 5 RX6 := E
  have hR := hT.2.2.1
  have hs4 := hP.s4 hT
  have hb := hT.2.1.2
  have hp0 := hP.2.1
  have hp1 := hP.2.2.1
  have h4 := hT.2.2.2.2.2.1
  have hc1 := cT_1 P hT
  have hg3 := hT.2.2.2.2.1
  have hg2 := hT.2.2.2.1
  refine z_lve (lv' := [(0, .ref x), (1, .int j), (2, .int v)]) rfl ?_
  refine z_iload_n E dX6_which_0 1 rfl rfl ?_
  refine z_iconst (v := (nI 0)) E dX6_which_1 (by decide) ?_
  refine z_bipush (v := (nI 60)) E dX6_which_2 (by decide) ?_
  refine z_se E (rS E hX (c_X6_isWithin g j (nI 0) (nI 60)) mw_X6_isWithin ms_X6_isWithin ml_X6_80 dX6_which_4 (Nat.le_of_ble_eq_true rfl) ⟨(Nat.le_of_ble_eq_true rfl), (Nat.le_of_ble_eq_true rfl)⟩ rfl rfl (Nat.le_of_ble_eq_true rfl)) ?_
  refine z_ifB_eq E dX6_which_7 21 (by decide) (fun c1 => ?_) (fun c1 => ?_)
  · refine z_iconst (v := (-1)) E dX6_which_21 (by decide) ?_
    refine z_iret E Er dX6_which_22 ?_
    exact ⟨_, rfl, _, _, by rw [wcV, if_neg (show ¬ (wi j (nI 0) (nI 60) && wi v (nI 0) (nI 999)) = true by rw [c1]; simp)], rfl, hV, Or.inr rfl⟩
  · refine z_iload_n E dX6_which_10 2 rfl rfl ?_
    refine z_iconst (v := (nI 0)) E dX6_which_11 (by decide) ?_
    refine z_sipush (v := (nI 999)) E dX6_which_12 (by decide) ?_
    refine z_se E (rS E hX (c_X6_isWithin g v (nI 0) (nI 999)) mw_X6_isWithin ms_X6_isWithin ml_X6_80 dX6_which_15 (Nat.le_of_ble_eq_true rfl) ⟨(Nat.le_of_ble_eq_true rfl), (Nat.le_of_ble_eq_true rfl)⟩ rfl rfl (Nat.le_of_ble_eq_true rfl)) ?_
    refine z_ifB_ne E dX6_which_18 23 (by decide) (fun c2 => ?_) (fun c2 => ?_)
    · obtain ⟨j2, -, hj2, rfl⟩ := wi_nI (by decide) (by decide) c1
      obtain ⟨v2, -, hv2, rfl⟩ := wi_nI (by decide) (by decide) c2
      refine z_aload_n E dX6_which_23 0 rfl rfl ?_
      refine gt_X6_43 (v := .ref vo) E dX6_which_24 0 rfl rfl ?_
      refine z_aload_n E dX6_which_27 0 rfl rfl ?_
      refine gt_X6_19 (v := .ref a) E dX6_which_28 0 rfl rfl ?_
      refine z_aload_n E dX6_which_31 0 rfl rfl ?_
      refine gt_X6_29 (v := .ref p) E dX6_which_32 0 rfl rfl ?_
      refine z_fqv (ws := wTV g x y rd a dr p pa vo ch im W ++ (wTown g a h T ++ (wPres g p q P ++ (wVoice g vo hv t V)))) (cs := [wTV g x y rd a dr p pa vo ch im W, wTown g a h T, wPres g p q P, wVoice g vo hv t V]) (ds := [wVoice g vo hv t V, wTown g a h T, wPres g p q P]) (rs := [wTV g x y rd a dr p pa vo ch im W]) E [3, 1, 1] rfl rfl (rV E hX (c_X5_look g vo hv V t a h T p q P hV hT.1 hT.wf (by omega) hT.2.2.2.2.2.2.2.1 hP.2.2.2.2.2.2) mw_X5_look ml_X6_176 dX6_which_35 (Nat.le_of_ble_eq_true rfl) ⟨(Nat.le_of_ble_eq_true rfl), (Nat.le_of_ble_eq_true rfl)⟩ rfl rfl (Nat.le_of_ble_eq_true rfl) 0 rfl rfl) (fun w2 hw => ?_)
      obtain ⟨V1, rfl, hk⟩ := hw
      refine ⟨[wVoice g vo hv a V1, wTown g a h T, wPres g p q P], [wTV g x y rd a dr p pa vo ch im W, wTown g a h T, wPres g p q P, wVoice g vo hv a V1], wTV g x y rd a dr p pa vo ch im W ++ (wTown g a h T ++ (wPres g p q P ++ (wVoice g vo hv a V1))), rfl, rfl, rfl, rfl, ?_⟩
      refine z_iconst (v := (nI 0)) E dX6_which_38 (by decide) ?_
      refine z_istore_n (lv' := [(0, .ref x), (1, .int (nI j2)), (2, .int (nI v2)), (3, .int (nI 0))]) E dX6_which_39 3 rfl (by decide) rfl ?_
      refine z_iconst (v := (nI 0)) E dX6_which_40 (by decide) ?_
      refine z_istore (lv' := [(0, .ref x), (1, .int (nI j2)), (2, .int (nI v2)), (3, .int (nI 0)), (4, .int (nI 0))]) E dX6_which_41 (by decide) rfl ?_
      refine l_which g x y W rd dr pa ch im a h T p q P vo hv V1 j2 v2 hT hP hj2 hv2 X E hX (fun z V3 hz hv3 => ?_) (T.1 1 + 1) 0 0 V1 (by omega) rfl (⟨hk.1, hk.2.1, lk_V hk⟩) (by omega)
      refine z_iload_n E dX6_which_89 3 rfl rfl ?_
      refine z_iret E Er dX6_which_90 ?_
      exact ⟨_, rfl, _, _, by rw [wcV, if_pos (by rw [c1, c2]; rfl), nI_clamp (by omega), nI_clamp (by omega), hz], rfl, hv3, Or.inl rfl⟩
    · refine z_iconst (v := (-1)) E dX6_which_21 (by decide) ?_
      refine z_iret E Er dX6_which_22 ?_
      exact ⟨_, rfl, _, _, by rw [wcV, if_neg (show ¬ (wi j (nI 0) (nI 60) && wi v (nI 0) (nI 999)) = true by rw [c2]; simp)], rfl, hV, Or.inr rfl⟩
