noncomputable def wyV (T P : NS) (k : Int32) : Int32 := if -2 ≤ k then (if farV T (cT T P) (opn T P) (P.1 1) (P.1 0) = 1000000 then -9 else if k = -1 then nI (farV T (cT T P) (opn T P) (P.1 1) (P.1 0)) else if k = -2 then nI (trV T (cT T P) (opn T P) (P.1 0, P.1 1) (lenV T (cT T P) (opn T P) (P.1 0, P.1 1))) else if k.toNatClampNeg < lenV T (cT T P) (opn T P) (P.1 0, P.1 1) then nI (rdV T (cT T P) (opn T P) (P.1 0, P.1 1) k.toNatClampNeg) else -5) else -1
theorem k_nn {k : Int32} (h1 : -2 ≤ k) (h2 : ¬ k = -1) (h3 : ¬ k = -2) : ¬ k < 0 := by
  intro h
  have a := Int32.le_iff_toInt_le.mp h1
  have b := Int32.lt_iff_toInt_lt.mp h
  have e0 : (0 : Int32).toInt = 0 := by decide
  have e1 : (-1 : Int32).toInt = -1 := by decide
  have e2 : (-2 : Int32).toInt = -2 := by decide
  rw [e2] at a
  rw [e0] at b
  rcases (show k.toInt = -1 ∨ k.toInt = -2 by omega) with q | q
  · exact h2 (Int32.toInt_inj.mp (q.trans e1.symm))
  · exact h3 (Int32.toInt_inj.mp (q.trans e2.symm))
theorem lk_fol {T P V1 : NS} (hT : tdI T) (hk : lkP T P V1) {p b n t : Nat} {f : Nat → Nat} (hp : farT T (V1.2 2) (V1.1 1) (V1.2 3) b p < 1000000 → (pth T (V1.2 2) (V1.1 1) (V1.2 3) (p, b) n).1 = T.1 3 ∧ (∀ j, j < n → (pth T (V1.2 2) (V1.1 1) (V1.2 3) (p, b) j).1 ≠ T.1 3) ∧ t = trn T (V1.2 2) (V1.1 1) (V1.2 3) (p, b) n ∧ ∀ j, j < n → f j = rdT T (V1.2 2) (V1.1 1) (V1.2 3) (p, b) j) (hf : farV T (cT T P) (opn T P) b p < 1000000) : n = lenV T (cT T P) (opn T P) (p, b) ∧ t = trV T (cT T P) (opn T P) (p, b) n ∧ ∀ j, j < n → f j = rdV T (cT T P) (opn T P) (p, b) j := by
  rw [← hk.2.1] at hf ⊢
  exact fol_V (cT_1 P hT) hk.2.2.1 hk.2.2.2 hp hf

set_option maxHeartbeats 4000000 in
set_option maxRecDepth 100000 in
theorem c_X6_way (g : GC) (x : Nat) (y : Nat → Nat) (W : NS) (rd : Nat) (dr : Nat) (pa : Nat) (ch : Nat) (im : Nat → Nat) (a : Nat) (h : Nat → Nat) (T : NS) (p : Nat) (q : Nat → Nat) (P : NS) (vo : Nat) (hv : Nat → Nat) (V : NS) (t : Nat) (k : Int32) (hT : tdI T) (hP : pnI T P) (hV : vI V) : Ct g yX6_way cX6_way 3 (some .int) 7 0 0 [.ref x, .int k] (wTV g x y rd a dr p pa vo ch im W ++ (wTown g a h T ++ (wPres g p q P ++ (wVoice g vo hv t V)))) (QI (fun r_ w_ => ∃ V2 : NS, ∃ t2 : Nat, r_ = (wyV T P k) ∧ w_ = wTV g x y rd a dr p pa vo ch im W ++ (wTown g a h T ++ (wPres g p q P ++ (wVoice g vo hv t2 V2))) ∧ (vI V2 ∧ (t2 = a ∨ t2 = t)))) := by
  refine Ct.of (by decide) (Nat.le_of_ble_eq_true rfl) ?_
  intro X E Er hX _ hnm
  have E : Ob g X cX6_way 3 RX6 := E
  have hR := hT.2.2.1
  have hs4 := hP.s4 hT
  have hb := hT.2.1.2
  have hp0 := hP.2.1
  have hp1 := hP.2.2.1
  have h4 := hT.2.2.2.2.2.1
  have hc1 := cT_1 P hT
  have hg3 := hT.2.2.2.2.1
  have hg2 := hT.2.2.2.1
  refine z_lve (lv' := [(0, .ref x), (1, .int k)]) rfl ?_
  refine z_iload_n E dX6_way_0 1 rfl rfl ?_
  refine z_bipush (v := (-2)) E dX6_way_1 (by decide) ?_
  refine z_icmp_ge E dX6_way_3 8 (by decide) (fun c1 => ?_) (fun c1 => ?_)
  · refine z_aload_n E dX6_way_8 0 rfl rfl ?_
    refine gt_X6_43 (v := .ref vo) E dX6_way_9 0 rfl rfl ?_
    refine z_aload_n E dX6_way_12 0 rfl rfl ?_
    refine gt_X6_19 (v := .ref a) E dX6_way_13 0 rfl rfl ?_
    refine z_aload_n E dX6_way_16 0 rfl rfl ?_
    refine gt_X6_29 (v := .ref p) E dX6_way_17 0 rfl rfl ?_
    refine z_fqv (ws := wTV g x y rd a dr p pa vo ch im W ++ (wTown g a h T ++ (wPres g p q P ++ (wVoice g vo hv t V)))) (cs := [wTV g x y rd a dr p pa vo ch im W, wTown g a h T, wPres g p q P, wVoice g vo hv t V]) (ds := [wVoice g vo hv t V, wTown g a h T, wPres g p q P]) (rs := [wTV g x y rd a dr p pa vo ch im W]) E [3, 1, 1] rfl rfl (rV E hX (c_X5_look g vo hv V t a h T p q P hV hT.1 hT.wf (by omega) hT.2.2.2.2.2.2.2.1 hP.2.2.2.2.2.2) mw_X5_look ml_X6_176 dX6_way_20 (Nat.le_of_ble_eq_true rfl) ⟨(Nat.le_of_ble_eq_true rfl), (Nat.le_of_ble_eq_true rfl)⟩ rfl rfl (Nat.le_of_ble_eq_true rfl) 0 rfl rfl) (fun w2 hw => ?_)
    obtain ⟨V1, rfl, hk⟩ := hw
    refine ⟨[wVoice g vo hv a V1, wTown g a h T, wPres g p q P], [wTV g x y rd a dr p pa vo ch im W, wTown g a h T, wPres g p q P, wVoice g vo hv a V1], wTV g x y rd a dr p pa vo ch im W ++ (wTown g a h T ++ (wPres g p q P ++ (wVoice g vo hv a V1))), rfl, rfl, rfl, rfl, ?_⟩
    refine z_aload_n E dX6_way_23 0 rfl rfl ?_
    refine gt_X6_43 (v := .ref vo) E dX6_way_24 0 rfl rfl ?_
    refine z_aload_n E dX6_way_27 0 rfl rfl ?_
    refine gt_X6_29 (v := .ref p) E dX6_way_28 0 rfl rfl ?_
    refine gt_X6_133 (v := .int (nI (P.1 0))) E dX6_way_31 11 rfl rfl ?_
    refine z_aload_n E dX6_way_34 0 rfl rfl ?_
    refine gt_X6_29 (v := .ref p) E dX6_way_35 0 rfl rfl ?_
    refine gt_X6_136 (v := .int (cm (P.1 1))) E dX6_way_38 11 rfl rfl ?_
    refine z_fq (ws := wTV g x y rd a dr p pa vo ch im W ++ (wTown g a h T ++ (wPres g p q P ++ (wVoice g vo hv a V1)))) (cs := [wTV g x y rd a dr p pa vo ch im W, wTown g a h T, wPres g p q P, wVoice g vo hv a V1]) (ds := [wVoice g vo hv a V1, wTown g a h T]) (rs := [wTV g x y rd a dr p pa vo ch im W, wPres g p q P]) E [3, 1] rfl rfl (rV E hX (c_X5_follow g vo hv V1 a h T (P.1 0) (P.1 1) hk.1.1 hT.1 hR hk.1.2.1 (fun r => Nat.le_trans (hk.1.2.2.2 r) (by decide)) (by omega) (by omega) (by omega) hk.2.2.2 (fun r hr => by rw [lk_V hk r hr]; exact hc1 r hr)) mw_X5_follow ml_X6_180 dX6_way_41 (Nat.le_of_ble_eq_true rfl) ⟨(Nat.le_of_ble_eq_true rfl), (Nat.le_of_ble_eq_true rfl)⟩ rfl rfl (Nat.le_of_ble_eq_true rfl) 0 rfl rfl) (fun r w2 hw => ?_)
    obtain ⟨V3, rfl, rfl, ⟨n, t3, f, rfl, hn24, ht24, hff, hpa⟩⟩ := hw
    refine ⟨[wVoice g vo hv a (sA (sF (sF V1 7 n) 8 t3) 6 f), wTown g a h T], [wTV g x y rd a dr p pa vo ch im W, wTown g a h T, wPres g p q P, wVoice g vo hv a (sA (sF (sF V1 7 n) 8 t3) 6 f)], wTV g x y rd a dr p pa vo ch im W ++ (wTown g a h T ++ (wPres g p q P ++ (wVoice g vo hv a (sA (sF (sF V1 7 n) 8 t3) 6 f)))), rfl, rfl, rfl, rfl, ?_⟩
    have hmf := lk_mf hT hk (P.1 1) (P.1 0)
    have hm2 := mfE_lt T (V1.2 2) (V1.1 1) (V1.2 3) (P.1 1) (P.1 0)
    refine z_istore_n (lv' := [(0, .ref x), (1, .int k), (2, .int (cm (mfE T ((V1.2 2)) ((V1.1 1)) ((V1.2 3)) (P.1 1) (P.1 0))))]) E dX6_way_44 2 rfl (by decide) rfl ?_
    refine z_iload_n E dX6_way_45 2 rfl rfl ?_
    refine z_bipush (v := (-9)) E dX6_way_46 (by decide) ?_
    refine z_icmpC_eq E dX6_way_48 56 (by decide) (hm2) (fun c2 => ?_) (fun c2 => ?_)
    · refine z_iload_n E dX6_way_56 2 rfl rfl ?_
      refine z_iret E Er dX6_way_57 ?_
      exact ⟨_, rfl, _, _, by rw [wyV, if_pos c1, if_pos (mfV_0.mp (hmf ▸ c2)), c2]; rfl, rfl, ⟨((hk.1.1.F (by omega)).F (by omega)).A hff, hk.1.2.1, hk.1.2.2.1, hk.1.2.2.2⟩, Or.inl rfl⟩
    · refine z_iload_n E dX6_way_51 1 rfl rfl ?_
      refine z_iconst (v := (-1)) E dX6_way_52 (by decide) ?_
      refine z_icmp_ne E dX6_way_53 58 (by decide) (fun c3 => ?_) (fun c3 => ?_)
      · obtain ⟨en, et, ef⟩ := lk_fol hT hk hpa (mfV_n (hmf ▸ c2)).2
        refine z_iload_n E dX6_way_58 1 rfl rfl ?_
        refine z_bipush (v := (-2)) E dX6_way_59 (by decide) ?_
        refine z_icmp_ne E dX6_way_61 72 (by decide) (fun c4 => ?_) (fun c4 => ?_)
        · obtain ⟨k2, hk2, rfl⟩ := nI_of (k_nn c1 c3 c4)
          refine z_iload_n E dX6_way_72 1 rfl rfl ?_
          refine z_aload_n E dX6_way_73 0 rfl rfl ?_
          refine gt_X6_43 (v := .ref vo) E dX6_way_74 0 rfl rfl ?_
          refine gt_X6_186 (v := .int (nI n)) E dX6_way_77 13 rfl rfl ?_
          refine z_icmpN_ge E dX6_way_80 95 (by decide) (by omega) (by omega) (fun c5 => ?_) (fun c5 => ?_)
          · refine z_bipush (v := (-5)) E dX6_way_95 (by decide) ?_
            refine z_iret E Er dX6_way_97 ?_
            exact ⟨_, rfl, _, _, by rw [wyV, if_pos c1, if_neg (fun e => c2 (hmf.trans (mfV_0.mpr e))), if_neg c3, if_neg c4, if_neg (by rw [nI_clamp hk2, ← en]; omega)], rfl, ⟨((hk.1.1.F (by omega)).F (by omega)).A hff, hk.1.2.1, hk.1.2.2.1, hk.1.2.2.2⟩, Or.inl rfl⟩
          · refine z_aload_n E dX6_way_83 0 rfl rfl ?_
            refine gt_X6_43 (v := .ref vo) E dX6_way_84 0 rfl rfl ?_
            refine gt_X6_189 (v := .ref (hv 6)) E dX6_way_87 13 rfl rfl ?_
            refine z_iload_n E dX6_way_90 1 rfl rfl ?_
            refine z_ialdN (f := f) E dX6_way_91 18 rfl (by omega) (by decide) ?_
            refine z_goto E dX6_way_92 97 (by decide) ?_
            refine z_iret E Er dX6_way_97 ?_
            exact ⟨_, rfl, _, _, by rw [wyV, if_pos c1, if_neg (fun e => c2 (hmf.trans (mfV_0.mpr e))), if_neg c3, if_neg c4, nI_clamp hk2, if_pos (by rw [← en]; exact c5), ef k2 c5], rfl, ⟨((hk.1.1.F (by omega)).F (by omega)).A hff, hk.1.2.1, hk.1.2.2.1, hk.1.2.2.2⟩, Or.inl rfl⟩
        · refine z_aload_n E dX6_way_64 0 rfl rfl ?_
          refine gt_X6_43 (v := .ref vo) E dX6_way_65 0 rfl rfl ?_
          refine gt_X6_183 (v := .int (nI t3)) E dX6_way_68 13 rfl rfl ?_
          refine z_iret E Er dX6_way_71 ?_
          exact ⟨_, rfl, _, _, by rw [wyV, if_pos c1, if_neg (fun e => c2 (hmf.trans (mfV_0.mpr e))), if_neg c3, if_pos c4, et, en], rfl, ⟨((hk.1.1.F (by omega)).F (by omega)).A hff, hk.1.2.1, hk.1.2.2.1, hk.1.2.2.2⟩, Or.inl rfl⟩
      · refine z_iload_n E dX6_way_56 2 rfl rfl ?_
        refine z_iret E Er dX6_way_57 ?_
        exact ⟨_, rfl, _, _, by rw [wyV, if_pos c1, if_neg (fun e => c2 (hmf.trans (mfV_0.mpr e))), if_pos c3, hmf, (mfV_n (hmf ▸ c2)).1]; rfl, rfl, ⟨((hk.1.1.F (by omega)).F (by omega)).A hff, hk.1.2.1, hk.1.2.2.1, hk.1.2.2.2⟩, Or.inl rfl⟩
  · refine z_iconst (v := (-1)) E dX6_way_6 (by decide) ?_
    refine z_iret E Er dX6_way_7 ?_
    exact ⟨_, rfl, _, _, by rw [wyV, if_neg c1], rfl, hV, Or.inr rfl⟩

def offR (o r : Nat) : Nat := o &&& (1 <<< r ^^^ 4294967295)
theorem offR_le (o r : Nat) : offR o r ≤ o := Nat.and_le_left
noncomputable def wsF (T P : NS) : Nat → Nat × Nat
  | 0 => (0, 1)
  | i + 1 => if (wsF T P i).2 = 0 then wsF T P i else if (opn T P).testBit i = true then (if (wsF T P i).1 = 0 ∨ mfV T (cT T P) (offR (opn T P) i) (P.1 1) (P.1 0) = 0 ∨ (wsF T P i).2 < mfV T (cT T P) (offR (opn T P) i) (P.1 1) (P.1 0) then (i + 1, mfV T (cT T P) (offR (opn T P) i) (P.1 1) (P.1 0)) else wsF T P i) else wsF T P i
theorem wsF_s (T P : NS) (i : Nat) : wsF T P (i + 1) = if (wsF T P i).2 = 0 then wsF T P i else if (opn T P).testBit i = true then (if (wsF T P i).1 = 0 ∨ mfV T (cT T P) (offR (opn T P) i) (P.1 1) (P.1 0) = 0 ∨ (wsF T P i).2 < mfV T (cT T P) (offR (opn T P) i) (P.1 1) (P.1 0) then (i + 1, mfV T (cT T P) (offR (opn T P) i) (P.1 1) (P.1 0)) else wsF T P i) else wsF T P i := rfl
theorem wsF_le (T P : NS) : ∀ i, (wsF T P i).1 ≤ i ∧ (wsF T P i).2 ≤ 1000000
  | 0 => ⟨Nat.le_refl _, by show (1 : Nat) ≤ 1000000; decide⟩
  | i + 1 => by
    have h := wsF_le T P i
    have hm := mfV_le T (cT T P) (offR (opn T P) i) (P.1 1) (P.1 0)
    rw [wsF_s]
    split
    · exact ⟨by omega, h.2⟩
    · split
      · split
        · exact ⟨Nat.le_refl _, hm⟩
        · exact ⟨by omega, h.2⟩
      · exact ⟨by omega, h.2⟩
theorem wsF_stop {T P : NS} {i : Nat} (h : (wsF T P i).2 = 0) : ∀ j, i ≤ j → wsF T P j = wsF T P i
  | 0, hj => by rw [show i = 0 by omega]
  | j + 1, hj => by
    rcases Nat.lt_or_ge j i with q | q
    · rw [show i = j + 1 by omega]
    · rw [wsF_s, wsF_stop h j q, if_pos h]
noncomputable def wstV (T P : NS) (n : Int32) : Int32 := if wi n (nI 0) (nI 1) = true then (if farV T (cT T P) (opn T P) (P.1 1) (P.1 0) = 1000000 then -9 else if (wsF T P (T.1 1)).1 = 0 ∨ n = nI 0 then cm (wsF T P (T.1 1)).1 else if (wsF T P (T.1 1)).2 = 0 then -5 else cm (wsF T P (T.1 1)).2) else -1

set_option maxHeartbeats 4000000 in
set_option maxRecDepth 100000 in
theorem l_worst (g : GC) (x : Nat) (y : Nat → Nat) (W : NS) (rd : Nat) (dr : Nat) (pa : Nat) (ch : Nat) (im : Nat → Nat) (a : Nat) (h : Nat → Nat) (T : NS) (p : Nat) (q : Nat → Nat) (P : NS) (vo : Nat) (hv : Nat → Nat) (V : NS) (n2 : Nat) (hT : tdI T) (hP : pnI T P) (X : XC) (E : Ob g X cX6_worst 7 RX6) (hX : X.2.2.1 = zR 6 0 0) (K : ∀ (wr : Nat) (wm : Nat) (V3 : NS), ((wr, wm) = wsF T P (T.1 1)) → (vI V3) → Z g X 7 0 0 (wTV g x y rd a dr p pa vo ch im W ++ (wTown g a h T ++ (wPres g p q P ++ (wVoice g vo hv a V3)))) [(0, .ref x), (1, .int (nI n2)), (2, .int (nI (opn T P))), (3, .int (cm wr)), (4, .int (cm wm))] [] 168) : ∀ (n : Nat) (i : Nat) (wr : Nat) (wm : Nat) (V3 : NS), (i ≤ T.1 1) → ((wr, wm) = wsF T P i) → (vI V3 ∧ ∀ r, r < T.1 1 → V3.2 2 r = cT T P r) → (T.1 1 < i + n) → Z g X 7 0 0 (wTV g x y rd a dr p pa vo ch im W ++ (wTown g a h T ++ (wPres g p q P ++ (wVoice g vo hv a V3)))) [(0, .ref x), (1, .int (nI n2)), (2, .int (nI (opn T P))), (3, .int (cm wr)), (4, .int (cm wm)), (5, .int (nI i))] [] 69 := by
  intro n
  induction n with
  | zero =>
    intro i wr wm V3 hi hw hv3 hf
    have hwl := wsF_le T P i
    rw [← hw] at hwl
    dsimp only at hwl
    have hR := hT.2.2.1
    have hop := opn_lt P hR
    have hs4 := hP.s4 hT
    have hb := hT.2.1.2
    have hp0 := hP.2.1
    have hp1 := hP.2.2.1
    have h4 := hT.2.2.2.2.2.1
    exfalso; omega
  | succ n ih =>
    intro i wr wm V3 hi hw hv3 hf
    have hwl := wsF_le T P i
    rw [← hw] at hwl
    dsimp only at hwl
    have hR := hT.2.2.1
    have hop := opn_lt P hR
    have hs4 := hP.s4 hT
    have hb := hT.2.1.2
    have hp0 := hP.2.1
    have hp1 := hP.2.2.1
    have h4 := hT.2.2.2.2.2.1
    refine z_iload E dX6_worst_69 5 rfl ?_
    refine z_aload_n E dX6_worst_71 0 rfl rfl ?_
    refine gt_X6_19 (v := .ref a) E dX6_worst_72 0 rfl rfl ?_
    refine gt_X6_205 (v := .int (nI (T.1 1))) E dX6_worst_75 6 rfl rfl ?_
    refine z_icmpN_ge E dX6_worst_78 168 (by decide) (by omega) (hT.1.1 _) (fun c1 => ?_) (fun c1 => ?_)
    · refine z_lv [0, 1, 2, 3, 4] rfl ?_; exact K wr wm V3 (by rw [hw, show i = T.1 1 by omega]) hv3.1
    · refine z_iload E dX6_worst_81 4 rfl ?_
      refine z_bipush (v := (-9)) E dX6_worst_83 (by decide) ?_
      refine z_icmpC_eq E dX6_worst_85 168 (by decide) (by omega) (fun c2 => ?_) (fun c2 => ?_)
      · refine z_lv [0, 1, 2, 3, 4] rfl ?_; exact K wr wm V3 (by rw [hw]; exact (wsF_stop (by rw [← hw]; exact c2) _ (by omega)).symm) hv3.1
      · refine z_iload_n E dX6_worst_88 2 rfl rfl ?_
        refine z_iload E dX6_worst_89 5 rfl ?_
        refine z_se E (rS E hX (c_X6_has g (opn T P) i (by omega) (by omega)) mw_X6_has ms_X6_has ml_X6_208 dX6_worst_91 (Nat.le_of_ble_eq_true rfl) ⟨(Nat.le_of_ble_eq_true rfl), (Nat.le_of_ble_eq_true rfl)⟩ rfl rfl (Nat.le_of_ble_eq_true rfl)) ?_
        refine z_ifB_eq E dX6_worst_94 162 (by decide) (fun c3 => ?_) (fun c3 => ?_)
        · refine z_iincN (lv' := [(0, .ref x), (1, .int (nI n2)), (2, .int (nI (opn T P))), (3, .int (cm wr)), (4, .int (cm wm)), (5, .int (nI (i + 1)))]) E dX6_worst_162 5 rfl (by decide) rfl ?_
          refine z_goto E dX6_worst_165 69 (by decide) ?_
          exact ih (i + 1) wr wm V3 (by omega) (by rw [wsF_s, ← hw]; dsimp only; rw [if_neg c2, if_neg (by rw [c3]; decide)]) hv3 (by omega)
        · have hox : (opn T P) &&& ((1 <<< i) ^^^ 4294967295) < 2 ^ 31 := Nat.lt_of_le_of_lt (offR_le (opn T P) i) (by omega)
          refine z_aload_n E dX6_worst_97 0 rfl rfl ?_
          refine gt_X6_43 (v := .ref vo) E dX6_worst_98 0 rfl rfl ?_
          refine z_iload_n E dX6_worst_101 2 rfl rfl ?_
          refine z_iconst (v := (nI 1)) E dX6_worst_102 (by decide) ?_
          refine z_iload E dX6_worst_103 5 rfl ?_
          refine z_ishlN E dX6_worst_105 (by omega) ?_
          refine z_iconst (v := (-1)) E dX6_worst_106 (by decide) ?_
          refine z_topi (y := nI 4294967295) rfl ?_
          refine z_ixorN E dX6_worst_107 ?_
          refine z_iandN E dX6_worst_108 ?_
          refine z_fqv (ws := wTV g x y rd a dr p pa vo ch im W ++ (wTown g a h T ++ (wPres g p q P ++ (wVoice g vo hv a V3)))) (cs := [wTV g x y rd a dr p pa vo ch im W, wTown g a h T, wPres g p q P, wVoice g vo hv a V3]) (ds := [wVoice g vo hv a V3, wTown g a h T]) (rs := [wTV g x y rd a dr p pa vo ch im W, wPres g p q P]) E [3, 1] rfl rfl (rV E hX (c_X5_lookAtOpen g vo hv V3 a h T ((opn T P) &&& ((1 <<< i) ^^^ 4294967295)) hv3.1 hT.1 hT.wf (by omega) hox) mw_X5_lookAtOpen ml_X6_211 dX6_worst_109 (Nat.le_of_ble_eq_true rfl) ⟨(Nat.le_of_ble_eq_true rfl), (Nat.le_of_ble_eq_true rfl)⟩ rfl rfl (Nat.le_of_ble_eq_true rfl) 0 rfl rfl) (fun w2 hw => ?_)
          obtain ⟨V4, rfl, ⟨hv4, hv4o, hv4c, hv4F⟩⟩ := hw
          refine ⟨[wVoice g vo hv a V4, wTown g a h T], [wTV g x y rd a dr p pa vo ch im W, wTown g a h T, wPres g p q P, wVoice g vo hv a V4], wTV g x y rd a dr p pa vo ch im W ++ (wTown g a h T ++ (wPres g p q P ++ (wVoice g vo hv a V4))), rfl, rfl, rfl, rfl, ?_⟩
          have hmv : mfE T (V4.2 2) (V4.1 1) (V4.2 3) (P.1 1) (P.1 0) = mfV T (cT T P) (offR (opn T P) i) (P.1 1) (P.1 0) := by rw [hv4o]; rw [hv4o] at hv4F; exact mf_V (cT_1 P hT) (fun r hr => (hv4c r).trans (hv3.2 r hr)) hv4F _ _
          have hml := mfV_le T (cT T P) (offR (opn T P) i) (P.1 1) (P.1 0)
          refine z_aload_n E dX6_worst_112 0 rfl rfl ?_
          refine gt_X6_43 (v := .ref vo) E dX6_worst_113 0 rfl rfl ?_
          refine z_aload_n E dX6_worst_116 0 rfl rfl ?_
          refine gt_X6_29 (v := .ref p) E dX6_worst_117 0 rfl rfl ?_
          refine gt_X6_133 (v := .int (nI (P.1 0))) E dX6_worst_120 11 rfl rfl ?_
          refine z_aload_n E dX6_worst_123 0 rfl rfl ?_
          refine gt_X6_29 (v := .ref p) E dX6_worst_124 0 rfl rfl ?_
          refine gt_X6_136 (v := .int (cm (P.1 1))) E dX6_worst_127 11 rfl rfl ?_
          refine z_fro (ws := wTV g x y rd a dr p pa vo ch im W ++ (wTown g a h T ++ (wPres g p q P ++ (wVoice g vo hv a V4)))) (cs := [wTV g x y rd a dr p pa vo ch im W, wTown g a h T, wPres g p q P, wVoice g vo hv a V4]) (ds := [wVoice g vo hv a V4, wTown g a h T]) (rs := [wTV g x y rd a dr p pa vo ch im W, wPres g p q P]) E [3, 1] rfl rfl (rV E hX (c_X5_minutesFrom g vo hv V4 a h T (P.1 0) (P.1 1) hv4.1 hT.1 hR hv4.2.1 (fun r => Nat.le_trans (hv4.2.2.2 r) (by decide)) (by omega) (by omega) (by omega)) mw_X5_minutesFrom ml_X6_202 dX6_worst_130 (Nat.le_of_ble_eq_true rfl) ⟨(Nat.le_of_ble_eq_true rfl), (Nat.le_of_ble_eq_true rfl)⟩ rfl rfl (Nat.le_of_ble_eq_true rfl) 0 rfl rfl) ?_
          refine z_topi (y := cm (mfV T (cT T P) (offR (opn T P) i) (P.1 1) (P.1 0))) (by rw [hmv]) ?_
          refine z_istore (lv' := [(0, .ref x), (1, .int (nI n2)), (2, .int (nI (opn T P))), (3, .int (cm wr)), (4, .int (cm wm)), (5, .int (nI i)), (6, .int (cm (mfV T (cT T P) (offR (opn T P) i) (P.1 1) (P.1 0))))]) E dX6_worst_133 (by decide) rfl ?_
          refine z_iload_n E dX6_worst_135 3 rfl rfl ?_
          refine z_bipush (v := (-9)) E dX6_worst_136 (by decide) ?_
          refine z_icmpC_eq E dX6_worst_138 155 (by decide) (by omega) (fun c4 => ?_) (fun c4 => ?_)
          · refine z_iload E dX6_worst_155 5 rfl ?_
            refine z_istore_n (lv' := [(0, .ref x), (1, .int (nI n2)), (2, .int (nI (opn T P))), (3, .int (nI i)), (4, .int (cm wm)), (5, .int (nI i)), (6, .int (cm (mfV T (cT T P) (offR (opn T P) i) (P.1 1) (P.1 0))))]) E dX6_worst_157 3 rfl (by decide) rfl ?_
            refine z_iload E dX6_worst_158 6 rfl ?_
            refine z_istore (lv' := [(0, .ref x), (1, .int (nI n2)), (2, .int (nI (opn T P))), (3, .int (nI i)), (4, .int (cm (mfV T (cT T P) (offR (opn T P) i) (P.1 1) (P.1 0)))), (5, .int (nI i)), (6, .int (cm (mfV T (cT T P) (offR (opn T P) i) (P.1 1) (P.1 0))))]) E dX6_worst_160 (by decide) rfl ?_
            refine z_iincN (lv' := [(0, .ref x), (1, .int (nI n2)), (2, .int (nI (opn T P))), (3, .int (nI i)), (4, .int (cm (mfV T (cT T P) (offR (opn T P) i) (P.1 1) (P.1 0)))), (5, .int (nI (i + 1))), (6, .int (cm (mfV T (cT T P) (offR (opn T P) i) (P.1 1) (P.1 0))))]) E dX6_worst_162 5 rfl (by decide) rfl ?_
            refine z_goto E dX6_worst_165 69 (by decide) ?_
            refine z_lv [0, 1, 2, 3, 4, 5] rfl ?_; exact ih (i + 1) (i + 1) (mfV T (cT T P) (offR (opn T P) i) (P.1 1) (P.1 0)) V4 (by omega) (by rw [wsF_s, ← hw]; dsimp only; rw [if_neg c2, if_pos c3, if_pos (Or.inl c4)]) (⟨hv4, fun r hr => (hv4c r).trans (hv3.2 r hr)⟩) (by omega)
          · refine z_iload E dX6_worst_141 6 rfl ?_
            refine z_bipush (v := (-9)) E dX6_worst_143 (by decide) ?_
            refine z_icmpC_eq E dX6_worst_145 155 (by decide) (mfV_lt _ _ _ _ _) (fun c5 => ?_) (fun c5 => ?_)
            · refine z_iload E dX6_worst_155 5 rfl ?_
              refine z_istore_n (lv' := [(0, .ref x), (1, .int (nI n2)), (2, .int (nI (opn T P))), (3, .int (nI i)), (4, .int (cm wm)), (5, .int (nI i)), (6, .int (cm (mfV T (cT T P) (offR (opn T P) i) (P.1 1) (P.1 0))))]) E dX6_worst_157 3 rfl (by decide) rfl ?_
              refine z_iload E dX6_worst_158 6 rfl ?_
              refine z_istore (lv' := [(0, .ref x), (1, .int (nI n2)), (2, .int (nI (opn T P))), (3, .int (nI i)), (4, .int (cm (mfV T (cT T P) (offR (opn T P) i) (P.1 1) (P.1 0)))), (5, .int (nI i)), (6, .int (cm (mfV T (cT T P) (offR (opn T P) i) (P.1 1) (P.1 0))))]) E dX6_worst_160 (by decide) rfl ?_
              refine z_iincN (lv' := [(0, .ref x), (1, .int (nI n2)), (2, .int (nI (opn T P))), (3, .int (nI i)), (4, .int (cm (mfV T (cT T P) (offR (opn T P) i) (P.1 1) (P.1 0)))), (5, .int (nI (i + 1))), (6, .int (cm (mfV T (cT T P) (offR (opn T P) i) (P.1 1) (P.1 0))))]) E dX6_worst_162 5 rfl (by decide) rfl ?_
              refine z_goto E dX6_worst_165 69 (by decide) ?_
              refine z_lv [0, 1, 2, 3, 4, 5] rfl ?_; exact ih (i + 1) (i + 1) (mfV T (cT T P) (offR (opn T P) i) (P.1 1) (P.1 0)) V4 (by omega) (by rw [wsF_s, ← hw]; dsimp only; rw [if_neg c2, if_pos c3, if_pos (Or.inr (Or.inl c5))]) (⟨hv4, fun r hr => (hv4c r).trans (hv3.2 r hr)⟩) (by omega)
            · refine z_lve (lv' := [(0, .ref x), (1, .int (nI n2)), (2, .int (nI (opn T P))), (3, .int (cm wr)), (4, .int (cm wm)), (5, .int (nI i)), (6, .int (nI ((mfV T (cT T P) (offR (opn T P) i) (P.1 1) (P.1 0)) - 1)))]) (by rw [cm_pos c5]) ?_
              refine z_lve (lv' := [(0, .ref x), (1, .int (nI n2)), (2, .int (nI (opn T P))), (3, .int (cm wr)), (4, .int (nI (wm - 1))), (5, .int (nI i)), (6, .int (nI ((mfV T (cT T P) (offR (opn T P) i) (P.1 1) (P.1 0)) - 1)))]) (by rw [cm_pos c2]) ?_
              refine z_iload E dX6_worst_148 6 rfl ?_
              refine z_iload E dX6_worst_150 4 rfl ?_
              refine z_icmpN_le E dX6_worst_152 162 (by decide) (by omega) (by omega) (fun c6 => ?_) (fun c6 => ?_)
              · refine z_iincN (lv' := [(0, .ref x), (1, .int (nI n2)), (2, .int (nI (opn T P))), (3, .int (cm wr)), (4, .int (nI (wm - 1))), (5, .int (nI (i + 1))), (6, .int (nI ((mfV T (cT T P) (offR (opn T P) i) (P.1 1) (P.1 0)) - 1)))]) E dX6_worst_162 5 rfl (by decide) rfl ?_
                refine z_goto E dX6_worst_165 69 (by decide) ?_
                refine z_lv [0, 1, 2, 3, 4, 5] rfl ?_; exact ih (i + 1) wr ((wm - 1) + 1) V4 (by omega) (by rw [wsF_s, ← hw]; dsimp only; rw [if_neg c2, if_pos c3, if_neg (by omega), show wm - 1 + 1 = wm by omega]) (⟨hv4, fun r hr => (hv4c r).trans (hv3.2 r hr)⟩) (by omega)
              · refine z_iload E dX6_worst_155 5 rfl ?_
                refine z_istore_n (lv' := [(0, .ref x), (1, .int (nI n2)), (2, .int (nI (opn T P))), (3, .int (nI i)), (4, .int (nI (wm - 1))), (5, .int (nI i)), (6, .int (nI ((mfV T (cT T P) (offR (opn T P) i) (P.1 1) (P.1 0)) - 1)))]) E dX6_worst_157 3 rfl (by decide) rfl ?_
                refine z_iload E dX6_worst_158 6 rfl ?_
                refine z_istore (lv' := [(0, .ref x), (1, .int (nI n2)), (2, .int (nI (opn T P))), (3, .int (nI i)), (4, .int (nI ((mfV T (cT T P) (offR (opn T P) i) (P.1 1) (P.1 0)) - 1))), (5, .int (nI i)), (6, .int (nI ((mfV T (cT T P) (offR (opn T P) i) (P.1 1) (P.1 0)) - 1)))]) E dX6_worst_160 (by decide) rfl ?_
                refine z_iincN (lv' := [(0, .ref x), (1, .int (nI n2)), (2, .int (nI (opn T P))), (3, .int (nI i)), (4, .int (nI ((mfV T (cT T P) (offR (opn T P) i) (P.1 1) (P.1 0)) - 1))), (5, .int (nI (i + 1))), (6, .int (nI ((mfV T (cT T P) (offR (opn T P) i) (P.1 1) (P.1 0)) - 1)))]) E dX6_worst_162 5 rfl (by decide) rfl ?_
                refine z_goto E dX6_worst_165 69 (by decide) ?_
                refine z_lv [0, 1, 2, 3, 4, 5] rfl ?_; exact ih (i + 1) (i + 1) (((mfV T (cT T P) (offR (opn T P) i) (P.1 1) (P.1 0)) - 1) + 1) V4 (by omega) (by rw [wsF_s, ← hw]; dsimp only; rw [if_neg c2, if_pos c3, if_pos (Or.inr (Or.inr (by omega))), show mfV T (cT T P) (offR (opn T P) i) (P.1 1) (P.1 0) - 1 + 1 = mfV T (cT T P) (offR (opn T P) i) (P.1 1) (P.1 0) by omega]) (⟨hv4, fun r hr => (hv4c r).trans (hv3.2 r hr)⟩) (by omega)

theorem nI_injI {x y : Nat} (hx : x < 2 ^ 31) (hy : y < 2 ^ 31) : nI x = nI y ↔ x = y := ⟨fun h => by have a := nI_toInt hx; have b := nI_toInt hy; rw [h] at a; omega, fun h => by rw [h]⟩

set_option maxHeartbeats 4000000 in
set_option maxRecDepth 100000 in
theorem c_X6_worst (g : GC) (x : Nat) (y : Nat → Nat) (W : NS) (rd : Nat) (dr : Nat) (pa : Nat) (ch : Nat) (im : Nat → Nat) (a : Nat) (h : Nat → Nat) (T : NS) (p : Nat) (q : Nat → Nat) (P : NS) (vo : Nat) (hv : Nat → Nat) (V : NS) (t : Nat) (n : Int32) (hT : tdI T) (hP : pnI T P) (hV : vI V) : Ct g yX6_worst cX6_worst 7 (some .int) 6 0 0 [.ref x, .int n] (wTV g x y rd a dr p pa vo ch im W ++ (wTown g a h T ++ (wPres g p q P ++ (wVoice g vo hv t V)))) (QI (fun r_ w_ => ∃ V2 : NS, ∃ t2 : Nat, r_ = (wstV T P n) ∧ w_ = wTV g x y rd a dr p pa vo ch im W ++ (wTown g a h T ++ (wPres g p q P ++ (wVoice g vo hv t2 V2))) ∧ (vI V2 ∧ (t2 = a ∨ t2 = t)))) := by
  refine Ct.of (by decide) (Nat.le_of_ble_eq_true rfl) ?_
  intro X E Er hX _ hnm
  have E : Ob g X cX6_worst 7 RX6 := E
  have hR := hT.2.2.1
  have hs4 := hP.s4 hT
  have hb := hT.2.1.2
  have hp0 := hP.2.1
  have hp1 := hP.2.2.1
  have h4 := hT.2.2.2.2.2.1
  have hc1 := cT_1 P hT
  have hg3 := hT.2.2.2.2.1
  have hg2 := hT.2.2.2.1
  refine z_lve (lv' := [(0, .ref x), (1, .int n)]) rfl ?_
  refine z_iload_n E dX6_worst_0 1 rfl rfl ?_
  refine z_iconst (v := (nI 0)) E dX6_worst_1 (by decide) ?_
  refine z_iconst (v := (nI 1)) E dX6_worst_2 (by decide) ?_
  refine z_se E (rS E hX (c_X6_isWithin g n (nI 0) (nI 1)) mw_X6_isWithin ms_X6_isWithin ml_X6_80 dX6_worst_3 (Nat.le_of_ble_eq_true rfl) ⟨(Nat.le_of_ble_eq_true rfl), (Nat.le_of_ble_eq_true rfl)⟩ rfl rfl (Nat.le_of_ble_eq_true rfl)) ?_
  refine z_ifB_ne E dX6_worst_6 11 (by decide) (fun c1 => ?_) (fun c1 => ?_)
  · obtain ⟨n2, -, hn2, rfl⟩ := wi_nI (by decide) (by decide) c1
    refine z_aload_n E dX6_worst_11 0 rfl rfl ?_
    refine gt_X6_43 (v := .ref vo) E dX6_worst_12 0 rfl rfl ?_
    refine z_aload_n E dX6_worst_15 0 rfl rfl ?_
    refine gt_X6_19 (v := .ref a) E dX6_worst_16 0 rfl rfl ?_
    refine z_aload_n E dX6_worst_19 0 rfl rfl ?_
    refine gt_X6_29 (v := .ref p) E dX6_worst_20 0 rfl rfl ?_
    refine z_fqv (ws := wTV g x y rd a dr p pa vo ch im W ++ (wTown g a h T ++ (wPres g p q P ++ (wVoice g vo hv t V)))) (cs := [wTV g x y rd a dr p pa vo ch im W, wTown g a h T, wPres g p q P, wVoice g vo hv t V]) (ds := [wVoice g vo hv t V, wTown g a h T, wPres g p q P]) (rs := [wTV g x y rd a dr p pa vo ch im W]) E [3, 1, 1] rfl rfl (rV E hX (c_X5_look g vo hv V t a h T p q P hV hT.1 hT.wf (by omega) hT.2.2.2.2.2.2.2.1 hP.2.2.2.2.2.2) mw_X5_look ml_X6_176 dX6_worst_23 (Nat.le_of_ble_eq_true rfl) ⟨(Nat.le_of_ble_eq_true rfl), (Nat.le_of_ble_eq_true rfl)⟩ rfl rfl (Nat.le_of_ble_eq_true rfl) 0 rfl rfl) (fun w2 hw => ?_)
    obtain ⟨V1, rfl, hk⟩ := hw
    refine ⟨[wVoice g vo hv a V1, wTown g a h T, wPres g p q P], [wTV g x y rd a dr p pa vo ch im W, wTown g a h T, wPres g p q P, wVoice g vo hv a V1], wTV g x y rd a dr p pa vo ch im W ++ (wTown g a h T ++ (wPres g p q P ++ (wVoice g vo hv a V1))), rfl, rfl, rfl, rfl, ?_⟩
    refine z_aload_n E dX6_worst_26 0 rfl rfl ?_
    refine gt_X6_43 (v := .ref vo) E dX6_worst_27 0 rfl rfl ?_
    refine z_aload_n E dX6_worst_30 0 rfl rfl ?_
    refine gt_X6_29 (v := .ref p) E dX6_worst_31 0 rfl rfl ?_
    refine gt_X6_133 (v := .int (nI (P.1 0))) E dX6_worst_34 11 rfl rfl ?_
    refine z_aload_n E dX6_worst_37 0 rfl rfl ?_
    refine gt_X6_29 (v := .ref p) E dX6_worst_38 0 rfl rfl ?_
    refine gt_X6_136 (v := .int (cm (P.1 1))) E dX6_worst_41 11 rfl rfl ?_
    refine z_fro (ws := wTV g x y rd a dr p pa vo ch im W ++ (wTown g a h T ++ (wPres g p q P ++ (wVoice g vo hv a V1)))) (cs := [wTV g x y rd a dr p pa vo ch im W, wTown g a h T, wPres g p q P, wVoice g vo hv a V1]) (ds := [wVoice g vo hv a V1, wTown g a h T]) (rs := [wTV g x y rd a dr p pa vo ch im W, wPres g p q P]) E [3, 1] rfl rfl (rV E hX (c_X5_minutesFrom g vo hv V1 a h T (P.1 0) (P.1 1) hk.1.1 hT.1 hR hk.1.2.1 (fun r => Nat.le_trans (hk.1.2.2.2 r) (by decide)) (by omega) (by omega) (by omega)) mw_X5_minutesFrom ml_X6_202 dX6_worst_44 (Nat.le_of_ble_eq_true rfl) ⟨(Nat.le_of_ble_eq_true rfl), (Nat.le_of_ble_eq_true rfl)⟩ rfl rfl (Nat.le_of_ble_eq_true rfl) 0 rfl rfl) ?_
    have hmf := lk_mf hT hk (P.1 1) (P.1 0)
    have hm2 := mfE_lt T (V1.2 2) (V1.1 1) (V1.2 3) (P.1 1) (P.1 0)
    refine z_bipush (v := (-9)) E dX6_worst_47 (by decide) ?_
    refine z_icmpC_ne E dX6_worst_49 55 (by decide) (mfE_lt _ _ _ _ _ _) (fun c2 => ?_) (fun c2 => ?_)
    · refine z_aload_n E dX6_worst_55 0 rfl rfl ?_
      refine z_fro (ws := wTV g x y rd a dr p pa vo ch im W ++ (wTown g a h T ++ (wPres g p q P ++ (wVoice g vo hv a V1)))) (cs := [wTV g x y rd a dr p pa vo ch im W, wTown g a h T, wPres g p q P, wVoice g vo hv a V1]) (ds := [wTV g x y rd a dr p pa vo ch im W, wTown g a h T, wPres g p q P]) (rs := [wVoice g vo hv a V1]) E [0, 0, 0] rfl rfl (rV E hX (c_X6_openRoads g x y W rd dr pa vo ch im a h T p q P (by assumption)) mw_X6_openRoads ml_X6_130 dX6_worst_56 (Nat.le_of_ble_eq_true rfl) ⟨(Nat.le_of_ble_eq_true rfl), (Nat.le_of_ble_eq_true rfl)⟩ rfl rfl (Nat.le_of_ble_eq_true rfl) 0 rfl rfl) ?_
      refine z_istore_n (lv' := [(0, .ref x), (1, .int (nI n2)), (2, .int (nI (opn T P)))]) E dX6_worst_59 2 rfl (by decide) rfl ?_
      refine z_bipush (v := (-9)) E dX6_worst_60 (by decide) ?_
      refine z_istore_n (lv' := [(0, .ref x), (1, .int (nI n2)), (2, .int (nI (opn T P))), (3, .int (-9))]) E dX6_worst_62 3 rfl (by decide) rfl ?_
      refine z_iconst (v := (nI 0)) E dX6_worst_63 (by decide) ?_
      refine z_istore (lv' := [(0, .ref x), (1, .int (nI n2)), (2, .int (nI (opn T P))), (3, .int (-9)), (4, .int (nI 0))]) E dX6_worst_64 (by decide) rfl ?_
      refine z_iconst (v := (nI 0)) E dX6_worst_66 (by decide) ?_
      refine z_istore (lv' := [(0, .ref x), (1, .int (nI n2)), (2, .int (nI (opn T P))), (3, .int (-9)), (4, .int (nI 0)), (5, .int (nI 0))]) E dX6_worst_67 (by decide) rfl ?_
      refine l_worst g x y W rd dr pa ch im a h T p q P vo hv V1 n2 hT hP X E hX (fun wr wm V3 hw hv3 => ?_) (T.1 1 + 1) 0 0 (0 + 1) V1 (by omega) rfl (⟨hk.1, lk_V hk⟩) (by omega)
      have hwl := wsF_le T P (T.1 1)
      rw [← hw] at hwl
      dsimp only at hwl
      refine z_iload_n E dX6_worst_168 3 rfl rfl ?_
      refine z_bipush (v := (-9)) E dX6_worst_169 (by decide) ?_
      refine z_icmpC_eq E dX6_worst_171 178 (by decide) (by omega) (fun c3 => ?_) (fun c3 => ?_)
      · refine z_iload_n E dX6_worst_178 3 rfl rfl ?_
        refine z_iret E Er dX6_worst_179 ?_
        exact ⟨_, rfl, _, _, by rw [wstV, if_pos c1, if_neg (fun e => c2 (hmf.trans (mfV_0.mpr e))), ← hw]; dsimp only; rw [if_pos (Or.inl c3)], rfl, hv3, Or.inl rfl⟩
      · refine z_iload_n E dX6_worst_174 1 rfl rfl ?_
        refine z_ifN_ne E dX6_worst_175 180 (by decide) (by omega) (fun c4 => ?_) (fun c4 => ?_)
        · refine z_iload E dX6_worst_180 4 rfl ?_
          refine z_bipush (v := (-9)) E dX6_worst_182 (by decide) ?_
          refine z_icmpC_ne E dX6_worst_184 192 (by decide) (by omega) (fun c5 => ?_) (fun c5 => ?_)
          · refine z_iload E dX6_worst_192 4 rfl ?_
            refine z_iret E Er dX6_worst_194 ?_
            exact ⟨_, rfl, _, _, by rw [wstV, if_pos c1, if_neg (fun e => c2 (hmf.trans (mfV_0.mpr e))), ← hw]; dsimp only; rw [if_neg (fun q => q.elim c3 (fun q => c4 ((nI_injI (by omega) (by decide)).mp q))), if_neg c5], rfl, hv3, Or.inl rfl⟩
          · refine z_bipush (v := (-5)) E dX6_worst_187 (by decide) ?_
            refine z_goto E dX6_worst_189 194 (by decide) ?_
            refine z_iret E Er dX6_worst_194 ?_
            exact ⟨_, rfl, _, _, by rw [wstV, if_pos c1, if_neg (fun e => c2 (hmf.trans (mfV_0.mpr e))), ← hw]; dsimp only; rw [if_neg (fun q => q.elim c3 (fun q => c4 ((nI_injI (by omega) (by decide)).mp q))), if_pos c5], rfl, hv3, Or.inl rfl⟩
        · refine z_iload_n E dX6_worst_178 3 rfl rfl ?_
          refine z_iret E Er dX6_worst_179 ?_
          exact ⟨_, rfl, _, _, by rw [wstV, if_pos c1, if_neg (fun e => c2 (hmf.trans (mfV_0.mpr e))), ← hw]; dsimp only; rw [if_pos (Or.inr (by rw [c4]))], rfl, hv3, Or.inl rfl⟩
    · refine z_bipush (v := (-9)) E dX6_worst_52 (by decide) ?_
      refine z_iret E Er dX6_worst_54 ?_
      exact ⟨_, rfl, _, _, by rw [wstV, if_pos c1, if_pos (mfV_0.mp (hmf ▸ c2))], rfl, hk.1, Or.inl rfl⟩
  · refine z_iconst (v := (-1)) E dX6_worst_9 (by decide) ?_
    refine z_iret E Er dX6_worst_10 ?_
    exact ⟨_, rfl, _, _, by rw [wstV, if_neg (show ¬ wi n (nI 0) (nI 1) = true by rw [c1]; decide)], rfl, hV, Or.inr rfl⟩
