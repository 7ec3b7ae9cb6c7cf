theorem fix_reach {T : NS} {c c' : Nat → Nat} {o : Nat} {L L' : Nat → Nat} {C : Nat} (hc : ∀ r, r < T.1 1 → 1 ≤ c r) (hc' : ∀ r, r < T.1 1 → c' r + T.1 4 ≤ C) (h : Fix T c o L) (h' : Fix T c' o L') : ∀ (m k : Nat), k < 2 * T.1 1 → L k = m → m < 1000000 → L' k ≤ C * rkT T L m := by
  intro m
  induction m using Nat.strongRecOn with
  | _ m ih =>
    intro k hk hm hlt
    have e1 := h k hk
    have e2 := h' k hk
    unfold farT at e1 e2
    by_cases hg : plT T k = T.1 3
    · rw [if_pos hg] at e2
      omega
    · rw [if_neg hg] at e1 e2
      rcases farL_att T c o L (k / 2 + 1) (plT T k) (T.1 1) with q | ⟨j, hj, hok, hon⟩
      · omega
      · have h1 := hc j hj
        have h2 := hc' j hj
        have hnv : nvT T (k / 2 + 1) j ≤ T.1 4 := nvT_le _ _ _
        unfold onT at hon
        have h3 := ih (L (arT T j (plT T k))) (by omega) _ (arT_lt hj) rfl (by omega)
        have h4 := rk_lt (T := T) (L := L) (x := m) (j := arT T j (plT T k)) (arT_lt hj) (by omega)
        have h5 : C * rkT T L (L (arT T j (plT T k))) + C ≤ C * rkT T L m := by
          rw [← Nat.mul_succ]
          exact Nat.mul_le_mul_left C h4
        have h6 := farL_on (c := c') (L := L') (b := k / 2 + 1) hj hok
        unfold onT at h6
        omega
theorem far_reach {T : NS} {c c' : Nat → Nat} {o C b p : Nat} (hR : T.1 1 ≤ 12) (hC : C * 25 < 1000000) (hc : ∀ r, r < T.1 1 → 1 ≤ c r) (hc' : ∀ r, r < T.1 1 → c' r + T.1 4 ≤ C) (h : farV T c o b p < 1000000) : farV T c' o b p < 1000000 := by
  unfold farV farT at *
  by_cases hg : p = T.1 3
  · rw [if_pos hg]; decide
  · rw [if_neg hg] at h ⊢
    rcases farL_att T c o (LF T c o) b p (T.1 1) with q | ⟨j, hj, hok, hon⟩
    · omega
    · have h1 := hc' j hj
      have hnv : nvT T b j ≤ T.1 4 := nvT_le _ _ _
      rw [hon] at h
      unfold onT at h
      have h2 := fix_reach hc hc' (LF_fix T c o) (LF_fix T c' o) _ _ (arT_lt (T := T) (p := p) hj) rfl (by omega)
      have h3 := rk_le T (LF T c o) (LF T c o (arT T j p))
      have h4 : C * rkT T (LF T c o) (LF T c o (arT T j p)) ≤ C * 24 := Nat.mul_le_mul_left C (by omega)
      have h6 := farL_on (c := c') (L := LF T c' o) (b := b) hj hok
      unfold onT at h6
      omega
theorem rd_lt {T : NS} {c : Nat → Nat} {o : Nat} {s : Nat × Nat} (hc : ∀ r, r < T.1 1 → 1 ≤ c r) (hf : farV T c o s.2 s.1 < 1000000) {j : Nat} (hj : j < lenV T c o s) : rdV T c o s j < T.1 1 := by
  have h1 := (lenV_spec hc hf).1
  have h2 := frT_le T c o (LF T c o) (pth T c o (LF T c o) s j).2 (pth T c o (LF T c o) s j).1 (T.1 1)
  unfold rdV rdT
  omega
theorem cR_cg {f f' : Nat → Nat} : ∀ {n : Nat}, (∀ j, j < n → f j = f' j) → ∀ r, cR f n r = cR f' n r
  | 0, _, _ => rfl
  | n + 1, h, r => by rw [cR_s, cR_s, cR_cg (fun j hj => h j (by omega)) r, h n (by omega)]
theorem cR_0 {f : Nat → Nat} {r : Nat} : ∀ {n : Nat}, (∀ j, j < n → f j ≠ r) → cR f n r = 0
  | 0, _ => rfl
  | n + 1, h => by rw [cR_s, cR_0 (fun j hj => h j (by omega)), if_neg (h n (by omega))]
theorem sqR_cg {f f' : Nat → Nat} {n : Nat} (h : ∀ j, j < n → f j = f' j) : ∀ i, sqR f n i = sqR f' n i
  | 0 => rfl
  | i + 1 => by unfold sqR; rw [sqR_cg h i, cR_cg h]
/-- how LONG the roads are for the car behind i others -/
noncomputable def crC (T P : NS) : Nat → Nat → Nat
  | 0 => cT T P
  | i + 1 => fun r => crC T P i r + T.1 5 * cR (rdV T (crC T P i) (opn T P) (T.1 2, 0)) (lenV T (crC T P i) (opn T P) (T.1 2, 0)) r
noncomputable def crS (T P : NS) : Nat → Nat
  | 0 => 0
  | i + 1 => crS T P i + farV T (crC T P i) (opn T P) 0 (T.1 2)
theorem crC_s (T P : NS) (i r : Nat) : crC T P (i + 1) r = crC T P i r + T.1 5 * cR (rdV T (crC T P i) (opn T P) (T.1 2, 0)) (lenV T (crC T P i) (opn T P) (T.1 2, 0)) r := rfl
theorem crS_s (T P : NS) (i : Nat) : crS T P (i + 1) = crS T P i + farV T (crC T P i) (opn T P) 0 (T.1 2) := rfl
theorem crC_ok {T P : NS} (hT : tdI T) (hP : pnI T P) (h0 : farV T (cT T P) (opn T P) 0 (T.1 2) < 1000000) : ∀ i, i ≤ 20 → (∀ r, r < T.1 1 → 1 ≤ crC T P i r) ∧ (∀ r, crC T P i r ≤ 120 + 216 * i) ∧ farV T (crC T P i) (opn T P) 0 (T.1 2) < 1000000
  | 0, _ => ⟨cT_1 P hT, fun r => by
      have e8 := hT.2.2.2.2.2.2.2.1 r
      have e5 := hP.2.2.2.2.2.2 r
      show T.2 8 r + P.2 5 r ≤ _
      omega, h0⟩
  | i + 1, hi => by
    obtain ⟨h1, h2, h3⟩ := crC_ok hT hP h0 i (by omega)
    have hl := (lenV_spec (s := (T.1 2, 0)) h1 h3).1
    have hR := hT.2.2.1
    have h5 := hT.2.2.2.2.2.2.1
    have h4 := hT.2.2.2.2.2.1
    have a1 : ∀ r, r < T.1 1 → 1 ≤ crC T P (i + 1) r := fun r hr => by
      have := h1 r hr
      rw [crC_s]; omega
    have a2 : ∀ r, crC T P (i + 1) r ≤ 120 + 216 * (i + 1) := fun r => by
      have := h2 r
      have hc := cR_le (rdV T (crC T P i) (opn T P) (T.1 2, 0)) (lenV T (crC T P i) (opn T P) (T.1 2, 0)) r
      have : T.1 5 * cR (rdV T (crC T P i) (opn T P) (T.1 2, 0)) (lenV T (crC T P i) (opn T P) (T.1 2, 0)) r ≤ 9 * 24 := Nat.mul_le_mul h5 (by omega)
      rw [crC_s]; omega
    exact ⟨a1, a2, far_reach (C := 5000) hR (by decide) h1 (fun r _ => by have := a2 r; omega) h3⟩
/-- the voice behind car i -/
def crI (T P V : NS) (i : Nat) : Prop := vI V ∧ V.1 1 = opn T P ∧ (∀ r, r < T.1 1 → V.2 2 r = crC T P i r) ∧ V.1 7 = lenV T (crC T P i) (opn T P) (T.1 2, 0) ∧ ∀ j, j < V.1 7 → V.2 6 j = rdV T (crC T P i) (opn T P) (T.1 2, 0) j
theorem cr_fol {T P V : NS} {i : Nat} (hT : tdI T) (hP : pnI T P) (h0 : farV T (cT T P) (opn T P) 0 (T.1 2) < 1000000) (hi : i ≤ 20) (hv : vI V) (ho : V.1 1 = opn T P) (hc : ∀ r, r < T.1 1 → V.2 2 r = crC T P i r) (hF : Fix T (V.2 2) (V.1 1) (V.2 3)) {n t : Nat} {f : Nat → Nat} (hn : n ≤ 24) (ht : t ≤ 24) (hf : ∀ j, f j < 2 ^ 31) (hp : farT T (V.2 2) (V.1 1) (V.2 3) 0 (T.1 2) < 1000000 → (pth T (V.2 2) (V.1 1) (V.2 3) (T.1 2, 0) n).1 = T.1 3 ∧ (∀ j, j < n → (pth T (V.2 2) (V.1 1) (V.2 3) (T.1 2, 0) j).1 ≠ T.1 3) ∧ t = trn T (V.2 2) (V.1 1) (V.2 3) (T.1 2, 0) n ∧ ∀ j, j < n → f j = rdT T (V.2 2) (V.1 1) (V.2 3) (T.1 2, 0) j) : crI T P (sA (sF (sF V 7 n) 8 t) 6 f) i ∧ mfE T (V.2 2) (V.1 1) (V.2 3) 0 (T.1 2) = farV T (crC T P i) (opn T P) 0 (T.1 2) + 1 := by
  obtain ⟨h1, h2, h3⟩ := crC_ok hT hP h0 i hi
  rw [← ho] at h3
  have hm := mf_V h1 hc hF 0 (T.1 2)
  obtain ⟨e1, e2, e3⟩ := fol_V h1 hc hF hp h3
  refine ⟨⟨⟨((hv.1.F (by omega)).F (by omega)).A hf, hv.2.1, hv.2.2.1, hv.2.2.2⟩, ho, hc, ?_, fun j hj => ?_⟩, ?_⟩
  · show n = _; rw [← ho]; exact e1
  · show f j = _; rw [← ho]; exact e3 j hj
  · rw [hm, ← ho]
    exact (mfV_n (fun e => by have := mfV_0.mp e; omega)).1
theorem cr_row {T P V : NS} {i : Nat} (hT : tdI T) (hP : pnI T P) (h0 : farV T (cT T P) (opn T P) 0 (T.1 2) < 1000000) (hi : i ≤ 20) (h : crI T P V i) : V.1 7 ≤ 24 ∧ ∀ j, j < V.1 7 → V.2 6 j < T.1 1 := by
  obtain ⟨h1, h2, h3⟩ := crC_ok hT hP h0 i hi
  have hl := (lenV_spec (s := (T.1 2, 0)) h1 h3).1
  have hR := hT.2.2.1
  obtain ⟨-, -, -, h7, h6⟩ := h
  refine ⟨by omega, fun j hj => ?_⟩
  rw [h6 j hj]
  exact rd_lt (s := (T.1 2, 0)) h1 h3 (by omega)
theorem cr_next {T P V V2 : NS} {i : Nat} (hT : tdI T) (hP : pnI T P) (h0 : farV T (cT T P) (opn T P) 0 (T.1 2) < 1000000) (hi : i + 1 ≤ 20) (h : crI T P V i) (hs : sm V2) (hL : ∀ a, V2.2 3 a ≤ 1000000) (hS : ∀ a, V2.2 4 a ≤ 1) (h1 : V2.1 1 = V.1 1) (hc : ∀ r, V2.2 2 r = V.2 2 r + T.1 5 * cR (V.2 6) (V.1 7) r) : vI V2 ∧ V2.1 1 = opn T P ∧ ∀ r, r < T.1 1 → V2.2 2 r = crC T P (i + 1) r := by
  obtain ⟨hr1, hr2⟩ := cr_row hT hP h0 (by omega) h
  obtain ⟨hv, ho, h2, h7, h6⟩ := h
  have e : ∀ r, r < T.1 1 → V2.2 2 r = crC T P (i + 1) r := fun r hr => by
    rw [hc r, crC_s, h2 r hr, cR_cg h6, h7]
  refine ⟨⟨hs, hL, hS, fun r => ?_⟩, h1.trans ho, e⟩
  rcases Nat.lt_or_ge r (T.1 1) with q | q
  · rw [e r q]
    have := (crC_ok hT hP h0 (i + 1) hi).2.1 r
    omega
  · rw [hc r, cR_0 (fun j hj => by have := hr2 j hj; omega)]
    have := hv.2.2.2 r
    omega

set_option maxHeartbeats 4000000 in
set_option maxRecDepth 100000 in
theorem l_oneby (g : GC) (x : Nat) (y : Nat → Nat) (W : NS) (rd : Nat) (dr : Nat) (pa : Nat) (ch : Nat) (im : Nat → Nat) (a : Nat) (h : Nat → Nat) (T : NS) (p : Nat) (q : Nat → Nat) (P : NS) (vo : Nat) (hv : Nat → Nat) (V : NS) (n2 : Nat) (z : Nat) (hT : tdI T) (hP : pnI T P) (h0 : farV T (cT T P) (opn T P) 0 (T.1 2) < 1000000) (hn2 : n2 ≤ 20) (hz : z = farV T (cT T P) (opn T P) 0 (T.1 2)) (hV : crI T P V 0) (X : XC) (E : Ob g X cX6_minutesOneByOne 5 RX6) (hX : X.2.2.1 = zR 7 0 0) (K : ∀ (s : Nat) (V3 : NS), (s = crS T P n2) → (vI V3) → Z g X 5 0 0 (wTV g x y rd a dr p pa vo ch im W ++ (wTown g a h T ++ (wPres g p q P ++ (wVoice g vo hv a V3)))) [(0, .ref x), (1, .int (nI n2)), (2, .int (nI z)), (3, .int (nI s))] [] 58) : ∀ (n : Nat) (i : Nat) (s : Nat) (V3 : NS), (1 ≤ i ∧ (i ≤ n2 ∨ i = 1)) → (s = crS T P (min i n2)) → (crI T P V3 (i - 1)) → (n2 + 1 < i + n) → Z g X 5 0 0 (wTV g x y rd a dr p pa vo ch im W ++ (wTown g a h T ++ (wPres g p q P ++ (wVoice g vo hv a V3)))) [(0, .ref x), (1, .int (nI n2)), (2, .int (nI z)), (3, .int (nI s)), (4, .int (nI i))] [] 13 := by
  intro n
  induction n with
  | zero =>
    intro i s V3 hi hs hv3 hf
    have hR := hT.2.2.1
    have hs4 := hP.s4 hT
    have hb := hT.2.1.2
    have hp0 := hP.2.1
    have hp1 := hP.2.2.1
    have h4 := hT.2.2.2.2.2.1
    have hg2 := hT.2.2.2.1
    have hi1 := hi.1
    exfalso; omega
  | succ n ih =>
    intro i s V3 hi hs hv3 hf
    have hR := hT.2.2.1
    have hs4 := hP.s4 hT
    have hb := hT.2.1.2
    have hp0 := hP.2.1
    have hp1 := hP.2.2.1
    have h4 := hT.2.2.2.2.2.1
    have hg2 := hT.2.2.2.1
    have hi1 := hi.1
    refine z_iload E dX6_minutesOneByOne_13 4 rfl ?_
    refine z_iload_n E dX6_minutesOneByOne_15 1 rfl rfl ?_
    refine z_icmpN_ge E dX6_minutesOneByOne_16 58 (by decide) (by omega) (by omega) (fun c1 => ?_) (fun c1 => ?_)
    · refine z_lv [0, 1, 2, 3] rfl ?_; exact K s V3 (by rw [hs, show min i n2 = n2 by omega]) hv3.1
    · have hrw := cr_row hT hP h0 (i := i - 1) (by omega) hv3
      refine z_aload_n E dX6_minutesOneByOne_19 0 rfl rfl ?_
      refine gt_X6_43 (v := .ref vo) E dX6_minutesOneByOne_20 0 rfl rfl ?_
      refine z_aload_n E dX6_minutesOneByOne_23 0 rfl rfl ?_
      refine gt_X6_19 (v := .ref a) E dX6_minutesOneByOne_24 0 rfl rfl ?_
      refine gt_X6_264 (v := .int (nI (T.1 5))) E dX6_minutesOneByOne_27 6 rfl rfl ?_
      refine z_fqv (ws := wTV g x y rd a dr p pa vo ch im W ++ (wTown g a h T ++ (wPres g p q P ++ (wVoice g vo hv a V3)))) (cs := [wTV g x y rd a dr p pa vo ch im W, wTown g a h T, wPres g p q P, wVoice g vo hv a V3]) (ds := [wVoice g vo hv a V3, wTown g a h T]) (rs := [wTV g x y rd a dr p pa vo ch im W, wPres g p q P]) E [3, 1] rfl rfl (rV E hX (c_X5_lookBehindRow g vo hv V3 a h T (T.1 5) hv3.1 hT.1 hT.wf (by omega) hT.2.2.2.2.2.2.1 hrw.1 (fun j hj => by have := hrw.2 j hj; omega)) mw_X5_lookBehindRow ml_X6_282 dX6_minutesOneByOne_30 (Nat.le_of_ble_eq_true rfl) ⟨(Nat.le_of_ble_eq_true rfl), (Nat.le_of_ble_eq_true rfl)⟩ rfl rfl (Nat.le_of_ble_eq_true rfl) 0 rfl rfl) (fun w2 hw => ?_)
      obtain ⟨V4, rfl, ⟨q1, q2, q3, q4, q5, q6, q7, q8⟩⟩ := hw
      refine ⟨[wVoice g vo hv a V4, wTown g a h T], [wTV g x y rd a dr p pa vo ch im W, wTown g a h T, wPres g p q P, wVoice g vo hv a V4], wTV g x y rd a dr p pa vo ch im W ++ (wTown g a h T ++ (wPres g p q P ++ (wVoice g vo hv a V4))), rfl, rfl, rfl, rfl, ?_⟩
      obtain ⟨hv4, hv4o, hv4c⟩ := cr_next hT hP h0 (i := i - 1) (by omega) hv3 q1 q2 q3 q4 q7
      rw [show i - 1 + 1 = i by omega] at hv4c
      refine z_iload_n E dX6_minutesOneByOne_33 3 rfl rfl ?_
      refine z_aload_n E dX6_minutesOneByOne_34 0 rfl rfl ?_
      refine gt_X6_43 (v := .ref vo) E dX6_minutesOneByOne_35 0 rfl rfl ?_
      refine z_aload_n E dX6_minutesOneByOne_38 0 rfl rfl ?_
      refine gt_X6_19 (v := .ref a) E dX6_minutesOneByOne_39 0 rfl rfl ?_
      refine gt_X6_72 (v := .int (nI (T.1 2))) E dX6_minutesOneByOne_42 6 rfl rfl ?_
      refine z_bipush (v := (-9)) E dX6_minutesOneByOne_45 (by decide) ?_
      refine z_fq (ws := wTV g x y rd a dr p pa vo ch im W ++ (wTown g a h T ++ (wPres g p q P ++ (wVoice g vo hv a V4)))) (cs := [wTV g x y rd a dr p pa vo ch im W, wTown g a h T, wPres g p q P, wVoice g vo hv a V4]) (ds := [wVoice g vo hv a V4, wTown g a h T]) (rs := [wTV g x y rd a dr p pa vo ch im W, wPres g p q P]) E [3, 1] rfl rfl (rV E hX (c_X5_follow g vo hv V4 a h T (T.1 2) 0 hv4.1 hT.1 hR hv4.2.1 (fun r => Nat.le_trans (hv4.2.2.2 r) (by decide)) (by omega) (by omega) (by omega) q8 (fun r hr => by rw [hv4c r hr]; exact (crC_ok hT hP h0 i (by omega)).1 r hr)) mw_X5_follow ml_X6_180 dX6_minutesOneByOne_47 (Nat.le_of_ble_eq_true rfl) ⟨(Nat.le_of_ble_eq_true rfl), (Nat.le_of_ble_eq_true rfl)⟩ rfl rfl (Nat.le_of_ble_eq_true rfl) 0 rfl rfl) (fun r w2 hw => ?_)
      obtain ⟨V5, rfl, rfl, ⟨n9, t9, f9, rfl, hn24, ht24, hff, hpa⟩⟩ := hw
      refine ⟨[wVoice g vo hv a (sA (sF (sF V4 7 n9) 8 t9) 6 f9), wTown g a h T], [wTV g x y rd a dr p pa vo ch im W, wTown g a h T, wPres g p q P, wVoice g vo hv a (sA (sF (sF V4 7 n9) 8 t9) 6 f9)], wTV g x y rd a dr p pa vo ch im W ++ (wTown g a h T ++ (wPres g p q P ++ (wVoice g vo hv a (sA (sF (sF V4 7 n9) 8 t9) 6 f9)))), rfl, rfl, rfl, rfl, ?_⟩
      obtain ⟨hcr, hmf⟩ := cr_fol hT hP h0 (i := i) (by omega) hv4 hv4o hv4c q8 hn24 ht24 hff hpa
      refine z_topi (y := nI (farV T (crC T P i) (opn T P) 0 (T.1 2))) (by rw [hmf]; rfl) ?_
      refine z_iaddN E dX6_minutesOneByOne_50 ?_
      refine z_istore_n (lv' := [(0, .ref x), (1, .int (nI n2)), (2, .int (nI z)), (3, .int (nI (s + (farV T (crC T P i) (opn T P) 0 (T.1 2))))), (4, .int (nI i))]) E dX6_minutesOneByOne_51 3 rfl (by decide) rfl ?_
      refine z_iincN (lv' := [(0, .ref x), (1, .int (nI n2)), (2, .int (nI z)), (3, .int (nI (s + (farV T (crC T P i) (opn T P) 0 (T.1 2))))), (4, .int (nI (i + 1)))]) E dX6_minutesOneByOne_52 4 rfl (by decide) rfl ?_
      refine z_goto E dX6_minutesOneByOne_55 13 (by decide) ?_
      exact ih (i + 1) (s + (farV T (crC T P i) (opn T P) 0 (T.1 2))) (sA (sF (sF V4 7 n9) 8 t9) 6 f9) (⟨by omega, by omega⟩) (by rw [hs, show min i n2 = i by omega, show min (i + 1) n2 = i + 1 by omega, crS_s]) hcr (by omega)

set_option maxHeartbeats 4000000 in
set_option maxRecDepth 100000 in
theorem c_X6_minutesOneByOne (g : GC) (x : Nat) (y : Nat → Nat) (W : NS) (rd : Nat) (dr : Nat) (pa : Nat) (ch : Nat) (im : Nat → Nat) (a : Nat) (h : Nat → Nat) (T : NS) (p : Nat) (q : Nat → Nat) (P : NS) (vo : Nat) (hv : Nat → Nat) (V : NS) (n2 : Nat) (z : Nat) (hT : tdI T) (hP : pnI T P) (h0 : farV T (cT T P) (opn T P) 0 (T.1 2) < 1000000) (hn2 : n2 ≤ 20) (hz : z = farV T (cT T P) (opn T P) 0 (T.1 2)) (hV : crI T P V 0) : Ct g yX6_minutesOneByOne cX6_minutesOneByOne 5 (some .int) 7 0 0 [.ref x, .int (nI n2), .int (nI z)] (wTV g x y rd a dr p pa vo ch im W ++ (wTown g a h T ++ (wPres g p q P ++ (wVoice g vo hv a V)))) (QI (fun r_ w_ => ∃ V2 : NS, r_ = (nI (crS T P n2)) ∧ w_ = wTV g x y rd a dr p pa vo ch im W ++ (wTown g a h T ++ (wPres g p q P ++ (wVoice g vo hv a V2))) ∧ vI V2)) := by
  refine Ct.of (by decide) (Nat.le_of_ble_eq_true rfl) ?_
  intro X E Er hX _ hnm
  have E : Ob g X cX6_minutesOneByOne 5 RX6 := E
  have hR := hT.2.2.1
  have hs4 := hP.s4 hT
  have hb := hT.2.1.2
  have hp0 := hP.2.1
  have hp1 := hP.2.2.1
  have h4 := hT.2.2.2.2.2.1
  have hc1 := cT_1 P hT
  have hg3 := hT.2.2.2.2.1
  have hg2 := hT.2.2.2.1
  refine z_lve (lv' := [(0, .ref x), (1, .int (nI n2)), (2, .int (nI z))]) rfl ?_
  refine z_iload_n E dX6_minutesOneByOne_0 1 rfl rfl ?_
  refine z_ifN_ne E dX6_minutesOneByOne_1 8 (by decide) (by omega) (fun c1 => ?_) (fun c1 => ?_)
  · refine z_iload_n E dX6_minutesOneByOne_8 2 rfl rfl ?_
    refine z_istore_n (lv' := [(0, .ref x), (1, .int (nI n2)), (2, .int (nI z)), (3, .int (nI z))]) E dX6_minutesOneByOne_9 3 rfl (by decide) rfl ?_
    refine z_iconst (v := (nI 1)) E dX6_minutesOneByOne_10 (by decide) ?_
    refine z_istore (lv' := [(0, .ref x), (1, .int (nI n2)), (2, .int (nI z)), (3, .int (nI z)), (4, .int (nI 1))]) E dX6_minutesOneByOne_11 (by decide) rfl ?_
    refine l_oneby g x y W rd dr pa ch im a h T p q P vo hv V n2 z hT hP h0 hn2 hz hV X E hX (fun s V3 hs hv3 => ?_) (n2 + 2) 1 z V (by omega) (by rw [show min 1 n2 = 1 by omega]; rw [hz]; show _ = 0 + _; rw [Nat.zero_add]; rfl) hV (by omega)
    refine z_iload_n E dX6_minutesOneByOne_58 3 rfl rfl ?_
    refine z_iret E Er dX6_minutesOneByOne_59 ?_
    exact ⟨_, rfl, _, by rw [hs], rfl, hv3⟩
  · refine z_iconst (v := (nI 0)) E dX6_minutesOneByOne_4 (by decide) ?_
    refine z_goto E dX6_minutesOneByOne_5 9 (by decide) ?_
    refine z_istore_n (lv' := [(0, .ref x), (1, .int (nI n2)), (2, .int (nI z)), (3, .int (nI 0))]) E dX6_minutesOneByOne_9 3 rfl (by decide) rfl ?_
    refine z_iconst (v := (nI 1)) E dX6_minutesOneByOne_10 (by decide) ?_
    refine z_istore (lv' := [(0, .ref x), (1, .int (nI n2)), (2, .int (nI z)), (3, .int (nI 0)), (4, .int (nI 1))]) E dX6_minutesOneByOne_11 (by decide) rfl ?_
    refine l_oneby g x y W rd dr pa ch im a h T p q P vo hv V n2 z hT hP h0 hn2 hz hV X E hX (fun s V3 hs hv3 => ?_) (n2 + 2) 1 0 V (by omega) (by rw [show min 1 n2 = 0 by omega]; rfl) hV (by omega)
    refine z_iload_n E dX6_minutesOneByOne_58 3 rfl rfl ?_
    refine z_iret E Er dX6_minutesOneByOne_59 ?_
    exact ⟨_, rfl, _, by rw [hs], rfl, hv3⟩

noncomputable def alN (T P : NS) (n : Nat) : Nat := n * (farV T (cT T P) (opn T P) 0 (T.1 2) + T.1 5 * (n - 1) * sqR (rdV T (cT T P) (opn T P) (T.1 2, 0)) (lenV T (cT T P) (opn T P) (T.1 2, 0)) 12)

set_option maxHeartbeats 4000000 in
set_option maxRecDepth 100000 in
theorem c_X6_minutesAlike (g : GC) (x : Nat) (y : Nat → Nat) (W : NS) (rd : Nat) (dr : Nat) (pa : Nat) (ch : Nat) (im : Nat → Nat) (a : Nat) (h : Nat → Nat) (T : NS) (p : Nat) (q : Nat → Nat) (P : NS) (vo : Nat) (hv : Nat → Nat) (V : NS) (n2 : Nat) (z : Nat) (hT : tdI T) (hP : pnI T P) (h0 : farV T (cT T P) (opn T P) 0 (T.1 2) < 1000000) (hn2 : n2 ≤ 20) (hz : z = farV T (cT T P) (opn T P) 0 (T.1 2)) (hV : crI T P V 0) : Ct g yX6_minutesAlike cX6_minutesAlike 4 (some .int) 1 0 0 [.ref x, .int (nI n2), .int (nI z)] (wTV g x y rd a dr p pa vo ch im W ++ (wTown g a h T ++ (wPres g p q P ++ (wVoice g vo hv a V)))) (QI (fun r_ w_ => ∃ V2 : NS, r_ = (nI (alN T P n2)) ∧ w_ = wTV g x y rd a dr p pa vo ch im W ++ (wTown g a h T ++ (wPres g p q P ++ (wVoice g vo hv a V2))) ∧ vI V2)) := by
  refine Ct.of (by decide) (Nat.le_of_ble_eq_true rfl) ?_
  intro X E Er hX _ hnm
  have E : Ob g X cX6_minutesAlike 4 RX6 := E
  have hR := hT.2.2.1
  have hs4 := hP.s4 hT
  have hb := hT.2.1.2
  have hp0 := hP.2.1
  have hp1 := hP.2.2.1
  have h4 := hT.2.2.2.2.2.1
  have hc1 := cT_1 P hT
  have hg3 := hT.2.2.2.2.1
  have hg2 := hT.2.2.2.1
  have hrw := cr_row hT hP h0 (i := 0) (by omega) hV
  refine z_lve (lv' := [(0, .ref x), (1, .int (nI n2)), (2, .int (nI z))]) rfl ?_
  rcases Nat.eq_zero_or_pos n2 with hn0 | hn0
  · refine z_iload_n E dX6_minutesAlike_0 2 rfl rfl ?_
    refine z_aload_n E dX6_minutesAlike_1 0 rfl rfl ?_
    refine gt_X6_19 (v := .ref a) E dX6_minutesAlike_2 0 rfl rfl ?_
    refine gt_X6_264 (v := .int (nI (T.1 5))) E dX6_minutesAlike_5 6 rfl rfl ?_
    refine z_iload_n E dX6_minutesAlike_8 1 rfl rfl ?_
    refine z_iconst (v := (nI 1)) E dX6_minutesAlike_9 (by decide) ?_
    refine z_isub E dX6_minutesAlike_10 ?_
    refine z_imul E dX6_minutesAlike_11 ?_
    refine z_aload_n E dX6_minutesAlike_12 0 rfl rfl ?_
    refine gt_X6_43 (v := .ref vo) E dX6_minutesAlike_13 0 rfl rfl ?_
    refine z_fq (ws := wTV g x y rd a dr p pa vo ch im W ++ (wTown g a h T ++ (wPres g p q P ++ (wVoice g vo hv a V)))) (cs := [wTV g x y rd a dr p pa vo ch im W, wTown g a h T, wPres g p q P, wVoice g vo hv a V]) (ds := [wVoice g vo hv a V]) (rs := [wTV g x y rd a dr p pa vo ch im W, wTown g a h T, wPres g p q P]) E [3] rfl rfl (rV E hX (c_X5_meetingsInRow g vo hv V a hV.1.1 hrw.1 (fun j hj => by have := hrw.2 j hj; omega)) mw_X5_meetingsInRow ml_X6_285 dX6_minutesAlike_16 (Nat.le_of_ble_eq_true rfl) ⟨(Nat.le_of_ble_eq_true rfl), (Nat.le_of_ble_eq_true rfl)⟩ rfl rfl (Nat.le_of_ble_eq_true rfl) 0 rfl rfl) (fun r w2 hw => ?_)
    obtain ⟨V4, rfl, rfl, ⟨f9, rfl, hf9⟩⟩ := hw
    refine ⟨[wVoice g vo hv a (sA V 5 f9)], [wTV g x y rd a dr p pa vo ch im W, wTown g a h T, wPres g p q P, wVoice g vo hv a (sA V 5 f9)], wTV g x y rd a dr p pa vo ch im W ++ (wTown g a h T ++ (wPres g p q P ++ (wVoice g vo hv a (sA V 5 f9)))), rfl, rfl, rfl, rfl, ?_⟩
    refine z_imul E dX6_minutesAlike_19 ?_
    refine z_iadd E dX6_minutesAlike_20 ?_
    refine z_istore_n (lv' := [(0, .ref x), (1, .int (nI n2)), (2, .int (nI z)), (3, .int ((nI z) + (((nI (T.1 5)) * ((nI n2) - (nI 1))) * (nI (sqR ((V.2 6)) ((V.1 7)) 12)))))]) E dX6_minutesAlike_21 3 rfl (by decide) rfl ?_
    refine z_iload_n E dX6_minutesAlike_22 1 rfl rfl ?_
    refine z_iload_n E dX6_minutesAlike_23 3 rfl rfl ?_
    refine z_imul E dX6_minutesAlike_24 ?_
    refine z_iret E Er dX6_minutesAlike_25 ?_
    exact ⟨_, rfl, _, by subst hn0; rw [alN, Nat.zero_mul]; exact Int32.zero_mul, rfl, ⟨hV.1.1.A hf9, hV.1.2.1, hV.1.2.2.1, hV.1.2.2.2⟩⟩
  · refine z_iload_n E dX6_minutesAlike_0 2 rfl rfl ?_
    refine z_aload_n E dX6_minutesAlike_1 0 rfl rfl ?_
    refine gt_X6_19 (v := .ref a) E dX6_minutesAlike_2 0 rfl rfl ?_
    refine gt_X6_264 (v := .int (nI (T.1 5))) E dX6_minutesAlike_5 6 rfl rfl ?_
    refine z_iload_n E dX6_minutesAlike_8 1 rfl rfl ?_
    refine z_iconst (v := (nI 1)) E dX6_minutesAlike_9 (by decide) ?_
    refine z_isubN E dX6_minutesAlike_10 (by omega) ?_
    refine z_imulN E dX6_minutesAlike_11 ?_
    refine z_aload_n E dX6_minutesAlike_12 0 rfl rfl ?_
    refine gt_X6_43 (v := .ref vo) E dX6_minutesAlike_13 0 rfl rfl ?_
    refine z_fq (ws := wTV g x y rd a dr p pa vo ch im W ++ (wTown g a h T ++ (wPres g p q P ++ (wVoice g vo hv a V)))) (cs := [wTV g x y rd a dr p pa vo ch im W, wTown g a h T, wPres g p q P, wVoice g vo hv a V]) (ds := [wVoice g vo hv a V]) (rs := [wTV g x y rd a dr p pa vo ch im W, wTown g a h T, wPres g p q P]) E [3] rfl rfl (rV E hX (c_X5_meetingsInRow g vo hv V a hV.1.1 hrw.1 (fun j hj => by have := hrw.2 j hj; omega)) mw_X5_meetingsInRow ml_X6_285 dX6_minutesAlike_16 (Nat.le_of_ble_eq_true rfl) ⟨(Nat.le_of_ble_eq_true rfl), (Nat.le_of_ble_eq_true rfl)⟩ rfl rfl (Nat.le_of_ble_eq_true rfl) 0 rfl rfl) (fun r w2 hw => ?_)
    obtain ⟨V4, rfl, rfl, ⟨f9, rfl, hf9⟩⟩ := hw
    refine ⟨[wVoice g vo hv a (sA V 5 f9)], [wTV g x y rd a dr p pa vo ch im W, wTown g a h T, wPres g p q P, wVoice g vo hv a (sA V 5 f9)], wTV g x y rd a dr p pa vo ch im W ++ (wTown g a h T ++ (wPres g p q P ++ (wVoice g vo hv a (sA V 5 f9)))), rfl, rfl, rfl, rfl, ?_⟩
    refine z_imulN E dX6_minutesAlike_19 ?_
    refine z_iaddN E dX6_minutesAlike_20 ?_
    refine z_istore_n (lv' := [(0, .ref x), (1, .int (nI n2)), (2, .int (nI z)), (3, .int (nI (z + (((T.1 5) * (n2 - 1)) * (sqR ((V.2 6)) ((V.1 7)) 12)))))]) E dX6_minutesAlike_21 3 rfl (by decide) rfl ?_
    refine z_iload_n E dX6_minutesAlike_22 1 rfl rfl ?_
    refine z_iload_n E dX6_minutesAlike_23 3 rfl rfl ?_
    refine z_imulN E dX6_minutesAlike_24 ?_
    refine z_iret E Er dX6_minutesAlike_25 ?_
    exact ⟨_, rfl, _, by rw [alN, hz, sqR_cg (f := V.2 6) hV.2.2.2.2, hV.2.2.2.1]; rfl, rfl, ⟨hV.1.1.A hf9, hV.1.2.1, hV.1.2.2.1, hV.1.2.2.2⟩⟩

noncomputable def crV (T P : NS) (n w : Int32) : Int32 := if (wi n (nI 0) (nI 20) && wi w (nI 0) (nI 1)) = true then (if farV T (cT T P) (opn T P) 0 (T.1 2) = 1000000 then -9 else if w = nI 0 then nI (crS T P n.toNatClampNeg) else nI (alN T P n.toNatClampNeg)) else -1

set_option maxHeartbeats 4000000 in
set_option maxRecDepth 100000 in
theorem c_X6_cars (g : GC) (x : Nat) (y : Nat → Nat) (W : NS) (rd : Nat) (dr : Nat) (pa : Nat) (ch : Nat) (im : Nat → Nat) (a : Nat) (h : Nat → Nat) (T : NS) (p : Nat) (q : Nat → Nat) (P : NS) (vo : Nat) (hv : Nat → Nat) (V : NS) (t : Nat) (n : Int32) (w : Int32) (hT : tdI T) (hP : pnI T P) (hV : vI V) : Ct g yX6_cars cX6_cars 4 (some .int) 8 0 0 [.ref x, .int n, .int w] (wTV g x y rd a dr p pa vo ch im W ++ (wTown g a h T ++ (wPres g p q P ++ (wVoice g vo hv t V)))) (QI (fun r_ w_ => ∃ V2 : NS, ∃ t2 : Nat, r_ = (crV T P n w) ∧ w_ = wTV g x y rd a dr p pa vo ch im W ++ (wTown g a h T ++ (wPres g p q P ++ (wVoice g vo hv t2 V2))) ∧ (vI V2 ∧ (t2 = a ∨ t2 = t)))) := by
  refine Ct.of (by decide) (Nat.le_of_ble_eq_true rfl) ?_
  intro X E Er hX _ hnm
  have E : Ob g X cX6_cars 4 RX6 := E
  have hR := hT.2.2.1
  have hs4 := hP.s4 hT
  have hb := hT.2.1.2
  have hp0 := hP.2.1
  have hp1 := hP.2.2.1
  have h4 := hT.2.2.2.2.2.1
  have hc1 := cT_1 P hT
  have hg3 := hT.2.2.2.2.1
  have hg2 := hT.2.2.2.1
  refine z_lve (lv' := [(0, .ref x), (1, .int n), (2, .int w)]) rfl ?_
  refine z_iload_n E dX6_cars_0 1 rfl rfl ?_
  refine z_iconst (v := (nI 0)) E dX6_cars_1 (by decide) ?_
  refine z_bipush (v := (nI 20)) E dX6_cars_2 (by decide) ?_
  refine z_se E (rS E hX (c_X6_isWithin g n (nI 0) (nI 20)) mw_X6_isWithin ms_X6_isWithin ml_X6_80 dX6_cars_4 (Nat.le_of_ble_eq_true rfl) ⟨(Nat.le_of_ble_eq_true rfl), (Nat.le_of_ble_eq_true rfl)⟩ rfl rfl (Nat.le_of_ble_eq_true rfl)) ?_
  refine z_ifB_eq E dX6_cars_7 19 (by decide) (fun c1 => ?_) (fun c1 => ?_)
  · refine z_iconst (v := (-1)) E dX6_cars_19 (by decide) ?_
    refine z_iret E Er dX6_cars_20 ?_
    exact ⟨_, rfl, _, _, by rw [crV, if_neg (show ¬ (wi n (nI 0) (nI 20) && wi w (nI 0) (nI 1)) = true by rw [c1]; simp)], rfl, hV, Or.inr rfl⟩
  · refine z_iload_n E dX6_cars_10 2 rfl rfl ?_
    refine z_iconst (v := (nI 0)) E dX6_cars_11 (by decide) ?_
    refine z_iconst (v := (nI 1)) E dX6_cars_12 (by decide) ?_
    refine z_se E (rS E hX (c_X6_isWithin g w (nI 0) (nI 1)) mw_X6_isWithin ms_X6_isWithin ml_X6_80 dX6_cars_13 (Nat.le_of_ble_eq_true rfl) ⟨(Nat.le_of_ble_eq_true rfl), (Nat.le_of_ble_eq_true rfl)⟩ rfl rfl (Nat.le_of_ble_eq_true rfl)) ?_
    refine z_ifB_ne E dX6_cars_16 21 (by decide) (fun c2 => ?_) (fun c2 => ?_)
    · obtain ⟨n2, -, hn2, rfl⟩ := wi_nI (by decide) (by decide) c1
      obtain ⟨w2, -, hw2, rfl⟩ := wi_nI (by decide) (by decide) c2
      refine z_aload_n E dX6_cars_21 0 rfl rfl ?_
      refine gt_X6_43 (v := .ref vo) E dX6_cars_22 0 rfl rfl ?_
      refine z_aload_n E dX6_cars_25 0 rfl rfl ?_
      refine gt_X6_19 (v := .ref a) E dX6_cars_26 0 rfl rfl ?_
      refine z_aload_n E dX6_cars_29 0 rfl rfl ?_
      refine gt_X6_29 (v := .ref p) E dX6_cars_30 0 rfl rfl ?_
      refine z_fqv (ws := wTV g x y rd a dr p pa vo ch im W ++ (wTown g a h T ++ (wPres g p q P ++ (wVoice g vo hv t V)))) (cs := [wTV g x y rd a dr p pa vo ch im W, wTown g a h T, wPres g p q P, wVoice g vo hv t V]) (ds := [wVoice g vo hv t V, wTown g a h T, wPres g p q P]) (rs := [wTV g x y rd a dr p pa vo ch im W]) E [3, 1, 1] rfl rfl (rV E hX (c_X5_look g vo hv V t a h T p q P hV hT.1 hT.wf (by omega) hT.2.2.2.2.2.2.2.1 hP.2.2.2.2.2.2) mw_X5_look ml_X6_176 dX6_cars_33 (Nat.le_of_ble_eq_true rfl) ⟨(Nat.le_of_ble_eq_true rfl), (Nat.le_of_ble_eq_true rfl)⟩ rfl rfl (Nat.le_of_ble_eq_true rfl) 0 rfl rfl) (fun w2 hw => ?_)
      obtain ⟨V1, rfl, hk⟩ := hw
      refine ⟨[wVoice g vo hv a V1, wTown g a h T, wPres g p q P], [wTV g x y rd a dr p pa vo ch im W, wTown g a h T, wPres g p q P, wVoice g vo hv a V1], wTV g x y rd a dr p pa vo ch im W ++ (wTown g a h T ++ (wPres g p q P ++ (wVoice g vo hv a V1))), rfl, rfl, rfl, rfl, ?_⟩
      refine z_aload_n E dX6_cars_36 0 rfl rfl ?_
      refine gt_X6_43 (v := .ref vo) E dX6_cars_37 0 rfl rfl ?_
      refine z_aload_n E dX6_cars_40 0 rfl rfl ?_
      refine gt_X6_19 (v := .ref a) E dX6_cars_41 0 rfl rfl ?_
      refine gt_X6_72 (v := .int (nI (T.1 2))) E dX6_cars_44 6 rfl rfl ?_
      refine z_bipush (v := (-9)) E dX6_cars_47 (by decide) ?_
      refine z_fq (ws := wTV g x y rd a dr p pa vo ch im W ++ (wTown g a h T ++ (wPres g p q P ++ (wVoice g vo hv a V1)))) (cs := [wTV g x y rd a dr p pa vo ch im W, wTown g a h T, wPres g p q P, wVoice g vo hv a V1]) (ds := [wVoice g vo hv a V1, wTown g a h T]) (rs := [wTV g x y rd a dr p pa vo ch im W, wPres g p q P]) E [3, 1] rfl rfl (rV E hX (c_X5_follow g vo hv V1 a h T (T.1 2) 0 hk.1.1 hT.1 hR hk.1.2.1 (fun r => Nat.le_trans (hk.1.2.2.2 r) (by decide)) (by omega) (by omega) (by omega) hk.2.2.2 (fun r hr => by rw [lk_V hk r hr]; exact hc1 r hr)) mw_X5_follow ml_X6_180 dX6_cars_49 (Nat.le_of_ble_eq_true rfl) ⟨(Nat.le_of_ble_eq_true rfl), (Nat.le_of_ble_eq_true rfl)⟩ rfl rfl (Nat.le_of_ble_eq_true rfl) 0 rfl rfl) (fun r w2 hw => ?_)
      obtain ⟨V3, rfl, rfl, ⟨n9, t9, f9, rfl, hn24, ht24, hff, hpa⟩⟩ := hw
      refine ⟨[wVoice g vo hv a (sA (sF (sF V1 7 n9) 8 t9) 6 f9), wTown g a h T], [wTV g x y rd a dr p pa vo ch im W, wTown g a h T, wPres g p q P, wVoice g vo hv a (sA (sF (sF V1 7 n9) 8 t9) 6 f9)], wTV g x y rd a dr p pa vo ch im W ++ (wTown g a h T ++ (wPres g p q P ++ (wVoice g vo hv a (sA (sF (sF V1 7 n9) 8 t9) 6 f9)))), rfl, rfl, rfl, rfl, ?_⟩
      have hmf := lk_mf hT hk 0 (T.1 2)
      have hm2 := mfE_lt T (V1.2 2) (V1.1 1) (V1.2 3) 0 (T.1 2)
      refine z_istore_n (lv' := [(0, .ref x), (1, .int (nI n2)), (2, .int (nI w2)), (3, .int (cm (mfE T ((V1.2 2)) ((V1.1 1)) ((V1.2 3)) 0 (T.1 2))))]) E dX6_cars_52 3 rfl (by decide) rfl ?_
      refine z_iload_n E dX6_cars_53 3 rfl rfl ?_
      refine z_bipush (v := (-9)) E dX6_cars_54 (by decide) ?_
      refine z_icmpC_ne E dX6_cars_56 62 (by decide) (hm2) (fun c3 => ?_) (fun c3 => ?_)
      · have h0 := (mfV_n (hmf ▸ c3)).2
        obtain ⟨hcr, hm1⟩ := cr_fol hT hP h0 (i := 0) (by omega) hk.1 hk.2.1 (lk_V hk) hk.2.2.2 hn24 ht24 hff hpa
        refine z_lve (lv' := [(0, .ref x), (1, .int (nI n2)), (2, .int (nI w2)), (3, .int (nI ((mfE T ((V1.2 2)) ((V1.1 1)) ((V1.2 3)) 0 (T.1 2)) - 1)))]) (by rw [cm_pos c3]) ?_
        refine z_iload_n E dX6_cars_62 2 rfl rfl ?_
        refine z_ifN_ne E dX6_cars_63 75 (by decide) (by omega) (fun c4 => ?_) (fun c4 => ?_)
        · refine z_aload_n E dX6_cars_75 0 rfl rfl ?_
          refine z_iload_n E dX6_cars_76 1 rfl rfl ?_
          refine z_iload_n E dX6_cars_77 3 rfl rfl ?_
          refine z_q0 E (rV E hX (c_X6_minutesAlike g x y W rd dr pa ch im a h T p q P vo hv (sA (sF (sF V1 7 n9) 8 t9) 6 f9) n2 ((mfE T ((V1.2 2)) ((V1.1 1)) ((V1.2 3)) 0 (T.1 2)) - 1) (by assumption) (by assumption) h0 (by omega) (by rw [hm1]; rfl) hcr) mw_X6_minutesAlike ml_X6_220 dX6_cars_78 (Nat.le_of_ble_eq_true rfl) ⟨(Nat.le_of_ble_eq_true rfl), (Nat.le_of_ble_eq_true rfl)⟩ rfl rfl (Nat.le_of_ble_eq_true rfl) 0 rfl rfl) (fun r w2 hw => ?_)
          obtain ⟨V23, rfl, rfl, hq3⟩ := hw
          refine ⟨rfl, ?_⟩
          refine z_ws (ws' := wTV g x y rd a dr p pa vo ch im W ++ (wTown g a h T ++ (wPres g p q P ++ (wVoice g vo hv a V23)))) rfl ?_
          refine z_iret E Er dX6_cars_81 ?_
          exact ⟨_, rfl, _, _, by rw [crV, if_pos (by rw [c1, c2]; rfl), if_neg (Nat.ne_of_lt h0), if_neg (fun q => c4 ((nI_injI (by omega) (by decide)).mp q)), nI_clamp (by omega)], rfl, hq3, Or.inl rfl⟩
        · refine z_aload_n E dX6_cars_66 0 rfl rfl ?_
          refine z_iload_n E dX6_cars_67 1 rfl rfl ?_
          refine z_iload_n E dX6_cars_68 3 rfl rfl ?_
          refine z_q0 E (rV E hX (c_X6_minutesOneByOne g x y W rd dr pa ch im a h T p q P vo hv (sA (sF (sF V1 7 n9) 8 t9) 6 f9) n2 ((mfE T ((V1.2 2)) ((V1.1 1)) ((V1.2 3)) 0 (T.1 2)) - 1) (by assumption) (by assumption) h0 (by omega) (by rw [hm1]; rfl) hcr) mw_X6_minutesOneByOne ml_X6_217 dX6_cars_69 (Nat.le_of_ble_eq_true rfl) ⟨(Nat.le_of_ble_eq_true rfl), (Nat.le_of_ble_eq_true rfl)⟩ rfl rfl (Nat.le_of_ble_eq_true rfl) 0 rfl rfl) (fun r w2 hw => ?_)
          obtain ⟨V24, rfl, rfl, hq4⟩ := hw
          refine ⟨rfl, ?_⟩
          refine z_ws (ws' := wTV g x y rd a dr p pa vo ch im W ++ (wTown g a h T ++ (wPres g p q P ++ (wVoice g vo hv a V24)))) rfl ?_
          refine z_goto E dX6_cars_72 81 (by decide) ?_
          refine z_iret E Er dX6_cars_81 ?_
          exact ⟨_, rfl, _, _, by rw [crV, if_pos (by rw [c1, c2]; rfl), if_neg (Nat.ne_of_lt h0), if_pos (by rw [c4]), nI_clamp (by omega)], rfl, hq4, Or.inl rfl⟩
      · refine z_bipush (v := (-9)) E dX6_cars_59 (by decide) ?_
        refine z_iret E Er dX6_cars_61 ?_
        exact ⟨_, rfl, _, _, by rw [crV, if_pos (by rw [c1, c2]; rfl), if_pos (mfV_0.mp (hmf ▸ c3))], rfl, ⟨((hk.1.1.F (by omega)).F (by omega)).A hff, hk.1.2.1, hk.1.2.2.1, hk.1.2.2.2⟩, Or.inl rfl⟩
    · refine z_iconst (v := (-1)) E dX6_cars_19 (by decide) ?_
      refine z_iret E Er dX6_cars_20 ?_
      exact ⟨_, rfl, _, _, by rw [crV, if_neg (show ¬ (wi n (nI 0) (nI 20) && wi w (nI 0) (nI 1)) = true by rw [c2]; simp)], rfl, hV, Or.inr rfl⟩
