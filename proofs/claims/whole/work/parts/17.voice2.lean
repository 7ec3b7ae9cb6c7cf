theorem vI.cost {V : NS} (h : vI V) (r : Nat) : V.2 2 r ≤ 1000000 := Nat.le_trans (h.2.2.2 r) (by decide)
/-- how often a road is in the row -/
def cR (f : Nat → Nat) (n r : Nat) : Nat := cnt (fun j => decide (f j = r)) n
theorem cR_s (f : Nat → Nat) (n r : Nat) : cR f (n + 1) r = cR f n r + (if f n = r then 1 else 0) := by
  unfold cR
  rw [show cnt (fun j => decide (f j = r)) (n + 1) = cnt (fun j => decide (f j = r)) n + (if decide (f n = r) = true then 1 else 0) from rfl]
  simp only [decide_eq_true_eq]
theorem cR_le (f : Nat → Nat) (n r : Nat) : cR f n r ≤ n := cnt_le _ _

set_option maxHeartbeats 4000000 in
set_option maxRecDepth 100000 in
theorem c_X5_minutesWithLonger (g : GC) (v : Nat) (k : Nat → Nat) (V : NS) (a : Nat) (h : Nat → Nat) (T : NS) (r : Nat) (j : Nat) (p : Nat) (hv : vI V) (hsT : sm T) (hw : wfT T) (hn : T.1 4 ≤ 1000000) (hr : r < 12) (hj : j ≤ 60) (hp : p < 2 ^ 31) : Ct g yX5_minutesWithLonger cX5_minutesWithLonger 5 (some .int) 6 0 0 [.ref v, .int (nI r), .int (nI j), .int (nI p)] (wVoice g v k a V ++ (wTown g a h T)) (QI (fun r_ w_ => ∃ V2 : NS, r_ = (cm (mfE T (va_up (V.2 2) r (V.2 2 r + j)) (V.1 1) (V2.2 3) 0 p)) ∧ w_ = wVoice g v k a V2 ++ (wTown g a h T) ∧ (vI V2 ∧ V2.1 1 = V.1 1 ∧ (∀ r, V2.2 2 r = V.2 2 r) ∧ Fix T (va_up (V.2 2) r (V.2 2 r + j)) (V.1 1) (V2.2 3)))) := by
  refine Ct.of (by decide) (Nat.le_of_ble_eq_true rfl) ?_
  intro X E Er hX _ hnm
  have E : Ob g X cX5_minutesWithLonger 5 RX5 := E
  have hR := hw.1
  have hcr := hv.2.2.2 r
  have hup : ∀ x, (va_up (V.2 2) r (V.2 2 r + j)) x ≤ 100060 := fun x => by unfold va_up; split; omega; have := hv.2.2.2 x; omega
  have hbk : ∀ x, (va_up (va_up (V.2 2) r (V.2 2 r + j)) r ((va_up (V.2 2) r (V.2 2 r + j)) r - j)) x = V.2 2 x := fun x => by unfold va_up; split; (rename_i e; rw [e]; simp); rfl
  refine z_lve (lv' := [(0, .ref v), (1, .int (nI r)), (2, .int (nI j)), (3, .int (nI p))]) rfl ?_
  refine z_aload_n E dX5_minutesWithLonger_0 0 rfl rfl ?_
  refine gt_X5_18 (v := .ref (k 2)) E dX5_minutesWithLonger_1 0 rfl rfl ?_
  refine z_iload_n E dX5_minutesWithLonger_4 1 rfl rfl ?_
  refine z_dup2 E dX5_minutesWithLonger_5 rfl rfl ?_
  refine z_ialdN (f := (V.2 2)) E dX5_minutesWithLonger_6 1 rfl (by omega) (by decide) ?_
  refine z_iload_n E dX5_minutesWithLonger_7 2 rfl rfl ?_
  refine z_iaddN E dX5_minutesWithLonger_8 ?_
  refine z_iastN (f := (V.2 2)) (i := r) (x := (((V.2 2) r) + j)) (ws' := wVoice g v k a (sA V 2 (va_up (V.2 2) r (((V.2 2) r) + j))) ++ (wTown g a h T)) E dX5_minutesWithLonger_9 1 rfl (by omega) (by decide) rfl ?_
  refine z_aload_n E dX5_minutesWithLonger_10 0 rfl rfl ?_
  refine z_qv0 E (rV E hX (c_X5_measure g v k (sA V 2 (va_up (V.2 2) r (((V.2 2) r) + j))) a h T (hv.1.A (fun x => Nat.lt_of_le_of_lt (hup x) (by decide))) hsT (by assumption) hv.2.1 hv.2.2.1 (fun x => Nat.le_trans (hup x) (by decide)) (by omega)) mw_X5_measure ml_X5_57 dX5_minutesWithLonger_11 (Nat.le_of_ble_eq_true rfl) ⟨(Nat.le_of_ble_eq_true rfl), (Nat.le_of_ble_eq_true rfl)⟩ rfl rfl (Nat.le_of_ble_eq_true rfl) 0 rfl rfl) (fun w2 hw => ?_)
  obtain ⟨V3, rfl, ⟨L, S, rfl, hF, hLl, hSl⟩⟩ := hw
  refine ⟨rfl, ?_⟩
  refine z_ws (ws' := wVoice g v k a (sA (sA (sA V 2 (va_up (V.2 2) r (V.2 2 r + j))) 3 L) 4 S) ++ (wTown g a h T)) rfl ?_
  refine z_aload_n E dX5_minutesWithLonger_14 0 rfl rfl ?_
  refine z_iload_n E dX5_minutesWithLonger_15 3 rfl rfl ?_
  refine z_bipush (v := (-9)) E dX5_minutesWithLonger_16 (by decide) ?_
  refine z_ro0 E (rV E hX (c_X5_minutesFrom g v k (sA (sA (sA V 2 (va_up (V.2 2) r (V.2 2 r + j))) 3 L) 4 S) a h T p 0 (((hv.1.A (fun x => Nat.lt_of_le_of_lt (hup x) (by decide))).A (fun a => Nat.lt_of_le_of_lt (hLl a) (by decide))).A (fun a => Nat.lt_of_le_of_lt (hSl a) (by decide))) hsT (by omega) hLl (fun x => Nat.le_trans (hup x) (by decide)) (by omega) (by omega) (by omega)) mw_X5_minutesFrom ml_X5_107 dX5_minutesWithLonger_18 (Nat.le_of_ble_eq_true rfl) ⟨(Nat.le_of_ble_eq_true rfl), (Nat.le_of_ble_eq_true rfl)⟩ rfl rfl (Nat.le_of_ble_eq_true rfl) 0 rfl rfl) ?_
  refine z_istore (lv' := [(0, .ref v), (1, .int (nI r)), (2, .int (nI j)), (3, .int (nI p)), (4, .int (cm (mfE T ((va_up (V.2 2) r (V.2 2 r + j))) ((V.1 1)) (L) 0 p)))]) E dX5_minutesWithLonger_21 (by decide) rfl ?_
  refine z_aload_n E dX5_minutesWithLonger_23 0 rfl rfl ?_
  refine gt_X5_18 (v := .ref (k 2)) E dX5_minutesWithLonger_24 0 rfl rfl ?_
  refine z_iload_n E dX5_minutesWithLonger_27 1 rfl rfl ?_
  refine z_dup2 E dX5_minutesWithLonger_28 rfl rfl ?_
  refine z_ialdN (f := (va_up (V.2 2) r (V.2 2 r + j))) E dX5_minutesWithLonger_29 1 rfl (by omega) (by decide) ?_
  refine z_iload_n E dX5_minutesWithLonger_30 2 rfl rfl ?_
  refine z_isubN E dX5_minutesWithLonger_31 (by unfold va_up; simp) ?_
  refine z_iastN (f := (va_up (V.2 2) r (V.2 2 r + j))) (i := r) (x := (((va_up (V.2 2) r (V.2 2 r + j)) r) - j)) (ws' := wVoice g v k a (sA (sA (sA V 2 (va_up (va_up (V.2 2) r (V.2 2 r + j)) r (((va_up (V.2 2) r (V.2 2 r + j)) r) - j))) 3 L) 4 S) ++ (wTown g a h T)) E dX5_minutesWithLonger_32 1 rfl (by omega) (by decide) rfl ?_
  refine z_iload E dX5_minutesWithLonger_33 4 rfl ?_
  refine z_iret E Er dX5_minutesWithLonger_35 ?_
  exact ⟨_, rfl, _, rfl, rfl, ⟨((hv.1.A (fun x => by rw [hbk x]; exact hv.1.2 2 x)).A (fun a => Nat.lt_of_le_of_lt (hLl a) (by decide))).A (fun a => Nat.lt_of_le_of_lt (hSl a) (by decide)), hLl, hSl, fun x => by show (va_up (va_up (V.2 2) r (V.2 2 r + j)) r ((va_up (V.2 2) r (V.2 2 r + j)) r - j)) x ≤ 100000; rw [hbk x]; exact hv.2.2.2 x⟩, rfl, hbk, hF⟩

set_option maxHeartbeats 4000000 in
set_option maxRecDepth 100000 in
theorem l_behind (g : GC) (v : Nat) (k : Nat → Nat) (V : NS) (a : Nat) (h : Nat → Nat) (T : NS) (x : Nat) (hv : vI V) (hsT : sm T) (hw : wfT T) (hn : T.1 4 ≤ 1000000) (hx : x ≤ 9) (hl : V.1 7 ≤ 24) (hrow : ∀ i, i < V.1 7 → V.2 6 i < 12) (X : XC) (E : Ob g X cX5_lookBehindRow 3 RX5) (hX : X.2.2.1 = zR 5 0 0) (K : ∀ (f : Nat → Nat), (∀ r, f r = V.2 2 r + x * cR (V.2 6) (V.1 7) r) → Z g X 3 0 0 (wVoice g v k a (sA V 2 f) ++ (wTown g a h T)) [(0, .ref v), (1, .int (nI x))] [] 31) : ∀ (n : Nat) (i : Nat) (f : Nat → Nat), (i ≤ V.1 7) → (∀ r, f r = V.2 2 r + x * cR (V.2 6) i r) → (V.1 7 < i + n) → Z g X 3 0 0 (wVoice g v k a (sA V 2 f) ++ (wTown g a h T)) [(0, .ref v), (1, .int (nI x)), (2, .int (nI i))] [] 2 := by
  intro n
  induction n with
  | zero =>
    intro i f hi hf0 hf
    have hsV := hv.1
    exfalso; omega
  | succ n ih =>
    intro i f hi hf0 hf
    have hsV := hv.1
    refine z_iload_n E dX5_lookBehindRow_2 2 rfl rfl ?_
    refine z_aload_n E dX5_lookBehindRow_3 0 rfl rfl ?_
    refine gt_X5_60 (v := .int (nI (V.1 7))) E dX5_lookBehindRow_4 0 rfl rfl ?_
    refine z_icmpN_ge E dX5_lookBehindRow_7 31 (by decide) (by omega) (hsV.1 _) (fun c1 => ?_) (fun c1 => ?_)
    · refine z_lv [0, 1] rfl ?_; exact K f (by rw [show V.1 7 = i by omega]; exact hf0)
    · refine z_aload_n E dX5_lookBehindRow_10 0 rfl rfl ?_
      refine gt_X5_18 (v := .ref (k 2)) E dX5_lookBehindRow_11 0 rfl rfl ?_
      refine z_aload_n E dX5_lookBehindRow_14 0 rfl rfl ?_
      refine gt_X5_32 (v := .ref (k 6)) E dX5_lookBehindRow_15 0 rfl rfl ?_
      refine z_iload_n E dX5_lookBehindRow_18 2 rfl rfl ?_
      refine z_ialdN (f := (V.2 6)) E dX5_lookBehindRow_19 5 rfl (by omega) (by decide) ?_
      refine z_dup2 E dX5_lookBehindRow_20 rfl rfl ?_
      refine z_ialdN (f := f) E dX5_lookBehindRow_21 1 rfl (hrow i (by omega)) (by decide) ?_
      refine z_iload_n E dX5_lookBehindRow_22 1 rfl rfl ?_
      refine z_iaddN E dX5_lookBehindRow_23 ?_
      refine z_iastN (f := f) (i := ((V.2 6) i)) (x := ((f ((V.2 6) i)) + x)) (ws' := wVoice g v k a (sA V 2 (va_up f ((V.2 6) i) ((f ((V.2 6) i)) + x))) ++ (wTown g a h T)) E dX5_lookBehindRow_24 1 rfl (hrow i (by omega)) (by decide) rfl ?_
      refine z_iincN (lv' := [(0, .ref v), (1, .int (nI x)), (2, .int (nI (i + 1)))]) E dX5_lookBehindRow_25 2 rfl (by decide) rfl ?_
      refine z_goto E dX5_lookBehindRow_28 2 (by decide) ?_
      exact ih (i + 1) (va_up f ((V.2 6) i) ((f ((V.2 6) i)) + x)) (by omega) (fun r => by rw [cR_s]; unfold va_up; by_cases e : r = V.2 6 i; (rw [if_pos e, if_pos e.symm, hf0, e, Nat.mul_add]; omega); (rw [if_neg e, if_neg (fun z => e z.symm), hf0, Nat.add_zero])) (by omega)

set_option maxHeartbeats 4000000 in
set_option maxRecDepth 100000 in
theorem c_X5_lookBehindRow (g : GC) (v : Nat) (k : Nat → Nat) (V : NS) (a : Nat) (h : Nat → Nat) (T : NS) (x : Nat) (hv : vI V) (hsT : sm T) (hw : wfT T) (hn : T.1 4 ≤ 1000000) (hx : x ≤ 9) (hl : V.1 7 ≤ 24) (hrow : ∀ i, i < V.1 7 → V.2 6 i < 12) : Ct g yX5_lookBehindRow cX5_lookBehindRow 3 none 5 0 0 [.ref v, .int (nI x)] (wVoice g v k a V ++ (wTown g a h T)) (QV (fun w_ => ∃ V2 : NS, w_ = wVoice g v k a V2 ++ (wTown g a h T) ∧ (sm V2 ∧ (∀ a, V2.2 3 a ≤ 1000000) ∧ (∀ a, V2.2 4 a ≤ 1) ∧ V2.1 1 = V.1 1 ∧ V2.1 7 = V.1 7 ∧ V2.2 6 = V.2 6 ∧ (∀ r, V2.2 2 r = V.2 2 r + x * cR (V.2 6) (V.1 7) r) ∧ Fix T (V2.2 2) (V2.1 1) (V2.2 3)))) := by
  refine Ct.of (by decide) (Nat.le_of_ble_eq_true rfl) ?_
  intro X E Er hX _ hnm
  have E : Ob g X cX5_lookBehindRow 3 RX5 := E
  have hR := hw.1
  refine z_lve (lv' := [(0, .ref v), (1, .int (nI x))]) rfl ?_
  refine z_iconst (v := (nI 0)) E dX5_lookBehindRow_0 (by decide) ?_
  refine z_istore_n (lv' := [(0, .ref v), (1, .int (nI x)), (2, .int (nI 0))]) E dX5_lookBehindRow_1 2 rfl (by decide) rfl ?_
  refine l_behind g v k V a h T x hv hsT hw hn hx hl hrow X E hX (fun f hf0 => ?_) (V.1 7 + 1) 0 (V.2 2) (by omega) (fun r => by simp [cR, cnt]) (by omega)
  have hfl : ∀ r, f r ≤ 100216 := fun r => by have h1 := cR_le (V.2 6) (V.1 7) r; have h2 := hv.2.2.2 r; have h3 : x * cR (V.2 6) (V.1 7) r ≤ 9 * 24 := Nat.mul_le_mul hx (by omega); rw [hf0]; omega
  refine z_aload_n E dX5_lookBehindRow_31 0 rfl rfl ?_
  refine z_qv0 E (rV E hX (c_X5_measure g v k (sA V 2 f) a h T (hv.1.A (fun r => Nat.lt_of_le_of_lt (hfl r) (by decide))) hsT (by assumption) hv.2.1 hv.2.2.1 (fun r => Nat.le_trans (hfl r) (by decide)) (by omega)) mw_X5_measure ml_X5_57 dX5_lookBehindRow_32 (Nat.le_of_ble_eq_true rfl) ⟨(Nat.le_of_ble_eq_true rfl), (Nat.le_of_ble_eq_true rfl)⟩ rfl rfl (Nat.le_of_ble_eq_true rfl) 0 rfl rfl) (fun w2 hw => ?_)
  obtain ⟨V3, rfl, ⟨L, S, rfl, hF, hLl, hSl⟩⟩ := hw
  refine ⟨rfl, ?_⟩
  refine z_ws (ws' := wVoice g v k a (sA (sA (sA V 2 f) 3 L) 4 S) ++ (wTown g a h T)) rfl ?_
  refine z_vret E Er dX5_lookBehindRow_35 ?_
  exact ⟨rfl, _, rfl, ((hv.1.A (fun r => Nat.lt_of_le_of_lt (hfl r) (by decide))).A (fun a => Nat.lt_of_le_of_lt (hLl a) (by decide))).A (fun a => Nat.lt_of_le_of_lt (hSl a) (by decide)), hLl, hSl, rfl, rfl, rfl, hf0, hF⟩

theorem rd_xy {T : NS} {c : Nat → Nat} {o : Nat} {L : Nat → Nat} {s : Nat × Nat} {x y i : Nat} (h : (x, y) = pth T c o L s i) : rdT T c o L s i = frT T c o L y x (T.1 1) - 1 := by
  unfold rdT
  rw [← h]
theorem far_0 {T : NS} {c : Nat → Nat} {o : Nat} {L : Nat → Nat} {b p : Nat} (hg : p ≠ T.1 3) (h0 : frT T c o L b p (T.1 1) = 0) : farT T c o L b p = 1000000 := by
  unfold farT
  rw [if_neg hg, (frT_0 _).mp h0]
theorem far_n {T : NS} {c : Nat → Nat} {o : Nat} {L : Nat → Nat} {b p : Nat} (hg : p ≠ T.1 3) (h0 : frT T c o L b p (T.1 1) ≠ 0) : farT T c o L b p < 1000000 := by
  have h1 : farL T c o L b p (T.1 1) ≠ 1000000 := fun e => h0 ((frT_0 _).mpr e)
  have := farL_le T c o L b p (T.1 1)
  unfold farT
  rw [if_neg hg]
  omega
/-- a road is wanting only where the way has none at all -/
theorem pth_none {T : NS} {c : Nat → Nat} {o : Nat} {L : Nat → Nat} {p b x y i : Nat} (hc : ∀ r, r < T.1 1 → 1 ≤ c r) (hF : Fix T c o L) (hxy : (x, y) = pth T c o L (p, b) i) (hg : ∀ j, j < i → (pth T c o L (p, b) j).1 ≠ T.1 3) (hfin : 0 < i → farT T c o L b p < 1000000) (hx : x ≠ T.1 3) (h0 : frT T c o L y x (T.1 1) = 0) : farT T c o L b p = 1000000 := by
  rcases Nat.eq_zero_or_pos i with q | q
  · subst q
    have e : (x, y) = (p, b) := hxy
    cases e
    exact far_0 hx h0
  · have h1 := (pth_ok (s := (p, b)) hc hF (hfin q) i hg).1
    rw [← hxy] at h1
    have := far_0 hx h0
    dsimp only at h1
    omega
theorem fin_s {T : NS} {c : Nat → Nat} {o : Nat} {L : Nat → Nat} {p b x y i : Nat} (hxy : (x, y) = pth T c o L (p, b) i) (hfin : 0 < i → farT T c o L b p < 1000000) (hx : x ≠ T.1 3) (h0 : frT T c o L y x (T.1 1) ≠ 0) : farT T c o L b p < 1000000 := by
  rcases Nat.eq_zero_or_pos i with q | q
  · subst q
    have e : (x, y) = (p, b) := hxy
    cases e
    exact far_n hx h0
  · exact hfin q
/-- what was added up, and what is left -/
theorem far_s {T : NS} {c : Nat → Nat} {o : Nat} {L : Nat → Nat} {p b x y m : Nat} (hc : ∀ r, r < T.1 1 → 1 ≤ c r) (hF : Fix T c o L) (hx : x ≠ T.1 3) (h0 : frT T c o L y x (T.1 1) ≠ 0) (hm : farT T c o L b p < 1000000 → m + farT T c o L y x = farT T c o L b p) (q : farT T c o L b p < 1000000) : m + (c (frT T c o L y x (T.1 1) - 1) + nvT T y (frT T c o L y x (T.1 1) - 1)) + farT T c o L (frT T c o L y x (T.1 1) - 1 + 1) (otherT T (frT T c o L y x (T.1 1) - 1) x) = farT T c o L b p := by
  obtain ⟨_, _, _, h4, h5, _, _⟩ := stp_ok (b := y) (p := x) hc hF hx (far_n hx h0)
  have h6 := hm q
  have h7 : L (arT T (frT T c o L y x (T.1 1) - 1) x) = farT T c o L (frT T c o L y x (T.1 1)) (otherT T (frT T c o L y x (T.1 1) - 1) x) := h4
  rw [show frT T c o L y x (T.1 1) - 1 + 1 = frT T c o L y x (T.1 1) by omega, ← h7, ← h6, ← h5]
  unfold onT
  omega
theorem mf_goal {T : NS} {c : Nat → Nat} {o : Nat} {L : Nat → Nat} {p b x y i m : Nat} (hxy : (x, y) = pth T c o L (p, b) i) (hfin : 0 < i → farT T c o L b p < 1000000) (hx : x = T.1 3) (hm : farT T c o L b p < 1000000 → m + farT T c o L y x = farT T c o L b p) : m + 1 = mfE T c o L b p := by
  have h1 : farT T c o L b p < 1000000 := by
    rcases Nat.eq_zero_or_pos i with q | q
    · subst q
      have e : (x, y) = (p, b) := hxy
      cases e
      unfold farT
      rw [if_pos hx]
      decide
    · exact hfin q
  have h2 := hm h1
  rw [show farT T c o L y x = 0 from by unfold farT; rw [if_pos hx]] at h2
  unfold mfE
  rw [if_neg (by omega)]
  omega

set_option maxHeartbeats 4000000 in
set_option maxRecDepth 100000 in
theorem l_follow (g : GC) (v : Nat) (k : Nat → Nat) (V : NS) (a : Nat) (h : Nat → Nat) (T : NS) (p : Nat) (b : Nat) (hsV : sm V) (hsT : sm T) (hR : T.1 1 ≤ 12) (hL : ∀ a, V.2 3 a ≤ 1000000) (hc : ∀ r, V.2 2 r ≤ 1000000) (hn : T.1 4 ≤ 1000000) (hp : p < 2 ^ 31) (hb : b < 2 ^ 31) (hF : Fix T (V.2 2) (V.1 1) (V.2 3)) (hc1 : ∀ r, r < T.1 1 → 1 ≤ V.2 2 r) (X : XC) (E : Ob g X cX5_follow 7 RX5) (hX : X.2.2.1 = zR 6 0 0) (Er : Oe g X (some .int) (QI (fun r_ w_ => ∃ V2 : NS, r_ = (cm (mfE T (V.2 2) (V.1 1) (V.2 3) b p)) ∧ w_ = wVoice g v k a V2 ++ (wTown g a h T) ∧ (∃ (n t : Nat) (f : Nat → Nat), V2 = sA (sF (sF V 7 n) 8 t) 6 f ∧ n ≤ 24 ∧ t ≤ 24 ∧ (∀ j, f j < 2 ^ 31) ∧ (farT T (V.2 2) (V.1 1) (V.2 3) b p < 1000000 → (pth T (V.2 2) (V.1 1) (V.2 3) (p, b) n).1 = T.1 3 ∧ (∀ j, j < n → (pth T (V.2 2) (V.1 1) (V.2 3) (p, b) j).1 ≠ T.1 3) ∧ t = trn T (V.2 2) (V.1 1) (V.2 3) (p, b) n ∧ ∀ j, j < n → f j = rdT T (V.2 2) (V.1 1) (V.2 3) (p, b) j)))) 0 0) (K : ∀ (i : Nat) (t : Nat) (f : Nat → Nat) (m : Nat), (m + 1 = mfE T (V.2 2) (V.1 1) (V.2 3) b p) → (i ≤ 24) → (t ≤ 24) → (∀ j, f j < 2 ^ 31) → (farT T (V.2 2) (V.1 1) (V.2 3) b p < 1000000 → (pth T (V.2 2) (V.1 1) (V.2 3) (p, b) i).1 = T.1 3 ∧ (∀ j, j < i → (pth T (V.2 2) (V.1 1) (V.2 3) (p, b) j).1 ≠ T.1 3) ∧ t = trn T (V.2 2) (V.1 1) (V.2 3) (p, b) i ∧ ∀ j, j < i → f j = rdT T (V.2 2) (V.1 1) (V.2 3) (p, b) j) → Z g X 7 0 0 (wVoice g v k a (sA (sF (sF V 7 i) 8 t) 6 f) ++ (wTown g a h T)) [(0, .ref v), (1, .int (nI p)), (2, .int (cm b)), (3, .int (nI m))] [] 146) : ∀ (n : Nat) (i : Nat) (t : Nat) (f : Nat → Nat) (x : Nat) (y : Nat) (m : Nat), ((x, y) = pth T (V.2 2) (V.1 1) (V.2 3) (p, b) i) → (x < 2 ^ 31) → (y < 2 ^ 31) → (i ≤ 24) → (t = trn T (V.2 2) (V.1 1) (V.2 3) (p, b) i) → (t ≤ i) → (∀ j, j < i → f j = rdT T (V.2 2) (V.1 1) (V.2 3) (p, b) j) → (∀ j, f j < 2 ^ 31) → (∀ j, j < i → (pth T (V.2 2) (V.1 1) (V.2 3) (p, b) j).1 ≠ T.1 3) → (0 < i → farT T (V.2 2) (V.1 1) (V.2 3) b p < 1000000) → (farT T (V.2 2) (V.1 1) (V.2 3) b p < 1000000 → m + farT T (V.2 2) (V.1 1) (V.2 3) y x = farT T (V.2 2) (V.1 1) (V.2 3) b p) → (24 < i + n) → Z g X 7 0 0 (wVoice g v k a (sA (sF (sF V 7 i) 8 t) 6 f) ++ (wTown g a h T)) [(0, .ref v), (1, .int (nI p)), (2, .int (cm b)), (3, .int (nI m)), (4, .int (nI x)), (5, .int (cm y))] [] 18 := by
  intro n
  induction n with
  | zero =>
    intro i t f x y m hxy hx2 hy2 hi ht htl hff hfs hg hfin hm hf
    have hx1 : x = (pth T (V.2 2) (V.1 1) (V.2 3) (p, b) i).1 := congrArg Prod.fst hxy
    have hy1 : y = (pth T (V.2 2) (V.1 1) (V.2 3) (p, b) i).2 := congrArg Prod.snd hxy
    have hfl := frT_le T (V.2 2) (V.1 1) (V.2 3) y x (T.1 1)
    exfalso; omega
  | succ n ih =>
    intro i t f x y m hxy hx2 hy2 hi ht htl hff hfs hg hfin hm hf
    have hx1 : x = (pth T (V.2 2) (V.1 1) (V.2 3) (p, b) i).1 := congrArg Prod.fst hxy
    have hy1 : y = (pth T (V.2 2) (V.1 1) (V.2 3) (p, b) i).2 := congrArg Prod.snd hxy
    have hfl := frT_le T (V.2 2) (V.1 1) (V.2 3) y x (T.1 1)
    refine z_iload E dX5_follow_18 4 rfl ?_
    refine z_aload_n E dX5_follow_20 0 rfl rfl ?_
    refine gt_X5_12 (v := .ref a) E dX5_follow_21 0 rfl rfl ?_
    refine gt_X5_67 (v := .int (nI (T.1 3))) E dX5_follow_24 6 rfl rfl ?_
    refine z_icmpN_eq E dX5_follow_27 146 (by decide) (hx2) (hsT.1 _) (fun c1 => ?_) (fun c1 => ?_)
    · refine z_lv [0, 1, 2, 3] rfl ?_; exact K i t f m (mf_goal hxy hfin c1 hm) (by omega) (by omega) hfs (fun q => ⟨by rw [← hx1]; exact c1, hg, ht, hff⟩)
    · refine z_aload_n E dX5_follow_30 0 rfl rfl ?_
      refine gt_X5_60 (v := .int (nI i)) E dX5_follow_31 0 rfl rfl ?_
      refine z_bipush (v := (nI 24)) E dX5_follow_34 (by decide) ?_
      refine z_icmpN_ge E dX5_follow_36 146 (by decide) (by omega) (by decide) (fun c2 => ?_) (fun c2 => ?_)
      · refine z_lv [0, 1, 2, 3] rfl ?_; exact K i t f m (absurd (pth_room (s := (p, b)) hc1 hF (hfin (by omega)) hg (by rw [← hx1]; exact c1)) (by omega)) (by omega) (by omega) hfs (fun q => absurd (pth_room (s := (p, b)) hc1 hF q hg (by rw [← hx1]; exact c1)) (by omega))
      · refine z_aload_n E dX5_follow_39 0 rfl rfl ?_
        refine z_iload E dX5_follow_40 4 rfl ?_
        refine z_iload E dX5_follow_42 5 rfl ?_
        refine z_ro0 E (rV E hX (c_X5_firstRoad g v k (sA (sF (sF V 7 i) 8 t) 6 f) a h T x y (((hsV.F (show i < 2 ^ 31 by omega)).F (show t < 2 ^ 31 by omega)).A hfs) hsT (by omega) hL hc (by omega) (hx2) (hy2)) mw_X5_firstRoad ml_X5_104 dX5_follow_44 (Nat.le_of_ble_eq_true rfl) ⟨(Nat.le_of_ble_eq_true rfl), (Nat.le_of_ble_eq_true rfl)⟩ rfl rfl (Nat.le_of_ble_eq_true rfl) 0 rfl rfl) ?_
        refine z_istore (lv' := [(0, .ref v), (1, .int (nI p)), (2, .int (cm b)), (3, .int (nI m)), (4, .int (nI x)), (5, .int (cm y)), (6, .int (cm (frT T ((V.2 2)) ((V.1 1)) ((V.2 3)) y x ((T.1 1)))))]) E dX5_follow_47 (by decide) rfl ?_
        refine z_iload E dX5_follow_49 6 rfl ?_
        refine z_bipush (v := (-9)) E dX5_follow_51 (by decide) ?_
        refine z_icmpC_ne E dX5_follow_53 59 (by decide) (by have := frT_le T ((V.2 2)) ((V.1 1)) ((V.2 3)) y x ((T.1 1)); omega) (fun c3 => ?_) (fun c3 => ?_)
        · refine z_lve (lv' := [(0, .ref v), (1, .int (nI p)), (2, .int (cm b)), (3, .int (nI m)), (4, .int (nI x)), (5, .int (cm y)), (6, .int (nI ((frT T ((V.2 2)) ((V.1 1)) ((V.2 3)) y x ((T.1 1))) - 1)))]) (by rw [cm_pos c3]) ?_
          refine z_aload_n E dX5_follow_59 0 rfl rfl ?_
          refine gt_X5_12 (v := .ref a) E dX5_follow_60 0 rfl rfl ?_
          refine z_iload E dX5_follow_63 5 rfl ?_
          refine z_iload E dX5_follow_65 6 rfl ?_
          refine z_ro E (rV E hX (c_X4_isTurn g a h T y ((frT T ((V.2 2)) ((V.1 1)) ((V.2 3)) y x ((T.1 1))) - 1) hsT (by omega) (hy2) (by omega)) mw_X4_isTurn ml_X5_113 dX5_follow_67 (Nat.le_of_ble_eq_true rfl) ⟨(Nat.le_of_ble_eq_true rfl), (Nat.le_of_ble_eq_true rfl)⟩ rfl rfl (Nat.le_of_ble_eq_true rfl) 0 rfl rfl) [6, 7, 8, 9, 10] rfl (by decide) ?_
          refine z_ifB_eq E dX5_follow_70 83 (by decide) (fun c4 => ?_) (fun c4 => ?_)
          · refine z_iload_n E dX5_follow_83 3 rfl rfl ?_
            refine z_aload_n E dX5_follow_84 0 rfl rfl ?_
            refine gt_X5_18 (v := .ref (k 2)) E dX5_follow_85 0 rfl rfl ?_
            refine z_iload E dX5_follow_88 6 rfl ?_
            refine z_ialdN (f := (V.2 2)) E dX5_follow_90 1 rfl (by omega) (by decide) ?_
            refine z_aload_n E dX5_follow_91 0 rfl rfl ?_
            refine gt_X5_12 (v := .ref a) E dX5_follow_92 0 rfl rfl ?_
            refine z_iload E dX5_follow_95 5 rfl ?_
            refine z_iload E dX5_follow_97 6 rfl ?_
            refine z_ro E (rV E hX (c_X4_nervesFor g a h T y ((frT T ((V.2 2)) ((V.1 1)) ((V.2 3)) y x ((T.1 1))) - 1) hsT (by omega) (hy2) (by omega)) mw_X4_nervesFor ml_X5_82 dX5_follow_99 (Nat.le_of_ble_eq_true rfl) ⟨(Nat.le_of_ble_eq_true rfl), (Nat.le_of_ble_eq_true rfl)⟩ rfl rfl (Nat.le_of_ble_eq_true rfl) 0 rfl rfl) [6, 7, 8, 9, 10] rfl (by decide) ?_
            refine z_iaddN E dX5_follow_102 ?_
            refine z_iaddN E dX5_follow_103 ?_
            refine z_istore_n (lv' := [(0, .ref v), (1, .int (nI p)), (2, .int (cm b)), (3, .int (nI (m + (((V.2 2) ((frT T ((V.2 2)) ((V.1 1)) ((V.2 3)) y x ((T.1 1))) - 1)) + (nvT T y ((frT T ((V.2 2)) ((V.1 1)) ((V.2 3)) y x ((T.1 1))) - 1)))))), (4, .int (nI x)), (5, .int (cm y)), (6, .int (nI ((frT T ((V.2 2)) ((V.1 1)) ((V.2 3)) y x ((T.1 1))) - 1)))]) E dX5_follow_104 3 rfl (by decide) rfl ?_
            refine z_aload_n E dX5_follow_105 0 rfl rfl ?_
            refine gt_X5_32 (v := .ref (k 6)) E dX5_follow_106 0 rfl rfl ?_
            refine z_aload_n E dX5_follow_109 0 rfl rfl ?_
            refine gt_X5_60 (v := .int (nI i)) E dX5_follow_110 0 rfl rfl ?_
            refine z_iload E dX5_follow_113 6 rfl ?_
            refine z_iastN (f := f) (i := i) (x := ((frT T ((V.2 2)) ((V.1 1)) ((V.2 3)) y x ((T.1 1))) - 1)) (ws' := wVoice g v k a (sA (sF (sF V 7 i) 8 t) 6 (va_up f i ((frT T ((V.2 2)) ((V.1 1)) ((V.2 3)) y x ((T.1 1))) - 1))) ++ (wTown g a h T)) E dX5_follow_115 5 rfl (by omega) (by decide) rfl ?_
            refine z_aload_n E dX5_follow_116 0 rfl rfl ?_
            refine z_dup E dX5_follow_117 rfl ?_
            refine gt_X5_60 (v := .int (nI i)) E dX5_follow_118 0 rfl rfl ?_
            refine z_iconst (v := (nI 1)) E dX5_follow_121 (by decide) ?_
            refine z_iaddN E dX5_follow_122 ?_
            refine pt_X5_60 (x := nI (i + 1)) (ws' := wVoice g v k a (sA (sF (sF V 7 (i + 1)) 8 t) 6 (va_up f i ((frT T ((V.2 2)) ((V.1 1)) ((V.2 3)) y x ((T.1 1))) - 1))) ++ (wTown g a h T)) E dX5_follow_123 0 rfl (Nat.le_of_ble_eq_true rfl) rfl ?_
            refine z_aload_n E dX5_follow_126 0 rfl rfl ?_
            refine gt_X5_12 (v := .ref a) E dX5_follow_127 0 rfl rfl ?_
            refine z_iload E dX5_follow_130 6 rfl ?_
            refine z_iload E dX5_follow_132 4 rfl ?_
            refine z_ro E (rV E hX (c_X4_otherEnd g a h T ((frT T ((V.2 2)) ((V.1 1)) ((V.2 3)) y x ((T.1 1))) - 1) x hsT (by omega) (hx2)) mw_X4_otherEnd ml_X5_116 dX5_follow_134 (Nat.le_of_ble_eq_true rfl) ⟨(Nat.le_of_ble_eq_true rfl), (Nat.le_of_ble_eq_true rfl)⟩ rfl rfl (Nat.le_of_ble_eq_true rfl) 0 rfl rfl) [6, 7, 8, 9, 10] rfl (by decide) ?_
            refine z_istore (lv' := [(0, .ref v), (1, .int (nI p)), (2, .int (cm b)), (3, .int (nI (m + (((V.2 2) ((frT T ((V.2 2)) ((V.1 1)) ((V.2 3)) y x ((T.1 1))) - 1)) + (nvT T y ((frT T ((V.2 2)) ((V.1 1)) ((V.2 3)) y x ((T.1 1))) - 1)))))), (4, .int (nI (otherT T ((frT T ((V.2 2)) ((V.1 1)) ((V.2 3)) y x ((T.1 1))) - 1) x))), (5, .int (cm y)), (6, .int (nI ((frT T ((V.2 2)) ((V.1 1)) ((V.2 3)) y x ((T.1 1))) - 1)))]) E dX5_follow_137 (by decide) rfl ?_
            refine z_iload E dX5_follow_139 6 rfl ?_
            refine z_istore (lv' := [(0, .ref v), (1, .int (nI p)), (2, .int (cm b)), (3, .int (nI (m + (((V.2 2) ((frT T ((V.2 2)) ((V.1 1)) ((V.2 3)) y x ((T.1 1))) - 1)) + (nvT T y ((frT T ((V.2 2)) ((V.1 1)) ((V.2 3)) y x ((T.1 1))) - 1)))))), (4, .int (nI (otherT T ((frT T ((V.2 2)) ((V.1 1)) ((V.2 3)) y x ((T.1 1))) - 1) x))), (5, .int (nI ((frT T ((V.2 2)) ((V.1 1)) ((V.2 3)) y x ((T.1 1))) - 1))), (6, .int (nI ((frT T ((V.2 2)) ((V.1 1)) ((V.2 3)) y x ((T.1 1))) - 1)))]) E dX5_follow_141 (by decide) rfl ?_
            refine z_goto E dX5_follow_143 18 (by decide) ?_
            refine z_lv [0, 1, 2, 3, 4, 5] rfl ?_; exact ih (i + 1) t (va_up f i ((frT T ((V.2 2)) ((V.1 1)) ((V.2 3)) y x ((T.1 1))) - 1)) (otherT T ((frT T ((V.2 2)) ((V.1 1)) ((V.2 3)) y x ((T.1 1))) - 1) x) (((frT T ((V.2 2)) ((V.1 1)) ((V.2 3)) y x ((T.1 1))) - 1) + 1) (m + (((V.2 2) ((frT T ((V.2 2)) ((V.1 1)) ((V.2 3)) y x ((T.1 1))) - 1)) + (nvT T y ((frT T ((V.2 2)) ((V.1 1)) ((V.2 3)) y x ((T.1 1))) - 1)))) (by rw [pth_s, ← hxy, show (frT T (V.2 2) (V.1 1) (V.2 3) y x (T.1 1)) - 1 + 1 = (frT T (V.2 2) (V.1 1) (V.2 3) y x (T.1 1)) by omega]; rfl) (otherT_lt hsT _ _) (by omega) (by omega) (by rw [show trn T (V.2 2) (V.1 1) (V.2 3) (p, b) (i + 1) = trn T (V.2 2) (V.1 1) (V.2 3) (p, b) i + (if isTn T (pth T (V.2 2) (V.1 1) (V.2 3) (p, b) i).2 (rdT T (V.2 2) (V.1 1) (V.2 3) (p, b) i) = true then 1 else 0) from rfl, ← hy1, rd_xy hxy, c4, ht]; rfl) (by omega) (fun j hj => by unfold va_up; split; (rename_i e; rw [e, rd_xy hxy]); exact hff j (by omega)) (fun j => by unfold va_up; split; omega; exact hfs j) (fun j hj => by rcases Nat.lt_or_ge j i with q | q; exact hg j q; rw [show j = i by omega, ← hx1]; exact c1) (fun _ => fin_s hxy hfin c1 c3) (far_s hc1 hF c1 c3 hm) (by omega)
          · refine z_aload_n E dX5_follow_73 0 rfl rfl ?_
            refine z_dup E dX5_follow_74 rfl ?_
            refine gt_X5_110 (v := .int (nI t)) E dX5_follow_75 0 rfl rfl ?_
            refine z_iconst (v := (nI 1)) E dX5_follow_78 (by decide) ?_
            refine z_iaddN E dX5_follow_79 ?_
            refine pt_X5_110 (x := nI (t + 1)) (ws' := wVoice g v k a (sA (sF (sF V 7 i) 8 (t + 1)) 6 f) ++ (wTown g a h T)) E dX5_follow_80 0 rfl (Nat.le_of_ble_eq_true rfl) rfl ?_
            refine z_iload_n E dX5_follow_83 3 rfl rfl ?_
            refine z_aload_n E dX5_follow_84 0 rfl rfl ?_
            refine gt_X5_18 (v := .ref (k 2)) E dX5_follow_85 0 rfl rfl ?_
            refine z_iload E dX5_follow_88 6 rfl ?_
            refine z_ialdN (f := (V.2 2)) E dX5_follow_90 1 rfl (by omega) (by decide) ?_
            refine z_aload_n E dX5_follow_91 0 rfl rfl ?_
            refine gt_X5_12 (v := .ref a) E dX5_follow_92 0 rfl rfl ?_
            refine z_iload E dX5_follow_95 5 rfl ?_
            refine z_iload E dX5_follow_97 6 rfl ?_
            refine z_ro E (rV E hX (c_X4_nervesFor g a h T y ((frT T ((V.2 2)) ((V.1 1)) ((V.2 3)) y x ((T.1 1))) - 1) hsT (by omega) (hy2) (by omega)) mw_X4_nervesFor ml_X5_82 dX5_follow_99 (Nat.le_of_ble_eq_true rfl) ⟨(Nat.le_of_ble_eq_true rfl), (Nat.le_of_ble_eq_true rfl)⟩ rfl rfl (Nat.le_of_ble_eq_true rfl) 0 rfl rfl) [6, 7, 8, 9, 10] rfl (by decide) ?_
            refine z_iaddN E dX5_follow_102 ?_
            refine z_iaddN E dX5_follow_103 ?_
            refine z_istore_n (lv' := [(0, .ref v), (1, .int (nI p)), (2, .int (cm b)), (3, .int (nI (m + (((V.2 2) ((frT T ((V.2 2)) ((V.1 1)) ((V.2 3)) y x ((T.1 1))) - 1)) + (nvT T y ((frT T ((V.2 2)) ((V.1 1)) ((V.2 3)) y x ((T.1 1))) - 1)))))), (4, .int (nI x)), (5, .int (cm y)), (6, .int (nI ((frT T ((V.2 2)) ((V.1 1)) ((V.2 3)) y x ((T.1 1))) - 1)))]) E dX5_follow_104 3 rfl (by decide) rfl ?_
            refine z_aload_n E dX5_follow_105 0 rfl rfl ?_
            refine gt_X5_32 (v := .ref (k 6)) E dX5_follow_106 0 rfl rfl ?_
            refine z_aload_n E dX5_follow_109 0 rfl rfl ?_
            refine gt_X5_60 (v := .int (nI i)) E dX5_follow_110 0 rfl rfl ?_
            refine z_iload E dX5_follow_113 6 rfl ?_
            refine z_iastN (f := f) (i := i) (x := ((frT T ((V.2 2)) ((V.1 1)) ((V.2 3)) y x ((T.1 1))) - 1)) (ws' := wVoice g v k a (sA (sF (sF V 7 i) 8 (t + 1)) 6 (va_up f i ((frT T ((V.2 2)) ((V.1 1)) ((V.2 3)) y x ((T.1 1))) - 1))) ++ (wTown g a h T)) E dX5_follow_115 5 rfl (by omega) (by decide) rfl ?_
            refine z_aload_n E dX5_follow_116 0 rfl rfl ?_
            refine z_dup E dX5_follow_117 rfl ?_
            refine gt_X5_60 (v := .int (nI i)) E dX5_follow_118 0 rfl rfl ?_
            refine z_iconst (v := (nI 1)) E dX5_follow_121 (by decide) ?_
            refine z_iaddN E dX5_follow_122 ?_
            refine pt_X5_60 (x := nI (i + 1)) (ws' := wVoice g v k a (sA (sF (sF V 7 (i + 1)) 8 (t + 1)) 6 (va_up f i ((frT T ((V.2 2)) ((V.1 1)) ((V.2 3)) y x ((T.1 1))) - 1))) ++ (wTown g a h T)) E dX5_follow_123 0 rfl (Nat.le_of_ble_eq_true rfl) rfl ?_
            refine z_aload_n E dX5_follow_126 0 rfl rfl ?_
            refine gt_X5_12 (v := .ref a) E dX5_follow_127 0 rfl rfl ?_
            refine z_iload E dX5_follow_130 6 rfl ?_
            refine z_iload E dX5_follow_132 4 rfl ?_
            refine z_ro E (rV E hX (c_X4_otherEnd g a h T ((frT T ((V.2 2)) ((V.1 1)) ((V.2 3)) y x ((T.1 1))) - 1) x hsT (by omega) (hx2)) mw_X4_otherEnd ml_X5_116 dX5_follow_134 (Nat.le_of_ble_eq_true rfl) ⟨(Nat.le_of_ble_eq_true rfl), (Nat.le_of_ble_eq_true rfl)⟩ rfl rfl (Nat.le_of_ble_eq_true rfl) 0 rfl rfl) [6, 7, 8, 9, 10] rfl (by decide) ?_
            refine z_istore (lv' := [(0, .ref v), (1, .int (nI p)), (2, .int (cm b)), (3, .int (nI (m + (((V.2 2) ((frT T ((V.2 2)) ((V.1 1)) ((V.2 3)) y x ((T.1 1))) - 1)) + (nvT T y ((frT T ((V.2 2)) ((V.1 1)) ((V.2 3)) y x ((T.1 1))) - 1)))))), (4, .int (nI (otherT T ((frT T ((V.2 2)) ((V.1 1)) ((V.2 3)) y x ((T.1 1))) - 1) x))), (5, .int (cm y)), (6, .int (nI ((frT T ((V.2 2)) ((V.1 1)) ((V.2 3)) y x ((T.1 1))) - 1)))]) E dX5_follow_137 (by decide) rfl ?_
            refine z_iload E dX5_follow_139 6 rfl ?_
            refine z_istore (lv' := [(0, .ref v), (1, .int (nI p)), (2, .int (cm b)), (3, .int (nI (m + (((V.2 2) ((frT T ((V.2 2)) ((V.1 1)) ((V.2 3)) y x ((T.1 1))) - 1)) + (nvT T y ((frT T ((V.2 2)) ((V.1 1)) ((V.2 3)) y x ((T.1 1))) - 1)))))), (4, .int (nI (otherT T ((frT T ((V.2 2)) ((V.1 1)) ((V.2 3)) y x ((T.1 1))) - 1) x))), (5, .int (nI ((frT T ((V.2 2)) ((V.1 1)) ((V.2 3)) y x ((T.1 1))) - 1))), (6, .int (nI ((frT T ((V.2 2)) ((V.1 1)) ((V.2 3)) y x ((T.1 1))) - 1)))]) E dX5_follow_141 (by decide) rfl ?_
            refine z_goto E dX5_follow_143 18 (by decide) ?_
            refine z_lv [0, 1, 2, 3, 4, 5] rfl ?_; exact ih (i + 1) (t + 1) (va_up f i ((frT T ((V.2 2)) ((V.1 1)) ((V.2 3)) y x ((T.1 1))) - 1)) (otherT T ((frT T ((V.2 2)) ((V.1 1)) ((V.2 3)) y x ((T.1 1))) - 1) x) (((frT T ((V.2 2)) ((V.1 1)) ((V.2 3)) y x ((T.1 1))) - 1) + 1) (m + (((V.2 2) ((frT T ((V.2 2)) ((V.1 1)) ((V.2 3)) y x ((T.1 1))) - 1)) + (nvT T y ((frT T ((V.2 2)) ((V.1 1)) ((V.2 3)) y x ((T.1 1))) - 1)))) (by rw [pth_s, ← hxy, show (frT T (V.2 2) (V.1 1) (V.2 3) y x (T.1 1)) - 1 + 1 = (frT T (V.2 2) (V.1 1) (V.2 3) y x (T.1 1)) by omega]; rfl) (otherT_lt hsT _ _) (by omega) (by omega) (by rw [show trn T (V.2 2) (V.1 1) (V.2 3) (p, b) (i + 1) = trn T (V.2 2) (V.1 1) (V.2 3) (p, b) i + (if isTn T (pth T (V.2 2) (V.1 1) (V.2 3) (p, b) i).2 (rdT T (V.2 2) (V.1 1) (V.2 3) (p, b) i) = true then 1 else 0) from rfl, ← hy1, rd_xy hxy, c4, ht]; rfl) (by omega) (fun j hj => by unfold va_up; split; (rename_i e; rw [e, rd_xy hxy]); exact hff j (by omega)) (fun j => by unfold va_up; split; omega; exact hfs j) (fun j hj => by rcases Nat.lt_or_ge j i with q | q; exact hg j q; rw [show j = i by omega, ← hx1]; exact c1) (fun _ => fin_s hxy hfin c1 c3) (far_s hc1 hF c1 c3 hm) (by omega)
        · refine z_bipush (v := (-9)) E dX5_follow_56 (by decide) ?_
          refine z_iret E Er dX5_follow_58 ?_
          exact ⟨_, rfl, _, by unfold mfE; rw [if_pos (pth_none hc1 hF hxy hg hfin c1 c3)]; rfl, rfl, i, t, f, rfl, hi, by omega, hfs, fun q => absurd q (by rw [pth_none hc1 hF hxy hg hfin c1 c3]; omega)⟩

set_option maxHeartbeats 4000000 in
set_option maxRecDepth 100000 in
theorem c_X5_follow (g : GC) (v : Nat) (k : Nat → Nat) (V : NS) (a : Nat) (h : Nat → Nat) (T : NS) (p : Nat) (b : Nat) (hsV : sm V) (hsT : sm T) (hR : T.1 1 ≤ 12) (hL : ∀ a, V.2 3 a ≤ 1000000) (hc : ∀ r, V.2 2 r ≤ 1000000) (hn : T.1 4 ≤ 1000000) (hp : p < 2 ^ 31) (hb : b < 2 ^ 31) (hF : Fix T (V.2 2) (V.1 1) (V.2 3)) (hc1 : ∀ r, r < T.1 1 → 1 ≤ V.2 2 r) : Ct g yX5_follow cX5_follow 7 (some .int) 6 0 0 [.ref v, .int (nI p), .int (cm b)] (wVoice g v k a V ++ (wTown g a h T)) (QI (fun r_ w_ => ∃ V2 : NS, r_ = (cm (mfE T (V.2 2) (V.1 1) (V.2 3) b p)) ∧ w_ = wVoice g v k a V2 ++ (wTown g a h T) ∧ (∃ (n t : Nat) (f : Nat → Nat), V2 = sA (sF (sF V 7 n) 8 t) 6 f ∧ n ≤ 24 ∧ t ≤ 24 ∧ (∀ j, f j < 2 ^ 31) ∧ (farT T (V.2 2) (V.1 1) (V.2 3) b p < 1000000 → (pth T (V.2 2) (V.1 1) (V.2 3) (p, b) n).1 = T.1 3 ∧ (∀ j, j < n → (pth T (V.2 2) (V.1 1) (V.2 3) (p, b) j).1 ≠ T.1 3) ∧ t = trn T (V.2 2) (V.1 1) (V.2 3) (p, b) n ∧ ∀ j, j < n → f j = rdT T (V.2 2) (V.1 1) (V.2 3) (p, b) j)))) := by
  refine Ct.of (by decide) (Nat.le_of_ble_eq_true rfl) ?_
  intro X E Er hX _ hnm
  have E : Ob g X cX5_follow 7 RX5 := E
  refine z_lve (lv' := [(0, .ref v), (1, .int (nI p)), (2, .int (cm b))]) rfl ?_
  refine z_aload_n E dX5_follow_0 0 rfl rfl ?_
  refine z_iconst (v := (nI 0)) E dX5_follow_1 (by decide) ?_
  refine pt_X5_60 (x := nI 0) (ws' := wVoice g v k a (sF V 7 0) ++ (wTown g a h T)) E dX5_follow_2 0 rfl (Nat.le_of_ble_eq_true rfl) rfl ?_
  refine z_aload_n E dX5_follow_5 0 rfl rfl ?_
  refine z_iconst (v := (nI 0)) E dX5_follow_6 (by decide) ?_
  refine pt_X5_110 (x := nI 0) (ws' := wVoice g v k a (sF (sF V 7 0) 8 0) ++ (wTown g a h T)) E dX5_follow_7 0 rfl (Nat.le_of_ble_eq_true rfl) rfl ?_
  refine z_iconst (v := (nI 0)) E dX5_follow_10 (by decide) ?_
  refine z_istore_n (lv' := [(0, .ref v), (1, .int (nI p)), (2, .int (cm b)), (3, .int (nI 0))]) E dX5_follow_11 3 rfl (by decide) rfl ?_
  refine z_iload_n E dX5_follow_12 1 rfl rfl ?_
  refine z_istore (lv' := [(0, .ref v), (1, .int (nI p)), (2, .int (cm b)), (3, .int (nI 0)), (4, .int (nI p))]) E dX5_follow_13 (by decide) rfl ?_
  refine z_iload_n E dX5_follow_15 2 rfl rfl ?_
  refine z_istore (lv' := [(0, .ref v), (1, .int (nI p)), (2, .int (cm b)), (3, .int (nI 0)), (4, .int (nI p)), (5, .int (cm b))]) E dX5_follow_16 (by decide) rfl ?_
  refine l_follow g v k V a h T p b hsV hsT hR hL hc hn hp hb hF hc1 X E hX Er (fun i t f m hmm hi htl hfs hP => ?_) 25 0 0 (V.2 6) p b 0 rfl hp hb (by omega) rfl (by omega) (fun j hj => absurd hj (Nat.not_lt_zero j)) (hsV.2 6) (fun j hj => absurd hj (Nat.not_lt_zero j)) (fun q => absurd q (Nat.lt_irrefl 0)) (fun _ => Nat.zero_add _) (by omega)
  refine z_iload_n E dX5_follow_146 3 rfl rfl ?_
  refine z_iret E Er dX5_follow_147 ?_
  exact ⟨_, rfl, _, by rw [← hmm]; rfl, rfl, i, t, f, rfl, hi, htl, hfs, hP⟩

def sqR (f : Nat → Nat) (n : Nat) : Nat → Nat
  | 0 => 0
  | i + 1 => sqR f n i + cR f n i * cR f n i
theorem sqR_le (f : Nat → Nat) (n : Nat) (hn : n ≤ 24) : ∀ i, sqR f n i ≤ 576 * i
  | 0 => Nat.le_refl _
  | i + 1 => by
    have h1 := sqR_le f n hn i
    have h2 := cR_le f n i
    have h3 : cR f n i * cR f n i ≤ 24 * 24 := Nat.mul_le_mul (by omega) (by omega)
    unfold sqR
    omega

set_option maxHeartbeats 4000000 in
set_option maxRecDepth 100000 in
theorem l_meet1 (g : GC) (v : Nat) (k : Nat → Nat) (V : NS) (t : Nat) (hsV : sm V) (hl : V.1 7 ≤ 24) (hrow : ∀ i, i < V.1 7 → V.2 6 i < 12) (X : XC) (E : Ob g X cX5_meetingsInRow 3 RX5) (hX : X.2.2.1 = zR 0 0 0) (K : ∀ (f : Nat → Nat), (∀ j, j < 12 → f j = 0) → (∀ j, f j < 2 ^ 31) → Z g X 3 0 0 (wVoice g v k t (sA V 5 f)) [(0, .ref v)] [] 21) : ∀ (n : Nat) (i : Nat) (f : Nat → Nat), (i ≤ 12) → (∀ j, j < i → f j = 0) → (∀ j, f j < 2 ^ 31) → (12 < i + n) → Z g X 3 0 0 (wVoice g v k t (sA V 5 f)) [(0, .ref v), (1, .int (nI i))] [] 2 := by
  intro n
  induction n with
  | zero =>
    intro i f hi hf0 hfs hf
    exfalso; omega
  | succ n ih =>
    intro i f hi hf0 hfs hf
    refine z_iload_n E dX5_meetingsInRow_2 1 rfl rfl ?_
    refine z_bipush (v := (nI 12)) E dX5_meetingsInRow_3 (by decide) ?_
    refine z_icmpN_ge E dX5_meetingsInRow_5 21 (by decide) (by omega) (by decide) (fun c1 => ?_) (fun c1 => ?_)
    · refine z_lv [0] rfl ?_; exact K f (fun j hj => hf0 j (by omega)) hfs
    · refine z_aload_n E dX5_meetingsInRow_8 0 rfl rfl ?_
      refine gt_X5_29 (v := .ref (k 5)) E dX5_meetingsInRow_9 0 rfl rfl ?_
      refine z_iload_n E dX5_meetingsInRow_12 1 rfl rfl ?_
      refine z_iconst (v := (nI 0)) E dX5_meetingsInRow_13 (by decide) ?_
      refine z_iastN (f := f) (i := i) (x := 0) (ws' := wVoice g v k t (sA V 5 (va_up f i 0))) E dX5_meetingsInRow_14 4 rfl (by omega) (by decide) rfl ?_
      refine z_iincN (lv' := [(0, .ref v), (1, .int (nI (i + 1)))]) E dX5_meetingsInRow_15 1 rfl (by decide) rfl ?_
      refine z_goto E dX5_meetingsInRow_18 2 (by decide) ?_
      exact ih (i + 1) (va_up f i 0) (by omega) (fun j hj => by unfold va_up; split; rfl; exact hf0 j (by omega)) (fun j => by unfold va_up; split; decide; exact hfs j) (by omega)

set_option maxHeartbeats 4000000 in
set_option maxRecDepth 100000 in
theorem l_meet2 (g : GC) (v : Nat) (k : Nat → Nat) (V : NS) (t : Nat) (hsV : sm V) (hl : V.1 7 ≤ 24) (hrow : ∀ i, i < V.1 7 → V.2 6 i < 12) (X : XC) (E : Ob g X cX5_meetingsInRow 3 RX5) (hX : X.2.2.1 = zR 0 0 0) (K : ∀ (f : Nat → Nat), (∀ r, r < 12 → f r = cR (V.2 6) (V.1 7) r) → (∀ j, f j < 2 ^ 31) → Z g X 3 0 0 (wVoice g v k t (sA V 5 f)) [(0, .ref v)] [] 52) : ∀ (n : Nat) (i : Nat) (f : Nat → Nat), (i ≤ V.1 7) → (∀ r, r < 12 → f r = cR (V.2 6) i r) → (∀ j, f j < 2 ^ 31) → (V.1 7 < i + n) → Z g X 3 0 0 (wVoice g v k t (sA V 5 f)) [(0, .ref v), (1, .int (nI i))] [] 23 := by
  intro n
  induction n with
  | zero =>
    intro i f hi hf0 hfs hf
    exfalso; omega
  | succ n ih =>
    intro i f hi hf0 hfs hf
    refine z_iload_n E dX5_meetingsInRow_23 1 rfl rfl ?_
    refine z_aload_n E dX5_meetingsInRow_24 0 rfl rfl ?_
    refine gt_X5_60 (v := .int (nI (V.1 7))) E dX5_meetingsInRow_25 0 rfl rfl ?_
    refine z_icmpN_ge E dX5_meetingsInRow_28 52 (by decide) (by omega) (hsV.1 _) (fun c1 => ?_) (fun c1 => ?_)
    · refine z_lv [0] rfl ?_; exact K f (by rw [show V.1 7 = i by omega]; exact hf0) hfs
    · refine z_aload_n E dX5_meetingsInRow_31 0 rfl rfl ?_
      refine gt_X5_29 (v := .ref (k 5)) E dX5_meetingsInRow_32 0 rfl rfl ?_
      refine z_aload_n E dX5_meetingsInRow_35 0 rfl rfl ?_
      refine gt_X5_32 (v := .ref (k 6)) E dX5_meetingsInRow_36 0 rfl rfl ?_
      refine z_iload_n E dX5_meetingsInRow_39 1 rfl rfl ?_
      refine z_ialdN (f := (V.2 6)) E dX5_meetingsInRow_40 5 rfl (by omega) (by decide) ?_
      refine z_dup2 E dX5_meetingsInRow_41 rfl rfl ?_
      refine z_ialdN (f := f) E dX5_meetingsInRow_42 4 rfl (hrow i (by omega)) (by decide) ?_
      refine z_iconst (v := (nI 1)) E dX5_meetingsInRow_43 (by decide) ?_
      refine z_iaddN E dX5_meetingsInRow_44 ?_
      refine z_iastN (f := f) (i := ((V.2 6) i)) (x := ((f ((V.2 6) i)) + 1)) (ws' := wVoice g v k t (sA V 5 (va_up f ((V.2 6) i) ((f ((V.2 6) i)) + 1)))) E dX5_meetingsInRow_45 4 rfl (hrow i (by omega)) (by decide) rfl ?_
      refine z_iincN (lv' := [(0, .ref v), (1, .int (nI (i + 1)))]) E dX5_meetingsInRow_46 1 rfl (by decide) rfl ?_
      refine z_goto E dX5_meetingsInRow_49 23 (by decide) ?_
      exact ih (i + 1) (va_up f ((V.2 6) i) ((f ((V.2 6) i)) + 1)) (by omega) (fun r hr => by rw [cR_s]; unfold va_up; by_cases e : r = V.2 6 i; (rw [if_pos e, if_pos e.symm, ← e, hf0 r hr]); (rw [if_neg e, if_neg (fun z => e z.symm), hf0 r hr, Nat.add_zero])) (fun j => by unfold va_up; split; (have h9 := hf0 (V.2 6 i) (hrow i (by omega)); have h8 := cR_le (V.2 6) i (V.2 6 i); omega); exact hfs j) (by omega)

set_option maxHeartbeats 4000000 in
set_option maxRecDepth 100000 in
theorem l_meet3 (g : GC) (v : Nat) (k : Nat → Nat) (V : NS) (t : Nat) (hsV : sm V) (hl : V.1 7 ≤ 24) (hrow : ∀ i, i < V.1 7 → V.2 6 i < 12) (X : XC) (E : Ob g X cX5_meetingsInRow 3 RX5) (hX : X.2.2.1 = zR 0 0 0) (K : ∀ (q : Nat) (f : Nat → Nat), (q = sqR (V.2 6) (V.1 7) 12) → (∀ j, f j < 2 ^ 31) → Z g X 3 0 0 (wVoice g v k t (sA V 5 f)) [(0, .ref v), (1, .int (nI q))] [] 84) : ∀ (n : Nat) (i : Nat) (q : Nat) (f : Nat → Nat), (i ≤ 12) → (q = sqR (V.2 6) (V.1 7) i) → (∀ r, r < 12 → f r = cR (V.2 6) (V.1 7) r) → (∀ j, f j < 2 ^ 31) → (12 < i + n) → Z g X 3 0 0 (wVoice g v k t (sA V 5 f)) [(0, .ref v), (1, .int (nI q)), (2, .int (nI i))] [] 56 := by
  intro n
  induction n with
  | zero =>
    intro i q f hi hq hf0 hfs hf
    exfalso; omega
  | succ n ih =>
    intro i q f hi hq hf0 hfs hf
    refine z_iload_n E dX5_meetingsInRow_56 2 rfl rfl ?_
    refine z_bipush (v := (nI 12)) E dX5_meetingsInRow_57 (by decide) ?_
    refine z_icmpN_ge E dX5_meetingsInRow_59 84 (by decide) (by omega) (by decide) (fun c1 => ?_) (fun c1 => ?_)
    · refine z_lv [0, 1] rfl ?_; exact K q f (by rw [hq, show i = 12 by omega]) hfs
    · refine z_iload_n E dX5_meetingsInRow_62 1 rfl rfl ?_
      refine z_aload_n E dX5_meetingsInRow_63 0 rfl rfl ?_
      refine gt_X5_29 (v := .ref (k 5)) E dX5_meetingsInRow_64 0 rfl rfl ?_
      refine z_iload_n E dX5_meetingsInRow_67 2 rfl rfl ?_
      refine z_ialdN (f := f) E dX5_meetingsInRow_68 4 rfl (by omega) (by decide) ?_
      refine z_aload_n E dX5_meetingsInRow_69 0 rfl rfl ?_
      refine gt_X5_29 (v := .ref (k 5)) E dX5_meetingsInRow_70 0 rfl rfl ?_
      refine z_iload_n E dX5_meetingsInRow_73 2 rfl rfl ?_
      refine z_ialdN (f := f) E dX5_meetingsInRow_74 4 rfl (by omega) (by decide) ?_
      refine z_imulN E dX5_meetingsInRow_75 ?_
      refine z_iaddN E dX5_meetingsInRow_76 ?_
      refine z_istore_n (lv' := [(0, .ref v), (1, .int (nI (q + ((f i) * (f i))))), (2, .int (nI i))]) E dX5_meetingsInRow_77 1 rfl (by decide) rfl ?_
      refine z_iincN (lv' := [(0, .ref v), (1, .int (nI (q + ((f i) * (f i))))), (2, .int (nI (i + 1)))]) E dX5_meetingsInRow_78 2 rfl (by decide) rfl ?_
      refine z_goto E dX5_meetingsInRow_81 56 (by decide) ?_
      exact ih (i + 1) (q + ((f i) * (f i))) f (by omega) (by rw [show sqR (V.2 6) (V.1 7) (i + 1) = sqR (V.2 6) (V.1 7) i + cR (V.2 6) (V.1 7) i * cR (V.2 6) (V.1 7) i from rfl, ← hf0 i (by omega), ← hq]) hf0 hfs (by omega)

set_option maxHeartbeats 4000000 in
set_option maxRecDepth 100000 in
theorem c_X5_meetingsInRow (g : GC) (v : Nat) (k : Nat → Nat) (V : NS) (t : Nat) (hsV : sm V) (hl : V.1 7 ≤ 24) (hrow : ∀ i, i < V.1 7 → V.2 6 i < 12) : Ct g yX5_meetingsInRow cX5_meetingsInRow 3 (some .int) 0 0 0 [.ref v] (wVoice g v k t V) (QI (fun r_ w_ => ∃ V2 : NS, r_ = (nI (sqR (V.2 6) (V.1 7) 12)) ∧ w_ = wVoice g v k t V2 ∧ (∃ f, V2 = sA V 5 f ∧ ∀ j, f j < 2 ^ 31))) := by
  refine Ct.of (by decide) (Nat.le_of_ble_eq_true rfl) ?_
  intro X E Er hX _ hnm
  have E : Ob g X cX5_meetingsInRow 3 RX5 := E
  refine z_lve (lv' := [(0, .ref v)]) rfl ?_
  refine z_iconst (v := (nI 0)) E dX5_meetingsInRow_0 (by decide) ?_
  refine z_istore_n (lv' := [(0, .ref v), (1, .int (nI 0))]) E dX5_meetingsInRow_1 1 rfl (by decide) rfl ?_
  refine l_meet1 g v k V t hsV hl hrow X E hX (fun f hf0 hfs => ?_) 13 0 (V.2 5) (by omega) (fun j hj => absurd hj (Nat.not_lt_zero j)) (hsV.2 5) (by omega)
  refine z_iconst (v := (nI 0)) E dX5_meetingsInRow_21 (by decide) ?_
  refine z_istore_n (lv' := [(0, .ref v), (1, .int (nI 0))]) E dX5_meetingsInRow_22 1 rfl (by decide) rfl ?_
  refine l_meet2 g v k V t hsV hl hrow X E hX (fun f hf0 hfs => ?_) (V.1 7 + 1) 0 f (by omega) (fun r hr => by rw [hf0 r hr]; rfl) hfs (by omega)
  refine z_iconst (v := (nI 0)) E dX5_meetingsInRow_52 (by decide) ?_
  refine z_istore_n (lv' := [(0, .ref v), (1, .int (nI 0))]) E dX5_meetingsInRow_53 1 rfl (by decide) rfl ?_
  refine z_iconst (v := (nI 0)) E dX5_meetingsInRow_54 (by decide) ?_
  refine z_istore_n (lv' := [(0, .ref v), (1, .int (nI 0)), (2, .int (nI 0))]) E dX5_meetingsInRow_55 2 rfl (by decide) rfl ?_
  refine l_meet3 g v k V t hsV hl hrow X E hX (fun q f hq hfs => ?_) 13 0 0 f (by omega) rfl hf0 hfs (by omega)
  refine z_iload_n E dX5_meetingsInRow_84 1 rfl rfl ?_
  refine z_iret E Er dX5_meetingsInRow_85 ?_
  exact ⟨_, rfl, _, by rw [hq], rfl, f, rfl, hfs⟩
