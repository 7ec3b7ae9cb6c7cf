def tuF (T P : NS) : Nat → Nat
  | 0 => 1 <<< P.1 0
  | i + 1 => orF T (opn T P) (tuF T P i) (T.1 1)
def whF (T P W : NS) : Nat → Nat
  | 0 => asF W (1 <<< P.1 0) 0 (W.1 11)
  | i + 1 => asF W (orF T (opn T P) (whF T P W i) (T.1 1)) (i + 1) (W.1 11)
theorem sh8 {p : Nat} (h : p < 8) : 1 <<< p < 256 := by rw [Nat.one_shiftLeft]; exact Nat.pow_lt_pow_right (a := 2) (by decide) h
theorem tuF_lt {T P : NS} (hT : tdI T) (h : P.1 0 < T.1 0) : ∀ i, tuF T P i < 256
  | 0 => sh8 (Nat.lt_of_lt_of_le h hT.2.1.2)
  | i + 1 => orF_lt hT _ _ _ (Nat.le_refl _)
theorem whF_lt {T P W : NS} (hT : tdI T) (h : P.1 0 < T.1 0) : ∀ i, whF T P W i < 256
  | 0 => Nat.lt_of_le_of_lt (asF_le _ _ _ _) (sh8 (Nat.lt_of_lt_of_le h hT.2.1.2))
  | i + 1 => Nat.lt_of_le_of_lt (asF_le _ _ _ _) (orF_lt hT _ _ _ (Nat.le_refl _))
/-- what always holds of what was planned and SEEN -/
def tvI (T W : NS) : Prop := W.1 8 ≤ 8 ∧ W.1 11 ≤ 5 ∧ (∀ i, i < W.1 8 → W.2 7 i < T.1 1) ∧ (∀ i, i < W.1 11 → W.2 9 i ≤ 8 ∧ W.2 10 i < T.1 0) ∧ ∀ i, W.2 13 i ≤ 1

set_option maxHeartbeats 4000000 in
set_option maxRecDepth 100000 in
theorem l_tunnel (g : GC) (x : Nat) (y : Nat → Nat) (W : NS) (rd : Nat) (dr : Nat) (pa : Nat) (vo : Nat) (ch : Nat) (im : Nat → Nat) (a : Nat) (h : Nat → Nat) (T : NS) (p : Nat) (q : Nat → Nat) (P : NS) (n2 : Nat) (hT : tdI T) (hP : pnI T P) (hn2 : n2 ≤ 8) (c1 : wi (nI n2) (nI 0) (nI 8) = true) (X : XC) (E : Ob g X cX6_tunnel 4 RX6) (hX : X.2.2.1 = zR 3 0 0) (K : ∀ (z : Nat), (z = tuF T P n2) → Z g X 4 0 0 (wTV g x y rd a dr p pa vo ch im W ++ (wTown g a h T ++ (wPres g p q P))) [(0, .ref x), (1, .int (nI n2)), (2, .int (nI z))] [] 41) : ∀ (n : Nat) (i : Nat) (z : Nat), (1 ≤ i ∧ i ≤ n2 + 1) → (z = tuF T P (i - 1)) → (n2 + 1 < i + n) → Z g X 4 0 0 (wTV g x y rd a dr p pa vo ch im W ++ (wTown g a h T ++ (wPres g p q P))) [(0, .ref x), (1, .int (nI n2)), (2, .int (nI z)), (3, .int (nI i))] [] 24 := by
  intro n
  induction n with
  | zero =>
    intro i z hi hz hf
    have hzl := tuF_lt hT hP.2.1 (i - 1)
    exfalso; omega
  | succ n ih =>
    intro i z hi hz hf
    have hzl := tuF_lt hT hP.2.1 (i - 1)
    refine z_iload_n E dX6_tunnel_24 3 rfl rfl ?_
    refine z_iload_n E dX6_tunnel_25 1 rfl rfl ?_
    refine z_icmpN_gt E dX6_tunnel_26 41 (by decide) (by omega) (by omega) (fun c1 => ?_) (fun c1 => ?_)
    · refine z_lv [0, 1, 2] rfl ?_; exact K z (by rw [hz, show i - 1 = n2 by omega])
    · refine z_aload_n E dX6_tunnel_29 0 rfl rfl ?_
      refine z_iload_n E dX6_tunnel_30 2 rfl rfl ?_
      refine z_ro0 E (rV E hX (c_X6_oneRoadOn g x y W rd dr pa vo ch im a h T p q P z (by assumption) (by omega)) mw_X6_oneRoadOn ml_X6_223 dX6_tunnel_31 (Nat.le_of_ble_eq_true rfl) ⟨(Nat.le_of_ble_eq_true rfl), (Nat.le_of_ble_eq_true rfl)⟩ rfl rfl (Nat.le_of_ble_eq_true rfl) 0 rfl rfl) ?_
      refine z_istore_n (lv' := [(0, .ref x), (1, .int (nI n2)), (2, .int (nI (orF T (opn T P) z ((T.1 1))))), (3, .int (nI i))]) E dX6_tunnel_34 2 rfl (by decide) rfl ?_
      refine z_iincN (lv' := [(0, .ref x), (1, .int (nI n2)), (2, .int (nI (orF T (opn T P) z ((T.1 1))))), (3, .int (nI (i + 1)))]) E dX6_tunnel_35 3 rfl (by decide) rfl ?_
      refine z_goto E dX6_tunnel_38 24 (by decide) ?_
      exact ih (i + 1) (orF T (opn T P) z ((T.1 1))) (by omega) (by rw [hz]; show _ = tuF T P (i + 1 - 1); rw [show i + 1 - 1 = (i - 1) + 1 by omega]; rfl) (by omega)

set_option maxHeartbeats 4000000 in
set_option maxRecDepth 100000 in
theorem c_X6_tunnel (g : GC) (x : Nat) (y : Nat → Nat) (W : NS) (rd : Nat) (dr : Nat) (pa : Nat) (vo : Nat) (ch : Nat) (im : Nat → Nat) (a : Nat) (h : Nat → Nat) (T : NS) (p : Nat) (q : Nat → Nat) (P : NS) (n : Int32) (hT : tdI T) (hP : pnI T P) : Ct g yX6_tunnel cX6_tunnel 4 (some .int) 3 0 0 [.ref x, .int n] (wTV g x y rd a dr p pa vo ch im W ++ (wTown g a h T ++ (wPres g p q P))) (DI (if wi n (nI 0) (nI 8) = true then nI (tuF T P n.toNatClampNeg) else -1) (wTV g x y rd a dr p pa vo ch im W ++ (wTown g a h T ++ (wPres g p q P)))) := by
  refine Ct.of (by decide) (Nat.le_of_ble_eq_true rfl) ?_
  intro X E Er hX _ hnm
  have E : Ob g X cX6_tunnel 4 RX6 := E
  have hR := hT.2.2.1
  have hs4 := hP.s4 hT
  have hb := hT.2.1.2
  have hp0 := hP.2.1
  have hp1 := hP.2.2.1
  refine z_lve (lv' := [(0, .ref x), (1, .int n)]) rfl ?_
  refine z_iload_n E dX6_tunnel_0 1 rfl rfl ?_
  refine z_iconst (v := (nI 0)) E dX6_tunnel_1 (by decide) ?_
  refine z_bipush (v := (nI 8)) E dX6_tunnel_2 (by decide) ?_
  refine z_se E (rS E hX (c_X6_isWithin g n (nI 0) (nI 8)) mw_X6_isWithin ms_X6_isWithin ml_X6_80 dX6_tunnel_4 (Nat.le_of_ble_eq_true rfl) ⟨(Nat.le_of_ble_eq_true rfl), (Nat.le_of_ble_eq_true rfl)⟩ rfl rfl (Nat.le_of_ble_eq_true rfl)) ?_
  refine z_ifB_ne E dX6_tunnel_7 12 (by decide) (fun c1 => ?_) (fun c1 => ?_)
  · obtain ⟨n2, -, hn2, rfl⟩ := wi_nI (by decide) (by decide) c1
    refine z_iconst (v := (nI 1)) E dX6_tunnel_12 (by decide) ?_
    refine z_aload_n E dX6_tunnel_13 0 rfl rfl ?_
    refine gt_X6_29 (v := .ref p) E dX6_tunnel_14 0 rfl rfl ?_
    refine gt_X6_133 (v := .int (nI (P.1 0))) E dX6_tunnel_17 11 rfl rfl ?_
    refine z_ishlN E dX6_tunnel_20 (by omega) ?_
    refine z_istore_n (lv' := [(0, .ref x), (1, .int (nI n2)), (2, .int (nI (1 <<< (P.1 0))))]) E dX6_tunnel_21 2 rfl (by decide) rfl ?_
    refine z_iconst (v := (nI 1)) E dX6_tunnel_22 (by decide) ?_
    refine z_istore_n (lv' := [(0, .ref x), (1, .int (nI n2)), (2, .int (nI (1 <<< (P.1 0)))), (3, .int (nI 1))]) E dX6_tunnel_23 3 rfl (by decide) rfl ?_
    refine l_tunnel g x y W rd dr pa vo ch im a h T p q P n2 hT hP hn2 c1 X E hX (fun z hz => ?_) (n2 + 2) 1 (1 <<< (P.1 0)) (by omega) rfl (by omega)
    refine z_iload_n E dX6_tunnel_41 2 rfl rfl ?_
    refine z_iret E Er dX6_tunnel_42 ?_
    exact ⟨by rw [if_pos c1, nI_clamp (by omega), hz], rfl⟩
  · refine z_iconst (v := (-1)) E dX6_tunnel_10 (by decide) ?_
    refine z_iret E Er dX6_tunnel_11 ?_
    exact ⟨by rw [if_neg (show ¬ wi n (nI 0) (nI 8) = true by rw [c1]; decide)], rfl⟩

set_option maxHeartbeats 4000000 in
set_option maxRecDepth 100000 in
theorem l_where (g : GC) (x : Nat) (y : Nat → Nat) (W : NS) (rd : Nat) (dr : Nat) (pa : Nat) (vo : Nat) (ch : Nat) (im : Nat → Nat) (a : Nat) (h : Nat → Nat) (T : NS) (p : Nat) (q : Nat → Nat) (P : NS) (n2 : Nat) (hT : tdI T) (hP : pnI T P) (hW : tvI T W) (hn2 : n2 ≤ 8) (c1 : wi (nI n2) (nI 0) (nI 8) = true) (X : XC) (E : Ob g X cX6_where 4 RX6) (hX : X.2.2.1 = zR 3 0 0) (K : ∀ (z : Nat), (z = whF T P W n2) → Z g X 4 0 0 (wTV g x y rd a dr p pa vo ch im W ++ (wTown g a h T ++ (wPres g p q P))) [(0, .ref x), (1, .int (nI n2)), (2, .int (nI z))] [] 51) : ∀ (n : Nat) (i : Nat) (z : Nat), (1 ≤ i ∧ i ≤ n2 + 1) → (z = whF T P W (i - 1)) → (n2 + 1 < i + n) → Z g X 4 0 0 (wTV g x y rd a dr p pa vo ch im W ++ (wTown g a h T ++ (wPres g p q P))) [(0, .ref x), (1, .int (nI n2)), (2, .int (nI z)), (3, .int (nI i))] [] 29 := by
  intro n
  induction n with
  | zero =>
    intro i z hi hz hf
    have hzl := whF_lt (W := W) hT hP.2.1 (i - 1)
    exfalso; omega
  | succ n ih =>
    intro i z hi hz hf
    have hzl := whF_lt (W := W) hT hP.2.1 (i - 1)
    refine z_iload_n E dX6_where_29 3 rfl rfl ?_
    refine z_iload_n E dX6_where_30 1 rfl rfl ?_
    refine z_icmpN_gt E dX6_where_31 51 (by decide) (by omega) (by omega) (fun c1 => ?_) (fun c1 => ?_)
    · refine z_lv [0, 1, 2] rfl ?_; exact K z (by rw [hz, show i - 1 = n2 by omega])
    · refine z_aload_n E dX6_where_34 0 rfl rfl ?_
      refine z_aload_n E dX6_where_35 0 rfl rfl ?_
      refine z_iload_n E dX6_where_36 2 rfl rfl ?_
      refine z_ro0 E (rV E hX (c_X6_oneRoadOn g x y W rd dr pa vo ch im a h T p q P z (by assumption) (by omega)) mw_X6_oneRoadOn ml_X6_223 dX6_where_37 (Nat.le_of_ble_eq_true rfl) ⟨(Nat.le_of_ble_eq_true rfl), (Nat.le_of_ble_eq_true rfl)⟩ rfl rfl (Nat.le_of_ble_eq_true rfl) 0 rfl rfl) ?_
      refine z_iload_n E dX6_where_40 3 rfl rfl ?_
      refine z_fro (ws := wTV g x y rd a dr p pa vo ch im W ++ (wTown g a h T ++ (wPres g p q P))) (cs := [wTV g x y rd a dr p pa vo ch im W, wTown g a h T, wPres g p q P]) (ds := [wTV g x y rd a dr p pa vo ch im W]) (rs := [wTown g a h T, wPres g p q P]) E [0] rfl rfl (rV E hX (c_X6_asSeen g x y W rd a dr p pa vo ch im (orF T (opn T P) z ((T.1 1))) i hW.2.1 (by omega) (fun i hi => ⟨(hW.2.2.2.1 i hi).1, Nat.lt_of_lt_of_le (hW.2.2.2.1 i hi).2 hT.2.1.2⟩)) mw_X6_asSeen ml_X6_229 dX6_where_41 (Nat.le_of_ble_eq_true rfl) ⟨(Nat.le_of_ble_eq_true rfl), (Nat.le_of_ble_eq_true rfl)⟩ rfl rfl (Nat.le_of_ble_eq_true rfl) 0 rfl rfl) ?_
      refine z_istore_n (lv' := [(0, .ref x), (1, .int (nI n2)), (2, .int (nI (asF W (orF T (opn T P) z ((T.1 1))) i ((W.1 11))))), (3, .int (nI i))]) E dX6_where_44 2 rfl (by decide) rfl ?_
      refine z_iincN (lv' := [(0, .ref x), (1, .int (nI n2)), (2, .int (nI (asF W (orF T (opn T P) z ((T.1 1))) i ((W.1 11))))), (3, .int (nI (i + 1)))]) E dX6_where_45 3 rfl (by decide) rfl ?_
      refine z_goto E dX6_where_48 29 (by decide) ?_
      exact ih (i + 1) (asF W (orF T (opn T P) z ((T.1 1))) i ((W.1 11))) (by omega) (by rw [hz]; show _ = whF T P W (i + 1 - 1); rw [show i + 1 - 1 = (i - 1) + 1 by omega]; show _ = asF W _ ((i - 1) + 1) (W.1 11); rw [show i - 1 + 1 = i by omega]) (by omega)

set_option maxHeartbeats 4000000 in
set_option maxRecDepth 100000 in
theorem c_X6_where (g : GC) (x : Nat) (y : Nat → Nat) (W : NS) (rd : Nat) (dr : Nat) (pa : Nat) (vo : Nat) (ch : Nat) (im : Nat → Nat) (a : Nat) (h : Nat → Nat) (T : NS) (p : Nat) (q : Nat → Nat) (P : NS) (n : Int32) (hT : tdI T) (hP : pnI T P) (hW : tvI T W) : Ct g yX6_where cX6_where 4 (some .int) 3 0 0 [.ref x, .int n] (wTV g x y rd a dr p pa vo ch im W ++ (wTown g a h T ++ (wPres g p q P))) (DI (if wi n (nI 0) (nI 8) = true then nI (whF T P W n.toNatClampNeg) else -1) (wTV g x y rd a dr p pa vo ch im W ++ (wTown g a h T ++ (wPres g p q P)))) := by
  refine Ct.of (by decide) (Nat.le_of_ble_eq_true rfl) ?_
  intro X E Er hX _ hnm
  have E : Ob g X cX6_where 4 RX6 := E
  have hR := hT.2.2.1
  have hs4 := hP.s4 hT
  have hb := hT.2.1.2
  have hp0 := hP.2.1
  have hp1 := hP.2.2.1
  refine z_lve (lv' := [(0, .ref x), (1, .int n)]) rfl ?_
  refine z_iload_n E dX6_where_0 1 rfl rfl ?_
  refine z_iconst (v := (nI 0)) E dX6_where_1 (by decide) ?_
  refine z_bipush (v := (nI 8)) E dX6_where_2 (by decide) ?_
  refine z_se E (rS E hX (c_X6_isWithin g n (nI 0) (nI 8)) mw_X6_isWithin ms_X6_isWithin ml_X6_80 dX6_where_4 (Nat.le_of_ble_eq_true rfl) ⟨(Nat.le_of_ble_eq_true rfl), (Nat.le_of_ble_eq_true rfl)⟩ rfl rfl (Nat.le_of_ble_eq_true rfl)) ?_
  refine z_ifB_ne E dX6_where_7 12 (by decide) (fun c1 => ?_) (fun c1 => ?_)
  · obtain ⟨n2, -, hn2, rfl⟩ := wi_nI (by decide) (by decide) c1
    refine z_aload_n E dX6_where_12 0 rfl rfl ?_
    refine z_iconst (v := (nI 1)) E dX6_where_13 (by decide) ?_
    refine z_aload_n E dX6_where_14 0 rfl rfl ?_
    refine gt_X6_29 (v := .ref p) E dX6_where_15 0 rfl rfl ?_
    refine gt_X6_133 (v := .int (nI (P.1 0))) E dX6_where_18 11 rfl rfl ?_
    refine z_ishlN E dX6_where_21 (by omega) ?_
    refine z_iconst (v := (nI 0)) E dX6_where_22 (by decide) ?_
    refine z_fro (ws := wTV g x y rd a dr p pa vo ch im W ++ (wTown g a h T ++ (wPres g p q P))) (cs := [wTV g x y rd a dr p pa vo ch im W, wTown g a h T, wPres g p q P]) (ds := [wTV g x y rd a dr p pa vo ch im W]) (rs := [wTown g a h T, wPres g p q P]) E [0] rfl rfl (rV E hX (c_X6_asSeen g x y W rd a dr p pa vo ch im (1 <<< (P.1 0)) 0 hW.2.1 (by decide) (fun i hi => ⟨(hW.2.2.2.1 i hi).1, Nat.lt_of_lt_of_le (hW.2.2.2.1 i hi).2 hT.2.1.2⟩)) mw_X6_asSeen ml_X6_229 dX6_where_23 (Nat.le_of_ble_eq_true rfl) ⟨(Nat.le_of_ble_eq_true rfl), (Nat.le_of_ble_eq_true rfl)⟩ rfl rfl (Nat.le_of_ble_eq_true rfl) 0 rfl rfl) ?_
    refine z_istore_n (lv' := [(0, .ref x), (1, .int (nI n2)), (2, .int (nI (asF W (1 <<< (P.1 0)) 0 ((W.1 11)))))]) E dX6_where_26 2 rfl (by decide) rfl ?_
    refine z_iconst (v := (nI 1)) E dX6_where_27 (by decide) ?_
    refine z_istore_n (lv' := [(0, .ref x), (1, .int (nI n2)), (2, .int (nI (asF W (1 <<< (P.1 0)) 0 ((W.1 11))))), (3, .int (nI 1))]) E dX6_where_28 3 rfl (by decide) rfl ?_
    refine l_where g x y W rd dr pa vo ch im a h T p q P n2 hT hP hW hn2 c1 X E hX (fun z hz => ?_) (n2 + 2) 1 (asF W (1 <<< (P.1 0)) 0 ((W.1 11))) (by omega) rfl (by omega)
    refine z_iload_n E dX6_where_51 2 rfl rfl ?_
    refine z_iret E Er dX6_where_52 ?_
    exact ⟨by rw [if_pos c1, nI_clamp (by omega), hz], rfl⟩
  · refine z_iconst (v := (-1)) E dX6_where_10 (by decide) ?_
    refine z_iret E Er dX6_where_11 ?_
    exact ⟨by rw [if_neg (show ¬ wi n (nI 0) (nI 8) = true by rw [c1]; decide)], rfl⟩

theorem tdI.wf {T : NS} (h : tdI T) : wfT T := ⟨h.2.2.1, fun r hr => (h.2.2.2.2.2.2.2.2.2 r hr).2.2.1⟩
noncomputable def onV (T P : NS) (r : Int32) : Int32 := if (hasR T r && canT T P r.toNatClampNeg (P.1 0)) = true then cm (mbV T (cT T P) (opn T P) (P.1 1) (P.1 0) r.toNatClampNeg) else -1
noncomputable def roV (T P : NS) : Int32 := if P.1 0 = T.1 3 then -9 else if frV T (cT T P) (opn T P) (P.1 1) (P.1 0) = 0 then -9 else if frV T (cT T P) (opn T P) (P.1 1) (P.1 0) = P.1 1 then 1 else 0
theorem cm_inj {x y : Nat} (hx : x < 2 ^ 31) (hy : y < 2 ^ 31) : cm x = cm y ↔ x = y := by
  constructor
  · intro h
    have key : ∀ z, z < 2 ^ 31 → (cm z).toInt = if z = 0 then -9 else (z : Int) - 1 := by
      intro z hz
      match z, hz with
      | 0, _ => decide
      | z + 1, hz =>
        show (nI z).toInt = _
        rw [nI_toInt (by omega), if_neg (by omega)]
        omega
    have h1 := key x hx
    have h2 := key y hy
    rw [h] at h1
    rw [h1] at h2
    split at h2 <;> split at h2 <;> omega
  · intro h; rw [h]
theorem lk_mf {T P V1 : NS} (hT : tdI T) (hk : lkP T P V1) (b p : Nat) : mfE T (V1.2 2) (V1.1 1) (V1.2 3) b p = mfV T (cT T P) (opn T P) b p := by rw [← hk.2.1]; exact mf_V (cT_1 P hT) hk.2.2.1 hk.2.2.2 b p
theorem lk_fr {T P V1 : NS} (hT : tdI T) (hk : lkP T P V1) (b p : Nat) : frT T (V1.2 2) (V1.1 1) (V1.2 3) b p (T.1 1) = frV T (cT T P) (opn T P) b p := by rw [← hk.2.1]; exact fr_V (cT_1 P hT) hk.2.2.1 hk.2.2.2 b p
theorem lk_mb {T P V1 : NS} (hT : tdI T) (hk : lkP T P V1) (b p : Nat) {r : Nat} (hr : r < T.1 1) : mbE T (V1.2 2) (V1.2 3) b p r = mbV T (cT T P) (opn T P) b p r := by rw [← hk.2.1]; exact mb_V (cT_1 P hT) hk.2.2.1 hk.2.2.2 b p hr
theorem lk_V {T P V1 : NS} (hk : lkP T P V1) : ∀ r, r < T.1 1 → V1.2 2 r = cT T P r := hk.2.2.1

def qn (t a : Nat) : Nat := a

set_option maxHeartbeats 4000000 in
set_option maxRecDepth 100000 in
theorem c_X6_on (g : GC) (x : Nat) (y : Nat → Nat) (W : NS) (rd : Nat) (dr : Nat) (pa : Nat) (ch : Nat) (im : Nat → Nat) (a : Nat) (h : Nat → Nat) (T : NS) (p : Nat) (q : Nat → Nat) (P : NS) (vo : Nat) (hv : Nat → Nat) (V : NS) (t : Nat) (r : Int32) (hT : tdI T) (hP : pnI T P) (hV : vI V) : Ct g yX6_on cX6_on 2 (some .int) 6 0 0 [.ref x, .int r] (wTV g x y rd a dr p pa vo ch im W ++ (wTown g a h T ++ (wPres g p q P ++ (wVoice g vo hv t V)))) (QI (fun r_ w_ => ∃ V2 : NS, ∃ t2 : Nat, r_ = (onV T P r) ∧ w_ = wTV g x y rd a dr p pa vo ch im W ++ (wTown g a h T ++ (wPres g p q P ++ (wVoice g vo hv t2 V2))) ∧ (vI V2 ∧ (t2 = a ∨ t2 = t)))) := by
  refine Ct.of (by decide) (Nat.le_of_ble_eq_true rfl) ?_
  intro X E Er hX _ hnm
  have E : Ob g X cX6_on 2 RX6 := E
  have hR := hT.2.2.1
  have hs4 := hP.s4 hT
  have hb := hT.2.1.2
  have hp0 := hP.2.1
  have hp1 := hP.2.2.1
  have h4 := hT.2.2.2.2.2.1
  have hc1 := cT_1 P hT
  have hg3 := hT.2.2.2.2.1
  have hg2 := hT.2.2.2.1
  refine z_lve (lv' := [(0, .ref x), (1, .int r)]) rfl ?_
  refine z_aload_n E dX6_on_0 0 rfl rfl ?_
  refine gt_X6_19 (v := .ref a) E dX6_on_1 0 rfl rfl ?_
  refine z_iload_n E dX6_on_4 1 rfl rfl ?_
  refine z_fro (ws := wTV g x y rd a dr p pa vo ch im W ++ (wTown g a h T ++ (wPres g p q P ++ (wVoice g vo hv t V)))) (cs := [wTV g x y rd a dr p pa vo ch im W, wTown g a h T, wPres g p q P, wVoice g vo hv t V]) (ds := [wTown g a h T]) (rs := [wTV g x y rd a dr p pa vo ch im W, wPres g p q P, wVoice g vo hv t V]) E [1] rfl rfl (rV E hX (c_X4_hasRoad g a h T r) mw_X4_hasRoad ml_X6_102 dX6_on_5 (Nat.le_of_ble_eq_true rfl) ⟨(Nat.le_of_ble_eq_true rfl), (Nat.le_of_ble_eq_true rfl)⟩ rfl rfl (Nat.le_of_ble_eq_true rfl) 0 rfl rfl) ?_
  refine z_ifB_eq E dX6_on_8 26 (by decide) (fun c1 => ?_) (fun c1 => ?_)
  · refine z_iconst (v := (-1)) E dX6_on_26 (by decide) ?_
    refine z_iret E Er dX6_on_27 ?_
    exact ⟨_, rfl, _, _, by rw [onV, if_neg (show ¬ (hasR T r && canT T P r.toNatClampNeg (P.1 0)) = true by rw [c1]; simp)], rfl, hV, Or.inr rfl⟩
  · obtain ⟨j2, hj2, rfl⟩ := hasR_nI (hT.1.1 1) c1
    refine z_aload_n E dX6_on_11 0 rfl rfl ?_
    refine z_iload_n E dX6_on_12 1 rfl rfl ?_
    refine z_aload_n E dX6_on_13 0 rfl rfl ?_
    refine gt_X6_29 (v := .ref p) E dX6_on_14 0 rfl rfl ?_
    refine gt_X6_133 (v := .int (nI (P.1 0))) E dX6_on_17 11 rfl rfl ?_
    refine z_fro (ws := wTV g x y rd a dr p pa vo ch im W ++ (wTown g a h T ++ (wPres g p q P ++ (wVoice g vo hv t V)))) (cs := [wTV g x y rd a dr p pa vo ch im W, wTown g a h T, wPres g p q P, wVoice g vo hv t V]) (ds := [wTV g x y rd a dr p pa vo ch im W, wTown g a h T, wPres g p q P]) (rs := [wVoice g vo hv t V]) E [0, 0, 0] rfl rfl (rV E hX (c_X6_canTake g x y W rd dr pa vo ch im a h T p q P j2 (P.1 0) (by assumption) (by omega) (by omega) (by omega)) mw_X6_canTake ml_X6_149 dX6_on_20 (Nat.le_of_ble_eq_true rfl) ⟨(Nat.le_of_ble_eq_true rfl), (Nat.le_of_ble_eq_true rfl)⟩ rfl rfl (Nat.le_of_ble_eq_true rfl) 0 rfl rfl) ?_
    refine z_ifB_ne E dX6_on_23 28 (by decide) (fun c2 => ?_) (fun c2 => ?_)
    · refine z_aload_n E dX6_on_28 0 rfl rfl ?_
      refine gt_X6_43 (v := .ref vo) E dX6_on_29 0 rfl rfl ?_
      refine z_aload_n E dX6_on_32 0 rfl rfl ?_
      refine gt_X6_19 (v := .ref a) E dX6_on_33 0 rfl rfl ?_
      refine z_aload_n E dX6_on_36 0 rfl rfl ?_
      refine gt_X6_29 (v := .ref p) E dX6_on_37 0 rfl rfl ?_
      refine z_fqv (ws := wTV g x y rd a dr p pa vo ch im W ++ (wTown g a h T ++ (wPres g p q P ++ (wVoice g vo hv t V)))) (cs := [wTV g x y rd a dr p pa vo ch im W, wTown g a h T, wPres g p q P, wVoice g vo hv t V]) (ds := [wVoice g vo hv t V, wTown g a h T, wPres g p q P]) (rs := [wTV g x y rd a dr p pa vo ch im W]) E [3, 1, 1] rfl rfl (rV E hX (c_X5_look g vo hv V t a h T p q P hV hT.1 hT.wf (by omega) hT.2.2.2.2.2.2.2.1 hP.2.2.2.2.2.2) mw_X5_look ml_X6_176 dX6_on_40 (Nat.le_of_ble_eq_true rfl) ⟨(Nat.le_of_ble_eq_true rfl), (Nat.le_of_ble_eq_true rfl)⟩ rfl rfl (Nat.le_of_ble_eq_true rfl) 0 rfl rfl) (fun w2 hw => ?_)
      obtain ⟨V1, rfl, hk⟩ := hw
      refine ⟨[wVoice g vo hv a V1, wTown g a h T, wPres g p q P], [wTV g x y rd a dr p pa vo ch im W, wTown g a h T, wPres g p q P, wVoice g vo hv a V1], wTV g x y rd a dr p pa vo ch im W ++ (wTown g a h T ++ (wPres g p q P ++ (wVoice g vo hv a V1))), rfl, rfl, rfl, rfl, ?_⟩
      refine z_aload_n E dX6_on_43 0 rfl rfl ?_
      refine gt_X6_43 (v := .ref vo) E dX6_on_44 0 rfl rfl ?_
      refine z_iload_n E dX6_on_47 1 rfl rfl ?_
      refine z_aload_n E dX6_on_48 0 rfl rfl ?_
      refine gt_X6_29 (v := .ref p) E dX6_on_49 0 rfl rfl ?_
      refine gt_X6_133 (v := .int (nI (P.1 0))) E dX6_on_52 11 rfl rfl ?_
      refine z_aload_n E dX6_on_55 0 rfl rfl ?_
      refine gt_X6_29 (v := .ref p) E dX6_on_56 0 rfl rfl ?_
      refine gt_X6_136 (v := .int (cm (P.1 1))) E dX6_on_59 11 rfl rfl ?_
      refine z_fro (ws := wTV g x y rd a dr p pa vo ch im W ++ (wTown g a h T ++ (wPres g p q P ++ (wVoice g vo hv a V1)))) (cs := [wTV g x y rd a dr p pa vo ch im W, wTown g a h T, wPres g p q P, wVoice g vo hv a V1]) (ds := [wVoice g vo hv a V1, wTown g a h T]) (rs := [wTV g x y rd a dr p pa vo ch im W, wPres g p q P]) E [3, 1] rfl rfl (rV E hX (c_X5_minutesBy g vo hv V1 a h T j2 (P.1 0) (P.1 1) hk.1.1 hT.1 hR hk.1.2.1 (fun r => Nat.le_trans (hk.1.2.2.2 r) (by decide)) (by omega) (by omega) (by omega) (by omega)) mw_X5_minutesBy ml_X6_198 dX6_on_62 (Nat.le_of_ble_eq_true rfl) ⟨(Nat.le_of_ble_eq_true rfl), (Nat.le_of_ble_eq_true rfl)⟩ rfl rfl (Nat.le_of_ble_eq_true rfl) 0 rfl rfl) ?_
      refine z_iret E Er dX6_on_65 ?_
      exact ⟨_, rfl, _, _, by rw [onV, if_pos (by rw [nI_clamp (by omega), c1, c2]; rfl), nI_clamp (by omega), lk_mb hT hk _ _ hj2], rfl, hk.1, Or.inl rfl⟩
    · refine z_iconst (v := (-1)) E dX6_on_26 (by decide) ?_
      refine z_iret E Er dX6_on_27 ?_
      exact ⟨_, rfl, _, _, by rw [onV, if_neg (show ¬ (hasR T (nI j2) && canT T P (nI j2).toNatClampNeg (P.1 0)) = true by rw [nI_clamp (by omega), c2]; simp)], rfl, hV, Or.inr rfl⟩

set_option maxHeartbeats 4000000 in
set_option maxRecDepth 100000 in
theorem c_X6_round (g : GC) (x : Nat) (y : Nat → Nat) (W : NS) (rd : Nat) (dr : Nat) (pa : Nat) (ch : Nat) (im : Nat → Nat) (a : Nat) (h : Nat → Nat) (T : NS) (p : Nat) (q : Nat → Nat) (P : NS) (vo : Nat) (hv : Nat → Nat) (V : NS) (t : Nat) (hT : tdI T) (hP : pnI T P) (hV : vI V) : Ct g yX6_round cX6_round 2 (some .int) 6 0 0 [.ref x] (wTV g x y rd a dr p pa vo ch im W ++ (wTown g a h T ++ (wPres g p q P ++ (wVoice g vo hv t V)))) (QI (fun r_ w_ => ∃ V2 : NS, ∃ t2 : Nat, r_ = (roV T P) ∧ w_ = wTV g x y rd a dr p pa vo ch im W ++ (wTown g a h T ++ (wPres g p q P ++ (wVoice g vo hv t2 V2))) ∧ (vI V2 ∧ (t2 = a ∨ t2 = t)))) := by
  refine Ct.of (by decide) (Nat.le_of_ble_eq_true rfl) ?_
  intro X E Er hX _ hnm
  have E : Ob g X cX6_round 2 RX6 := E
  have hR := hT.2.2.1
  have hs4 := hP.s4 hT
  have hb := hT.2.1.2
  have hp0 := hP.2.1
  have hp1 := hP.2.2.1
  have h4 := hT.2.2.2.2.2.1
  have hc1 := cT_1 P hT
  have hg3 := hT.2.2.2.2.1
  have hg2 := hT.2.2.2.1
  refine z_lve (lv' := [(0, .ref x)]) rfl ?_
  refine z_aload_n E dX6_round_0 0 rfl rfl ?_
  refine gt_X6_43 (v := .ref vo) E dX6_round_1 0 rfl rfl ?_
  refine z_aload_n E dX6_round_4 0 rfl rfl ?_
  refine gt_X6_19 (v := .ref a) E dX6_round_5 0 rfl rfl ?_
  refine z_aload_n E dX6_round_8 0 rfl rfl ?_
  refine gt_X6_29 (v := .ref p) E dX6_round_9 0 rfl rfl ?_
  refine z_fqv (ws := wTV g x y rd a dr p pa vo ch im W ++ (wTown g a h T ++ (wPres g p q P ++ (wVoice g vo hv t V)))) (cs := [wTV g x y rd a dr p pa vo ch im W, wTown g a h T, wPres g p q P, wVoice g vo hv t V]) (ds := [wVoice g vo hv t V, wTown g a h T, wPres g p q P]) (rs := [wTV g x y rd a dr p pa vo ch im W]) E [3, 1, 1] rfl rfl (rV E hX (c_X5_look g vo hv V t a h T p q P hV hT.1 hT.wf (by omega) hT.2.2.2.2.2.2.2.1 hP.2.2.2.2.2.2) mw_X5_look ml_X6_176 dX6_round_12 (Nat.le_of_ble_eq_true rfl) ⟨(Nat.le_of_ble_eq_true rfl), (Nat.le_of_ble_eq_true rfl)⟩ rfl rfl (Nat.le_of_ble_eq_true rfl) 0 rfl rfl) (fun w2 hw => ?_)
  obtain ⟨V1, rfl, hk⟩ := hw
  refine ⟨[wVoice g vo hv a V1, wTown g a h T, wPres g p q P], [wTV g x y rd a dr p pa vo ch im W, wTown g a h T, wPres g p q P, wVoice g vo hv a V1], wTV g x y rd a dr p pa vo ch im W ++ (wTown g a h T ++ (wPres g p q P ++ (wVoice g vo hv a V1))), rfl, rfl, rfl, rfl, ?_⟩
  refine z_aload_n E dX6_round_15 0 rfl rfl ?_
  refine gt_X6_29 (v := .ref p) E dX6_round_16 0 rfl rfl ?_
  refine gt_X6_133 (v := .int (nI (P.1 0))) E dX6_round_19 11 rfl rfl ?_
  refine z_aload_n E dX6_round_22 0 rfl rfl ?_
  refine gt_X6_19 (v := .ref a) E dX6_round_23 0 rfl rfl ?_
  refine gt_X6_192 (v := .int (nI (T.1 3))) E dX6_round_26 6 rfl rfl ?_
  refine z_icmpN_ne E dX6_round_29 35 (by decide) (by omega) (by omega) (fun c1 => ?_) (fun c1 => ?_)
  · refine z_aload_n E dX6_round_35 0 rfl rfl ?_
    refine gt_X6_43 (v := .ref vo) E dX6_round_36 0 rfl rfl ?_
    refine z_aload_n E dX6_round_39 0 rfl rfl ?_
    refine gt_X6_29 (v := .ref p) E dX6_round_40 0 rfl rfl ?_
    refine gt_X6_133 (v := .int (nI (P.1 0))) E dX6_round_43 11 rfl rfl ?_
    refine z_aload_n E dX6_round_46 0 rfl rfl ?_
    refine gt_X6_29 (v := .ref p) E dX6_round_47 0 rfl rfl ?_
    refine gt_X6_136 (v := .int (cm (P.1 1))) E dX6_round_50 11 rfl rfl ?_
    refine z_fro (ws := wTV g x y rd a dr p pa vo ch im W ++ (wTown g a h T ++ (wPres g p q P ++ (wVoice g vo hv a V1)))) (cs := [wTV g x y rd a dr p pa vo ch im W, wTown g a h T, wPres g p q P, wVoice g vo hv a V1]) (ds := [wVoice g vo hv a V1, wTown g a h T]) (rs := [wTV g x y rd a dr p pa vo ch im W, wPres g p q P]) E [3, 1] rfl rfl (rV E hX (c_X5_firstRoad g vo hv V1 a h T (P.1 0) (P.1 1) hk.1.1 hT.1 hR hk.1.2.1 (fun r => Nat.le_trans (hk.1.2.2.2 r) (by decide)) (by omega) (by omega) (by omega)) mw_X5_firstRoad ml_X6_195 dX6_round_53 (Nat.le_of_ble_eq_true rfl) ⟨(Nat.le_of_ble_eq_true rfl), (Nat.le_of_ble_eq_true rfl)⟩ rfl rfl (Nat.le_of_ble_eq_true rfl) 0 rfl rfl) ?_
    have hfv := lk_fr hT hk (P.1 1) (P.1 0)
    have hfl := frT_le T (V1.2 2) (V1.1 1) (V1.2 3) (P.1 1) (P.1 0) (T.1 1)
    refine z_istore_n (lv' := [(0, .ref x), (1, .int (cm (frT T ((V1.2 2)) ((V1.1 1)) ((V1.2 3)) (P.1 1) (P.1 0) ((T.1 1)))))]) E dX6_round_56 1 rfl (by decide) rfl ?_
    refine z_iload_n E dX6_round_57 1 rfl rfl ?_
    refine z_bipush (v := (-9)) E dX6_round_58 (by decide) ?_
    refine z_icmpC_ne E dX6_round_60 66 (by decide) (by have := frT_le T ((V1.2 2)) ((V1.1 1)) ((V1.2 3)) (P.1 1) (P.1 0) ((T.1 1)); omega) (fun c2 => ?_) (fun c2 => ?_)
    · refine z_iload_n E dX6_round_66 1 rfl rfl ?_
      refine z_aload_n E dX6_round_67 0 rfl rfl ?_
      refine gt_X6_29 (v := .ref p) E dX6_round_68 0 rfl rfl ?_
      refine gt_X6_136 (v := .int (cm (P.1 1))) E dX6_round_71 11 rfl rfl ?_
      refine z_icmp_ne E dX6_round_74 81 (by decide) (fun c3 => ?_) (fun c3 => ?_)
      · refine z_iconst (v := (nI 0)) E dX6_round_81 (by decide) ?_
        refine z_iret E Er dX6_round_82 ?_
        exact ⟨_, rfl, _, _, by rw [roV, if_neg c1, if_neg (hfv ▸ c2), if_neg (fun e => c3 ((cm_inj (by omega) (by omega)).mpr (hfv.trans e)))]; rfl, rfl, hk.1, Or.inl rfl⟩
      · refine z_iconst (v := (nI 1)) E dX6_round_77 (by decide) ?_
        refine z_goto E dX6_round_78 82 (by decide) ?_
        refine z_iret E Er dX6_round_82 ?_
        exact ⟨_, rfl, _, _, by rw [roV, if_neg c1, if_neg (hfv ▸ c2), if_pos (hfv ▸ (cm_inj (by omega) (by omega)).mp c3)]; rfl, rfl, hk.1, Or.inl rfl⟩
    · refine z_bipush (v := (-9)) E dX6_round_63 (by decide) ?_
      refine z_iret E Er dX6_round_65 ?_
      exact ⟨_, rfl, _, _, by rw [roV, if_neg c1, if_pos (hfv ▸ c2)], rfl, hk.1, Or.inl rfl⟩
  · refine z_bipush (v := (-9)) E dX6_round_32 (by decide) ?_
    refine z_iret E Er dX6_round_34 ?_
    exact ⟨_, rfl, _, _, by rw [roV, if_pos c1], rfl, hk.1, Or.inl rfl⟩
