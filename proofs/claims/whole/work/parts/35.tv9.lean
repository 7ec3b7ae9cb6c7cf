theorem drv_sc {T : NS} {f : Nat → Nat} {u d at_ : Nat} (hd : ∀ j, j < 8 → pc12 (f j) ≠ 0 → pc12 (f j) ∣ u) : ∀ n k, drv T f (u * d) at_ n k = drv T f u at_ n k * d ^ n
  | 0, k => by rw [Nat.pow_zero, Nat.mul_one]; rfl
  | n + 1, k => by
    show tar T f (drv T f (u * d) at_ n) (u * d) 8 k = tar T f (drv T f u at_ n) u 8 k * d ^ (n + 1)
    rw [Nat.pow_succ]
    exact tar_sc (fun k => drv_sc hd n k) 8 hd k
theorem gcd_sc {x y k : Nat} (hk : 0 < k) : (x * k) / Nat.gcd (y * k) (x * k) = x / Nat.gcd y x ∧ (y * k) / Nat.gcd (y * k) (x * k) = y / Nat.gcd y x := by
  rw [Nat.gcd_mul_right]
  exact ⟨Nat.mul_div_mul_right _ _ hk, Nat.mul_div_mul_right _ _ hk⟩
def odF (T P : NS) : Nat → Nat := opAt T (opn T P)
def odU (T P : NS) (p n : Nat) : Nat := drv T (odF T P) 27720 (P.1 0) n p
def odV (T P : NS) (p n w : Int32) : Int64 := if (hasP T p && wi n (nI 0) (nI 4) && wi w (nI 0) (nI 1)) = true then lN ((if w = nI 0 then odU T P p.toNatClampNeg n.toNatClampNeg else 27720 ^ n.toNatClampNeg) / Nat.gcd (27720 ^ n.toNatClampNeg) (odU T P p.toNatClampNeg n.toNatClampNeg)) else -1
theorem opn_lt2 {T P : NS} (hR : T.1 1 ≤ 12) : opn T P < 2 ^ T.1 1 := by
  unfold opn
  have h1 : (1 <<< T.1 1 - 1) &&& (P.1 4 ^^^ 4294967295) ≤ 1 <<< T.1 1 - 1 := Nat.and_le_left
  have h3 : 1 ≤ 1 <<< T.1 1 := by rw [Nat.one_shiftLeft]; exact Nat.one_le_two_pow
  rw [← Nat.one_shiftLeft]
  omega
theorem odF_lt {T P : NS} (hR : T.1 1 ≤ 12) (i : Nat) : odF T P i < 2 ^ T.1 1 := by
  unfold odF opAt
  split
  · exact Nat.lt_of_le_of_lt Nat.and_le_right (opn_lt2 hR)
  · exact Nat.two_pow_pos _
theorem od_s8 {T P : NS} (hT : tdI T) (hP : pnI T P) {u : Nat} (hd : ∀ j, j < 8 → pc12 (odF T P j) ≠ 0 → pc12 (odF T P j) ∣ u) (n : Nat) {p : Nat} (hp : p < 8) : drv T (odF T P) u (P.1 0) n p ≤ u ^ n := by
  have h := drv_s8 (T := T) (f := odF T P) (u := u) (at_ := P.1 0) hT.2.2.1 (fun p r hr => Nat.lt_of_lt_of_le (otherT_l8 hT hr) hT.2.1.2) (odF_lt hT.2.2.1) hd (Nat.lt_of_lt_of_le hP.2.1 hT.2.1.2) n
  have := s8_le (drv T (odF T P) u (P.1 0) n) p hp
  omega
theorem cu_hd (f : Nat → Nat) : ∀ j, j < 8 → pc12 (f j) ≠ 0 → pc12 (f j) ∣ cuF f 8 := fun j hj h => cuF_div hj h
theorem od_eq {T P : NS} (p n : Nat) : drv T (odF T P) (cuF (odF T P) 8) (P.1 0) n p / Nat.gcd (cuF (odF T P) 8 ^ n) (drv T (odF T P) (cuF (odF T P) 8) (P.1 0) n p) = odU T P p n / Nat.gcd (27720 ^ n) (odU T P p n) ∧ cuF (odF T P) 8 ^ n / Nat.gcd (cuF (odF T P) 8 ^ n) (drv T (odF T P) (cuF (odF T P) 8) (P.1 0) n p) = 27720 ^ n / Nat.gcd (27720 ^ n) (odU T P p n) := by
  obtain ⟨d, hd⟩ := cuF_dvd (odF T P) 8
  have hd0 : 0 < d := by
    rcases Nat.eq_zero_or_pos d with q | q
    · rw [q] at hd; exact absurd hd (by rw [Nat.mul_zero]; decide)
    · exact q
  have e1 : odU T P p n = drv T (odF T P) (cuF (odF T P) 8) (P.1 0) n p * d ^ n := by
    unfold odU
    rw [show drv T (odF T P) 27720 (P.1 0) n p = drv T (odF T P) (cuF (odF T P) 8 * d) (P.1 0) n p from by rw [← hd]]
    exact drv_sc (cu_hd _) n p
  have e2 : 27720 ^ n = cuF (odF T P) 8 ^ n * d ^ n := by rw [← Nat.mul_pow, ← hd]
  rw [e1, e2]
  have hk := gcd_sc (x := drv T (odF T P) (cuF (odF T P) 8) (P.1 0) n p) (y := cuF (odF T P) 8 ^ n) (Nat.pow_pos hd0 (n := n))
  exact ⟨hk.1.symm, hk.2.symm⟩
theorem cu_pow (f : Nat → Nat) {n : Nat} (hn : n ≤ 4) : 0 < cuF f 8 ^ n ∧ cuF f 8 ^ n ≤ 27720 ^ 4 := by
  refine ⟨Nat.pow_pos (cuF_pos f 8), ?_⟩
  exact Nat.le_trans (Nat.pow_le_pow_left (cuF_le f 8) n) (Nat.pow_le_pow_right (by decide) hn)

set_option maxHeartbeats 4000000 in
set_option maxRecDepth 100000 in
theorem c_X6_odds (g : GC) (x : Nat) (y : Nat → Nat) (W : NS) (rd : Nat) (dr : Nat) (pa : Nat) (vo : Nat) (im : Nat → Nat) (a : Nat) (h : Nat → Nat) (T : NS) (p : Nat) (q : Nat → Nat) (P : NS) (ch : Nat) (ho : Nat → Nat) (O : NS) (z : Int32) (n : Int32) (w : Int32) (hT : tdI T) (hP : pnI T P) (hO : ∀ i, O.2 3 i < 4096) : Ct g yX6_odds cX6_odds 4 (some .long) 4 0 0 [.ref x, .int z, .int n, .int w] (wTV g x y rd a dr p pa vo ch im W ++ (wTown g a h T ++ (wPres g p q P ++ (wOdds g ch ho O)))) (QL (fun r_ w_ => ∃ O2 : NS, r_ = (odV T P z n w) ∧ w_ = wTV g x y rd a dr p pa vo ch im W ++ (wTown g a h T ++ (wPres g p q P ++ (wOdds g ch ho O2))) ∧ (∀ i, O2.2 3 i < 4096))) := by
  refine Ct.of (by decide) (Nat.le_of_ble_eq_true rfl) ?_
  intro X E Er hX _ hnm
  have E : Ob g X cX6_odds 4 RX6 := E
  have hR := hT.2.2.1
  have hs4 := hP.s4 hT
  have hb := hT.2.1.2
  have hp0 := hP.2.1
  have hp1 := hP.2.2.1
  have hop := opn_lt P hR
  refine z_lve (lv' := [(0, .ref x), (1, .int z), (2, .int n), (3, .int w)]) rfl ?_
  refine z_aload_n E dX6_odds_0 0 rfl rfl ?_
  refine gt_X6_19 (v := .ref a) E dX6_odds_1 0 rfl rfl ?_
  refine z_iload_n E dX6_odds_4 1 rfl rfl ?_
  refine z_fro (ws := wTV g x y rd a dr p pa vo ch im W ++ (wTown g a h T ++ (wPres g p q P ++ (wOdds g ch ho O)))) (cs := [wTV g x y rd a dr p pa vo ch im W, wTown g a h T, wPres g p q P, wOdds g ch ho O]) (ds := [wTown g a h T]) (rs := [wTV g x y rd a dr p pa vo ch im W, wPres g p q P, wOdds g ch ho O]) E [1] rfl rfl (rV E hX (c_X4_hasPlace g a h T z) mw_X4_hasPlace ml_X6_124 dX6_odds_5 (Nat.le_of_ble_eq_true rfl) ⟨(Nat.le_of_ble_eq_true rfl), (Nat.le_of_ble_eq_true rfl)⟩ rfl rfl (Nat.le_of_ble_eq_true rfl) 0 rfl rfl) ?_
  refine z_ifB_eq E dX6_odds_8 29 (by decide) (fun c1 => ?_) (fun c1 => ?_)
  · refine z_ldc2 (v := (-1)) E dX6_odds_29 kc_X6_235 ?_
    refine z_lret E Er dX6_odds_32 ?_
    exact ⟨_, rfl, _, by rw [odV, if_neg (show ¬ (hasP T z && wi n (nI 0) (nI 4) && wi w (nI 0) (nI 1)) = true by rw [c1]; simp)], rfl, hO⟩
  · refine z_iload_n E dX6_odds_11 2 rfl rfl ?_
    refine z_iconst (v := (nI 0)) E dX6_odds_12 (by decide) ?_
    refine z_iconst (v := (nI 4)) E dX6_odds_13 (by decide) ?_
    refine z_se E (rS E hX (c_X6_isWithin g n (nI 0) (nI 4)) mw_X6_isWithin ms_X6_isWithin ml_X6_80 dX6_odds_14 (Nat.le_of_ble_eq_true rfl) ⟨(Nat.le_of_ble_eq_true rfl), (Nat.le_of_ble_eq_true rfl)⟩ rfl rfl (Nat.le_of_ble_eq_true rfl)) ?_
    refine z_ifB_eq E dX6_odds_17 29 (by decide) (fun c2 => ?_) (fun c2 => ?_)
    · refine z_ldc2 (v := (-1)) E dX6_odds_29 kc_X6_235 ?_
      refine z_lret E Er dX6_odds_32 ?_
      exact ⟨_, rfl, _, by rw [odV, if_neg (show ¬ (hasP T z && wi n (nI 0) (nI 4) && wi w (nI 0) (nI 1)) = true by rw [c2]; simp)], rfl, hO⟩
    · refine z_iload_n E dX6_odds_20 3 rfl rfl ?_
      refine z_iconst (v := (nI 0)) E dX6_odds_21 (by decide) ?_
      refine z_iconst (v := (nI 1)) E dX6_odds_22 (by decide) ?_
      refine z_se E (rS E hX (c_X6_isWithin g w (nI 0) (nI 1)) mw_X6_isWithin ms_X6_isWithin ml_X6_80 dX6_odds_23 (Nat.le_of_ble_eq_true rfl) ⟨(Nat.le_of_ble_eq_true rfl), (Nat.le_of_ble_eq_true rfl)⟩ rfl rfl (Nat.le_of_ble_eq_true rfl)) ?_
      refine z_ifB_ne E dX6_odds_26 33 (by decide) (fun c3 => ?_) (fun c3 => ?_)
      · obtain ⟨z2, hz2, rfl⟩ := hasP_nI (hT.1.1 0) c1
        obtain ⟨n2, -, hn2, rfl⟩ := wi_nI (by decide) (by decide) c2
        obtain ⟨w2, -, hw2, rfl⟩ := wi_nI (by decide) (by decide) c3
        refine z_aload_n E dX6_odds_33 0 rfl rfl ?_
        refine gt_X6_50 (v := .ref ch) E dX6_odds_34 0 rfl rfl ?_
        refine z_aload_n E dX6_odds_37 0 rfl rfl ?_
        refine gt_X6_19 (v := .ref a) E dX6_odds_38 0 rfl rfl ?_
        refine z_aload_n E dX6_odds_41 0 rfl rfl ?_
        refine z_fro (ws := wTV g x y rd a dr p pa vo ch im W ++ (wTown g a h T ++ (wPres g p q P ++ (wOdds g ch ho O)))) (cs := [wTV g x y rd a dr p pa vo ch im W, wTown g a h T, wPres g p q P, wOdds g ch ho O]) (ds := [wTV g x y rd a dr p pa vo ch im W, wTown g a h T, wPres g p q P]) (rs := [wOdds g ch ho O]) E [0, 0, 0] rfl rfl (rV E hX (c_X6_openRoads g x y W rd dr pa vo ch im a h T p q P (by assumption)) mw_X6_openRoads ml_X6_130 dX6_odds_42 (Nat.le_of_ble_eq_true rfl) ⟨(Nat.le_of_ble_eq_true rfl), (Nat.le_of_ble_eq_true rfl)⟩ rfl rfl (Nat.le_of_ble_eq_true rfl) 0 rfl rfl) ?_
        refine z_aload_n E dX6_odds_45 0 rfl rfl ?_
        refine gt_X6_29 (v := .ref p) E dX6_odds_46 0 rfl rfl ?_
        refine gt_X6_133 (v := .int (nI (P.1 0))) E dX6_odds_49 11 rfl rfl ?_
        refine z_iload_n E dX6_odds_52 2 rfl rfl ?_
        refine z_fqv (ws := wTV g x y rd a dr p pa vo ch im W ++ (wTown g a h T ++ (wPres g p q P ++ (wOdds g ch ho O)))) (cs := [wTV g x y rd a dr p pa vo ch im W, wTown g a h T, wPres g p q P, wOdds g ch ho O]) (ds := [wOdds g ch ho O, wTown g a h T]) (rs := [wTV g x y rd a dr p pa vo ch im W, wPres g p q P]) E [3, 1] rfl rfl (rV E hX (c_X0_drive g ch ho O a h T (opn T P) (P.1 0) n2 hT.1 hR hO (fun p r hr => Nat.lt_of_lt_of_le (otherT_l8 hT hr) hb) (by omega) (by omega) (opn_lt P hR)) mw_X0_drive ml_X6_237 dX6_odds_53 (Nat.le_of_ble_eq_true rfl) ⟨(Nat.le_of_ble_eq_true rfl), (Nat.le_of_ble_eq_true rfl)⟩ rfl rfl (Nat.le_of_ble_eq_true rfl) 0 rfl rfl) (fun w2 hw => ?_)
        obtain ⟨O3, rfl, ⟨hw3, hp3, hf3⟩⟩ := hw
        refine ⟨[wOdds g ch ho O3, wTown g a h T], [wTV g x y rd a dr p pa vo ch im W, wTown g a h T, wPres g p q P, wOdds g ch ho O3], wTV g x y rd a dr p pa vo ch im W ++ (wTown g a h T ++ (wPres g p q P ++ (wOdds g ch ho O3))), rfl, rfl, rfl, rfl, ?_⟩
        have hcu := cu_pow (odF T P) (n := n2) (by omega)
        have hdl := od_s8 hT hP (cu_hd (odF T P)) n2 (p := z2) (by omega)
        have hw0 : O3.1 0 = cuF (odF T P) 8 ^ n2 := hw3
        have hq0 : O3.2 1 z2 = drv T (odF T P) (cuF (odF T P) 8) (P.1 0) n2 z2 := by rw [hp3]; rfl
        have h63 : (27720 : Nat) ^ 4 < 2 ^ 63 := by decide
        have hoe := od_eq (T := T) (P := P) z2 n2
        refine z_iload_n E dX6_odds_56 3 rfl rfl ?_
        refine z_ifN_ne E dX6_odds_57 71 (by decide) (by omega) (fun c4 => ?_) (fun c4 => ?_)
        · refine z_aload_n E dX6_odds_71 0 rfl rfl ?_
          refine gt_X6_50 (v := .ref ch) E dX6_odds_72 0 rfl rfl ?_
          refine z_iload_n E dX6_odds_75 1 rfl rfl ?_
          refine z_frol (ws := wTV g x y rd a dr p pa vo ch im W ++ (wTown g a h T ++ (wPres g p q P ++ (wOdds g ch ho O3)))) (cs := [wTV g x y rd a dr p pa vo ch im W, wTown g a h T, wPres g p q P, wOdds g ch ho O3]) (ds := [wOdds g ch ho O3]) (rs := [wTV g x y rd a dr p pa vo ch im W, wTown g a h T, wPres g p q P]) E [3] rfl rfl (rV E hX (c_X0_lower g ch ho O3 z2 (by omega) (by rw [hw0]; exact hcu.1) (by rw [hw0]; omega) (by rw [hq0]; omega)) mw_X0_lower ml_X6_245 dX6_odds_76 (Nat.le_of_ble_eq_true rfl) ⟨(Nat.le_of_ble_eq_true rfl), (Nat.le_of_ble_eq_true rfl)⟩ rfl rfl (Nat.le_of_ble_eq_true rfl) 0 rfl rfl) ?_
          refine z_lret E Er dX6_odds_79 ?_
          exact ⟨_, rfl, _, by rw [odV, if_pos (by rw [c1, c2, c3]; rfl), if_neg (fun q => c4 ((nI_injI (by omega) (by decide)).mp q)), nI_clamp (by omega), nI_clamp (by omega), hw0, hq0, hoe.2], rfl, hf3⟩
        · refine z_aload_n E dX6_odds_60 0 rfl rfl ?_
          refine gt_X6_50 (v := .ref ch) E dX6_odds_61 0 rfl rfl ?_
          refine z_iload_n E dX6_odds_64 1 rfl rfl ?_
          refine z_frol (ws := wTV g x y rd a dr p pa vo ch im W ++ (wTown g a h T ++ (wPres g p q P ++ (wOdds g ch ho O3)))) (cs := [wTV g x y rd a dr p pa vo ch im W, wTown g a h T, wPres g p q P, wOdds g ch ho O3]) (ds := [wOdds g ch ho O3]) (rs := [wTV g x y rd a dr p pa vo ch im W, wTown g a h T, wPres g p q P]) E [3] rfl rfl (rV E hX (c_X0_upper g ch ho O3 z2 (by omega) (by rw [hw0]; exact hcu.1) (by rw [hw0]; omega) (by rw [hq0]; omega)) mw_X0_upper ml_X6_241 dX6_odds_65 (Nat.le_of_ble_eq_true rfl) ⟨(Nat.le_of_ble_eq_true rfl), (Nat.le_of_ble_eq_true rfl)⟩ rfl rfl (Nat.le_of_ble_eq_true rfl) 0 rfl rfl) ?_
          refine z_goto E dX6_odds_68 79 (by decide) ?_
          refine z_lret E Er dX6_odds_79 ?_
          exact ⟨_, rfl, _, by rw [odV, if_pos (by rw [c1, c2, c3]; rfl), if_pos (by rw [c4]), nI_clamp (by omega), nI_clamp (by omega), hw0, hq0, hoe.1], rfl, hf3⟩
      · refine z_ldc2 (v := (-1)) E dX6_odds_29 kc_X6_235 ?_
        refine z_lret E Er dX6_odds_32 ?_
        exact ⟨_, rfl, _, by rw [odV, if_neg (show ¬ (hasP T z && wi n (nI 0) (nI 4) && wi w (nI 0) (nI 1)) = true by rw [c3]; simp)], rfl, hO⟩
