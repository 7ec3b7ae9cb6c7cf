theorem ar_1 {T : NS} {r p : Nat} (hw : T.2 6 r ≠ T.2 7 r) (h : T.2 7 r = otherT T r p) : arT T r p = 2 * r + 1 := by
  unfold otherT at h
  unfold arT
  by_cases q : T.2 6 r = p
  · rw [if_pos q]
  · rw [if_neg q] at h; exact absurd h.symm hw
theorem ar_0 {T : NS} {r p : Nat} (h : ¬ T.2 7 r = otherT T r p) : arT T r p = 2 * r + 0 := by
  unfold otherT at h
  unfold arT
  by_cases q : T.2 6 r = p
  · rw [if_pos q] at h; exact absurd rfl h
  · rw [if_neg q]
theorem pm_sub1 (x : Nat) : nI x - nI 1 = pm x := by
  cases x with
  | zero => decide
  | succ k => exact pk_sub (a := k + 1) (b := 1) (by omega)
theorem pm_dec {i : Nat} (h : i ≠ 0) : nI (i - 1) + Int32.ofInt (-1) = pm (i - 1) := by
  rw [← pm_sub1, Int32.sub_eq_add_neg]
  rfl
section ZMc
variable {g : GC} {X : XC} {cc : ByteArray} {nL k n pc : Nat} {own : String} {ws : va_W} {lv lv' : List (Nat × Value)} {st : List Value}
theorem z_ifP_lt (E : Ob g X cc nL own) {x : Nat} {off : Int} (hd : decode cc pc = .ok (.ifCond .lt off, 3)) (tgt : Nat) (ht : (pc : Int) + off = (tgt : Int)) (hx : x < 2 ^ 31) (kt : x = 0 → Z g X nL k n ws lv st tgt) (kf : x ≠ 0 → Z g X nL k n ws lv st (pc + 3)) : Z g X nL k n ws lv (.int (pm x) :: st) pc :=
  z_if_lt E hd tgt ht (fun h => kt (by
    cases x with
    | zero => rfl
    | succ y => exact absurd h (nI_pos (by omega)))) (fun h => kf (fun e => by
    subst e
    exact h (by decide)))
end ZMc

set_option maxHeartbeats 4000000 in
set_option maxRecDepth 100000 in
theorem c_X7_cost (g : GC) (a : Nat) (h : Nat → Nat) (M : NS) (b : Nat) (r : Nat) (T : NS) (c : Nat → Nat) (hT : tdI T) (hM : mrT T M) (hc : ∀ r, r < T.1 1 → M.2 24 r = c r) (hcl : ∀ r, r < T.1 1 → c r ≤ 100000) (hbR : b ≤ T.1 1) (hr : r < T.1 1) : Ct g yX7_cost cX7_cost 3 (some .int) 1 0 0 [.ref a, .int (nI b), .int (nI r)] (wMod g a h M) (DI (nI (c r + nvT T b r)) (wMod g a h M)) := by
  refine Ct.of (by decide) (Nat.le_of_ble_eq_true rfl) ?_
  intro X E Er hX _ hnm
  have E : Ob g X cX7_cost 3 RX7 := E
  have hR := hT.2.2.1
  have hb := hT.2.1.2
  have h4 := hT.2.2.2.2.2.1
  have hg3 := hT.2.2.2.2.1
  refine z_lve (lv' := [(0, .ref a), (1, .int (nI b)), (2, .int (nI r))]) rfl ?_
  refine z_aload_n E dX7_cost_0 0 rfl rfl ?_
  refine gt_X7_47 (v := .ref (h 24)) E dX7_cost_1 0 rfl rfl ?_
  refine z_iload_n E dX7_cost_4 2 rfl rfl ?_
  refine z_ialdN (f := (M.2 24)) E dX7_cost_5 13 rfl (by omega) (by decide) ?_
  refine z_topi (y := nI (c r)) (congrArg nI (hc r (by omega))) ?_
  refine z_aload_n E dX7_cost_6 0 rfl rfl ?_
  refine z_iload_n E dX7_cost_7 1 rfl rfl ?_
  refine z_iload_n E dX7_cost_8 2 rfl rfl ?_
  refine z_ro0 E (rV E hX (c_X7_isTurn g a h M b r T hT hM (by omega) (by omega)) mw_X7_isTurn ml_X7_160 dX7_cost_9 (Nat.le_of_ble_eq_true rfl) ⟨(Nat.le_of_ble_eq_true rfl), (Nat.le_of_ble_eq_true rfl)⟩ rfl rfl (Nat.le_of_ble_eq_true rfl) 0 rfl rfl) ?_
  refine z_ifB_eq E dX7_cost_12 24 (by decide) (fun c1 => ?_) (fun c1 => ?_)
  · refine z_iconst (v := (nI 0)) E dX7_cost_24 (by decide) ?_
    refine z_iaddN E dX7_cost_25 ?_
    refine z_iret E Er dX7_cost_26 ?_
    exact ⟨by unfold nvT; rw [if_neg (by rw [c1]; decide)], rfl⟩
  · refine z_aload_n E dX7_cost_15 0 rfl rfl ?_
    refine gt_X7_13 (v := .ref (h 9)) E dX7_cost_16 0 rfl rfl ?_
    refine z_iconst (v := (nI 4)) E dX7_cost_19 (by decide) ?_
    refine z_ialdN (f := (M.2 9)) E dX7_cost_20 2 rfl (by decide) (by decide) ?_
    refine z_topi (y := nI (T.1 4)) (congrArg nI (hM.1 4 (by decide))) ?_
    refine z_goto E dX7_cost_21 25 (by decide) ?_
    refine z_iaddN E dX7_cost_25 ?_
    refine z_iret E Er dX7_cost_26 ?_
    exact ⟨by unfold nvT; rw [if_pos c1], rfl⟩

set_option maxHeartbeats 4000000 in
set_option maxRecDepth 100000 in
theorem c_X7_onBy (g : GC) (a : Nat) (h : Nat → Nat) (M : NS) (p : Nat) (b : Nat) (r : Nat) (T : NS) (c : Nat → Nat) (o : Nat) (L : Nat → Nat) (hT : tdI T) (hM : mrT T M) (hc : ∀ r, r < T.1 1 → M.2 24 r = c r) (hcl : ∀ r, r < T.1 1 → c r ≤ 100000) (ho : M.1 25 = o) (ho2 : o < 2 ^ 31) (hl : ∀ k, k < 2 * T.1 1 → M.2 26 k = L k) (hLl : ∀ k, k < 2 * T.1 1 → L k ≤ 1000000) (hp : p < 2 ^ 31) (hbR : b ≤ T.1 1) (hr : r < T.1 1) : Ct g yX7_onBy cX7_onBy 6 (some .int) 2 0 0 [.ref a, .int (nI p), .int (nI b), .int (nI r)] (wMod g a h M) (DI (nI (min (onT T c L b p r) 1000000)) (wMod g a h M)) := by
  refine Ct.of (by decide) (Nat.le_of_ble_eq_true rfl) ?_
  intro X E Er hX _ hnm
  have E : Ob g X cX7_onBy 6 RX7 := E
  have hR := hT.2.2.1
  have hb := hT.2.1.2
  have h4 := hT.2.2.2.2.2.1
  have hg3 := hT.2.2.2.2.1
  refine z_lve (lv' := [(0, .ref a), (1, .int (nI p)), (2, .int (nI b)), (3, .int (nI r))]) rfl ?_
  refine z_aload_n E dX7_onBy_0 0 rfl rfl ?_
  refine z_iload_n E dX7_onBy_1 3 rfl rfl ?_
  refine z_iload_n E dX7_onBy_2 1 rfl rfl ?_
  refine z_ro0 E (rV E hX (c_X7_otherEnd g a h M r p T hT hM (by omega) (by omega)) mw_X7_otherEnd ml_X7_175 dX7_onBy_3 (Nat.le_of_ble_eq_true rfl) ⟨(Nat.le_of_ble_eq_true rfl), (Nat.le_of_ble_eq_true rfl)⟩ rfl rfl (Nat.le_of_ble_eq_true rfl) 0 rfl rfl) ?_
  refine z_istore (lv' := [(0, .ref a), (1, .int (nI p)), (2, .int (nI b)), (3, .int (nI r)), (4, .int (nI (otherT T r p)))]) E dX7_onBy_6 (by decide) rfl ?_
  refine z_aload_n E dX7_onBy_8 0 rfl rfl ?_
  refine z_iload_n E dX7_onBy_9 2 rfl rfl ?_
  refine z_iload_n E dX7_onBy_10 3 rfl rfl ?_
  refine z_ro0 E (rV E hX (c_X7_cost g a h M b r T c hT hM hc hcl (by omega) (by omega)) mw_X7_cost ml_X7_169 dX7_onBy_11 (Nat.le_of_ble_eq_true rfl) ⟨(Nat.le_of_ble_eq_true rfl), (Nat.le_of_ble_eq_true rfl)⟩ rfl rfl (Nat.le_of_ble_eq_true rfl) 0 rfl rfl) ?_
  refine z_aload_n E dX7_onBy_14 0 rfl rfl ?_
  refine gt_X7_50 (v := .ref (h 26)) E dX7_onBy_15 0 rfl rfl ?_
  refine z_iconst (v := (nI 2)) E dX7_onBy_18 (by decide) ?_
  refine z_iload_n E dX7_onBy_19 3 rfl rfl ?_
  refine z_imulN E dX7_onBy_20 ?_
  refine z_aload_n E dX7_onBy_21 0 rfl rfl ?_
  refine gt_X7_16 (v := .ref (h 11)) E dX7_onBy_22 0 rfl rfl ?_
  refine z_iconst (v := (nI 2)) E dX7_onBy_25 (by decide) ?_
  refine z_iload_n E dX7_onBy_26 3 rfl rfl ?_
  refine z_imulN E dX7_onBy_27 ?_
  refine z_iconst (v := (nI 1)) E dX7_onBy_28 (by decide) ?_
  refine z_iaddN E dX7_onBy_29 ?_
  refine z_ialdN (f := (M.2 11)) E dX7_onBy_30 3 rfl (by omega) (by decide) ?_
  refine z_topi (y := nI ((T.2 7) r)) (congrArg nI ((hM.2 r (by omega)).2.1)) ?_
  refine z_iload E dX7_onBy_31 4 rfl ?_
  refine z_icmpN_ne E dX7_onBy_33 40 (by decide) (hT.1.2 _ _) (by have := otherT_l8 hT (r := r) (p := p) hr; have := hT.1.1 0; omega) (fun c1 => ?_) (fun c1 => ?_)
  · refine z_iconst (v := (nI 0)) E dX7_onBy_40 (by decide) ?_
    refine z_iaddN E dX7_onBy_41 ?_
    refine z_ialdN (f := (M.2 26)) E dX7_onBy_42 14 rfl (by omega) (by decide) ?_
    refine z_topi (y := nI (L ((2 * r) + 0))) (congrArg nI (hl ((2 * r) + 0) (by omega))) ?_
    refine z_iaddN E dX7_onBy_43 ?_
    have e1 := hcl r hr
    have e2 := nvT_le T b r
    have e3 := hLl (2 * r + 1) (by omega)
    have e4 := hLl (2 * r + 0) (by omega)
    refine z_istore (lv' := [(0, .ref a), (1, .int (nI p)), (2, .int (nI b)), (3, .int (nI r)), (4, .int (nI (otherT T r p))), (5, .int (nI ((c r + nvT T b r) + (L ((2 * r) + 0)))))]) E dX7_onBy_44 (by decide) rfl ?_
    refine z_iload E dX7_onBy_46 5 rfl ?_
    refine z_ldc (v := nI 1000000) E dX7_onBy_48 kc_X7_181 ?_
    refine z_icmpN_le E dX7_onBy_50 58 (by decide) (by omega) (by decide) (fun c2 => ?_) (fun c2 => ?_)
    · refine z_iload E dX7_onBy_58 5 rfl ?_
      refine z_iret E Er dX7_onBy_60 ?_
      exact ⟨by rw [show min (onT T c L b p r) 1000000 = ((c r + nvT T b r) + (L ((2 * r) + 0))) from by unfold onT; rw [ar_0 c1]; omega], rfl⟩
    · refine z_ldc (v := nI 1000000) E dX7_onBy_53 kc_X7_181 ?_
      refine z_goto E dX7_onBy_55 60 (by decide) ?_
      refine z_iret E Er dX7_onBy_60 ?_
      exact ⟨by rw [show min (onT T c L b p r) 1000000 = 1000000 from by unfold onT; rw [ar_0 c1]; omega], rfl⟩
  · refine z_iconst (v := (nI 1)) E dX7_onBy_36 (by decide) ?_
    refine z_goto E dX7_onBy_37 41 (by decide) ?_
    refine z_iaddN E dX7_onBy_41 ?_
    refine z_ialdN (f := (M.2 26)) E dX7_onBy_42 14 rfl (by omega) (by decide) ?_
    refine z_topi (y := nI (L ((2 * r) + 1))) (congrArg nI (hl ((2 * r) + 1) (by omega))) ?_
    refine z_iaddN E dX7_onBy_43 ?_
    have e1 := hcl r hr
    have e2 := nvT_le T b r
    have e3 := hLl (2 * r + 1) (by omega)
    have e4 := hLl (2 * r + 0) (by omega)
    refine z_istore (lv' := [(0, .ref a), (1, .int (nI p)), (2, .int (nI b)), (3, .int (nI r)), (4, .int (nI (otherT T r p))), (5, .int (nI ((c r + nvT T b r) + (L ((2 * r) + 1)))))]) E dX7_onBy_44 (by decide) rfl ?_
    refine z_iload E dX7_onBy_46 5 rfl ?_
    refine z_ldc (v := nI 1000000) E dX7_onBy_48 kc_X7_181 ?_
    refine z_icmpN_le E dX7_onBy_50 58 (by decide) (by omega) (by decide) (fun c2 => ?_) (fun c2 => ?_)
    · refine z_iload E dX7_onBy_58 5 rfl ?_
      refine z_iret E Er dX7_onBy_60 ?_
      exact ⟨by rw [show min (onT T c L b p r) 1000000 = ((c r + nvT T b r) + (L ((2 * r) + 1))) from by unfold onT; rw [ar_1 (hT.wf.2 r hr) c1]; omega], rfl⟩
    · refine z_ldc (v := nI 1000000) E dX7_onBy_53 kc_X7_181 ?_
      refine z_goto E dX7_onBy_55 60 (by decide) ?_
      refine z_iret E Er dX7_onBy_60 ?_
      exact ⟨by rw [show min (onT T c L b p r) 1000000 = 1000000 from by unfold onT; rw [ar_1 (hT.wf.2 r hr) c1]; omega], rfl⟩

set_option maxHeartbeats 4000000 in
set_option maxRecDepth 100000 in
theorem l_far (g : GC) (a : Nat) (h : Nat → Nat) (M : NS) (p : Nat) (b : Nat) (T : NS) (c : Nat → Nat) (o : Nat) (L : Nat → Nat) (hT : tdI T) (hM : mrT T M) (hc : ∀ r, r < T.1 1 → M.2 24 r = c r) (hcl : ∀ r, r < T.1 1 → c r ≤ 100000) (ho : M.1 25 = o) (ho2 : o < 2 ^ 31) (hl : ∀ k, k < 2 * T.1 1 → M.2 26 k = L k) (hLl : ∀ k, k < 2 * T.1 1 → L k ≤ 1000000) (hp : p < 2 ^ 31) (hbR : b ≤ T.1 1) (X : XC) (E : Ob g X cX7_farFrom 6 RX7) (hX : X.2.2.1 = zR 3 0 0) (K : ∀ (z : Nat), (z = farL T c o L b p (T.1 1)) → Z g X 6 0 0 (wMod g a h M) [(0, .ref a), (1, .int (nI p)), (2, .int (nI b)), (3, .int (nI z))] [] 81) : ∀ (n : Nat) (i : Nat) (z : Nat), (i ≤ T.1 1) → (z = farL T c o L b p i) → (T.1 1 < i + n) → Z g X 6 0 0 (wMod g a h M) [(0, .ref a), (1, .int (nI p)), (2, .int (nI b)), (3, .int (nI z)), (4, .int (nI i))] [] 18 := by
  intro n
  induction n with
  | zero =>
    intro i z hi hz hf
    have hR := hT.2.2.1
    have hb := hT.2.1.2
    have h4 := hT.2.2.2.2.2.1
    have hg3 := hT.2.2.2.2.1
    have hzl := farL_le T c o L b p i
    exfalso; omega
  | succ n ih =>
    intro i z hi hz hf
    have hR := hT.2.2.1
    have hb := hT.2.1.2
    have h4 := hT.2.2.2.2.2.1
    have hg3 := hT.2.2.2.2.1
    have hzl := farL_le T c o L b p i
    refine z_iload E dX7_farFrom_18 4 rfl ?_
    refine z_aload_n E dX7_farFrom_20 0 rfl rfl ?_
    refine gt_X7_13 (v := .ref (h 9)) E dX7_farFrom_21 0 rfl rfl ?_
    refine z_iconst (v := (nI 1)) E dX7_farFrom_24 (by decide) ?_
    refine z_ialdN (f := (M.2 9)) E dX7_farFrom_25 2 rfl (by decide) (by decide) ?_
    refine z_topi (y := nI (T.1 1)) (congrArg nI (hM.1 1 (by decide))) ?_
    refine z_icmpN_ge E dX7_farFrom_26 81 (by decide) (by omega) (hT.1.1 _) (fun c1 => ?_) (fun c1 => ?_)
    · refine z_lv [0, 1, 2, 3] rfl ?_; exact K z (by rw [hz, show i = T.1 1 by omega])
    · refine z_aload_n E dX7_farFrom_29 0 rfl rfl ?_
      refine gt_X7_163 (v := .int (nI (M.1 25))) E dX7_farFrom_30 0 rfl rfl ?_
      refine z_topi (y := nI o) (congrArg nI (ho)) ?_
      refine z_iload E dX7_farFrom_33 4 rfl ?_
      refine z_ishrN E dX7_farFrom_35 (by omega) (by omega) ?_
      refine z_iconst (v := (nI 1)) E dX7_farFrom_36 (by decide) ?_
      refine z_iandN E dX7_farFrom_37 ?_
      refine z_topi (tb_bI o i) ?_
      refine z_iconst (v := (nI 1)) E dX7_farFrom_38 (by decide) ?_
      refine z_icmpB1_ne E dX7_farFrom_39 75 (by decide) (fun c2 => ?_) (fun c2 => ?_)
      · refine z_iincN (lv' := [(0, .ref a), (1, .int (nI p)), (2, .int (nI b)), (3, .int (nI z)), (4, .int (nI (i + 1)))]) E dX7_farFrom_75 4 rfl (by decide) rfl ?_
        refine z_goto E dX7_farFrom_78 18 (by decide) ?_
        exact ih (i + 1) z (by omega) (by rw [farL_s, if_neg (by unfold okR; rw [c2]; simp)]; exact hz) (by omega)
      · refine z_aload_n E dX7_farFrom_42 0 rfl rfl ?_
        refine z_iload E dX7_farFrom_43 4 rfl ?_
        refine z_iload_n E dX7_farFrom_45 1 rfl rfl ?_
        refine z_ro0 E (rV E hX (c_X7_isAt g a h M i p T hT hM (by omega) (by omega)) mw_X7_isAt ml_X7_146 dX7_farFrom_46 (Nat.le_of_ble_eq_true rfl) ⟨(Nat.le_of_ble_eq_true rfl), (Nat.le_of_ble_eq_true rfl)⟩ rfl rfl (Nat.le_of_ble_eq_true rfl) 0 rfl rfl) ?_
        refine z_ifB_eq E dX7_farFrom_49 75 (by decide) (fun c3 => ?_) (fun c3 => ?_)
        · refine z_iincN (lv' := [(0, .ref a), (1, .int (nI p)), (2, .int (nI b)), (3, .int (nI z)), (4, .int (nI (i + 1)))]) E dX7_farFrom_75 4 rfl (by decide) rfl ?_
          refine z_goto E dX7_farFrom_78 18 (by decide) ?_
          exact ih (i + 1) z (by omega) (by rw [farL_s, if_neg (by unfold okR; rw [c3]; simp)]; exact hz) (by omega)
        · refine z_aload_n E dX7_farFrom_52 0 rfl rfl ?_
          refine z_iload_n E dX7_farFrom_53 1 rfl rfl ?_
          refine z_iload_n E dX7_farFrom_54 2 rfl rfl ?_
          refine z_iload E dX7_farFrom_55 4 rfl ?_
          refine z_ro0 E (rV E hX (c_X7_onBy g a h M p b i T c o L hT hM hc hcl ho ho2 hl hLl (by omega) (by omega) (by omega)) mw_X7_onBy ml_X7_182 dX7_farFrom_57 (Nat.le_of_ble_eq_true rfl) ⟨(Nat.le_of_ble_eq_true rfl), (Nat.le_of_ble_eq_true rfl)⟩ rfl rfl (Nat.le_of_ble_eq_true rfl) 0 rfl rfl) ?_
          refine z_istore (lv' := [(0, .ref a), (1, .int (nI p)), (2, .int (nI b)), (3, .int (nI z)), (4, .int (nI i)), (5, .int (nI (min (onT T c L b p i) 1000000)))]) E dX7_farFrom_60 (by decide) rfl ?_
          refine z_iload E dX7_farFrom_62 5 rfl ?_
          refine z_iload_n E dX7_farFrom_64 3 rfl rfl ?_
          refine z_icmpN_ge E dX7_farFrom_65 73 (by decide) (by omega) (by omega) (fun c4 => ?_) (fun c4 => ?_)
          · refine z_iload_n E dX7_farFrom_73 3 rfl rfl ?_
            refine z_istore_n (lv' := [(0, .ref a), (1, .int (nI p)), (2, .int (nI b)), (3, .int (nI z)), (4, .int (nI i)), (5, .int (nI (min (onT T c L b p i) 1000000)))]) E dX7_farFrom_74 3 rfl (by decide) rfl ?_
            refine z_iincN (lv' := [(0, .ref a), (1, .int (nI p)), (2, .int (nI b)), (3, .int (nI z)), (4, .int (nI (i + 1))), (5, .int (nI (min (onT T c L b p i) 1000000)))]) E dX7_farFrom_75 4 rfl (by decide) rfl ?_
            refine z_goto E dX7_farFrom_78 18 (by decide) ?_
            refine z_lv [0, 1, 2, 3, 4] rfl ?_; exact ih (i + 1) z (by omega) (by rw [farL_s, if_pos (by unfold okR; rw [c2, c3]; rfl), ← hz]; omega) (by omega)
          · refine z_iload E dX7_farFrom_68 5 rfl ?_
            refine z_goto E dX7_farFrom_70 74 (by decide) ?_
            refine z_istore_n (lv' := [(0, .ref a), (1, .int (nI p)), (2, .int (nI b)), (3, .int (nI (min (onT T c L b p i) 1000000))), (4, .int (nI i)), (5, .int (nI (min (onT T c L b p i) 1000000)))]) E dX7_farFrom_74 3 rfl (by decide) rfl ?_
            refine z_iincN (lv' := [(0, .ref a), (1, .int (nI p)), (2, .int (nI b)), (3, .int (nI (min (onT T c L b p i) 1000000))), (4, .int (nI (i + 1))), (5, .int (nI (min (onT T c L b p i) 1000000)))]) E dX7_farFrom_75 4 rfl (by decide) rfl ?_
            refine z_goto E dX7_farFrom_78 18 (by decide) ?_
            refine z_lv [0, 1, 2, 3, 4] rfl ?_; exact ih (i + 1) (min (onT T c L b p i) 1000000) (by omega) (by rw [farL_s, if_pos (by unfold okR; rw [c2, c3]; rfl), ← hz]; omega) (by omega)

set_option maxHeartbeats 4000000 in
set_option maxRecDepth 100000 in
theorem c_X7_farFrom (g : GC) (a : Nat) (h : Nat → Nat) (M : NS) (p : Nat) (b : Nat) (T : NS) (c : Nat → Nat) (o : Nat) (L : Nat → Nat) (hT : tdI T) (hM : mrT T M) (hc : ∀ r, r < T.1 1 → M.2 24 r = c r) (hcl : ∀ r, r < T.1 1 → c r ≤ 100000) (ho : M.1 25 = o) (ho2 : o < 2 ^ 31) (hl : ∀ k, k < 2 * T.1 1 → M.2 26 k = L k) (hLl : ∀ k, k < 2 * T.1 1 → L k ≤ 1000000) (hp : p < 2 ^ 31) (hbR : b ≤ T.1 1) : Ct g yX7_farFrom cX7_farFrom 6 (some .int) 3 0 0 [.ref a, .int (nI p), .int (nI b)] (wMod g a h M) (DI (nI (farT T c o L b p)) (wMod g a h M)) := by
  refine Ct.of (by decide) (Nat.le_of_ble_eq_true rfl) ?_
  intro X E Er hX _ hnm
  have E : Ob g X cX7_farFrom 6 RX7 := E
  have hR := hT.2.2.1
  have hb := hT.2.1.2
  have h4 := hT.2.2.2.2.2.1
  have hg3 := hT.2.2.2.2.1
  refine z_lve (lv' := [(0, .ref a), (1, .int (nI p)), (2, .int (nI b))]) rfl ?_
  refine z_iload_n E dX7_farFrom_0 1 rfl rfl ?_
  refine z_aload_n E dX7_farFrom_1 0 rfl rfl ?_
  refine gt_X7_13 (v := .ref (h 9)) E dX7_farFrom_2 0 rfl rfl ?_
  refine z_iconst (v := (nI 3)) E dX7_farFrom_5 (by decide) ?_
  refine z_ialdN (f := (M.2 9)) E dX7_farFrom_6 2 rfl (by decide) (by decide) ?_
  refine z_topi (y := nI (T.1 3)) (congrArg nI (hM.1 3 (by decide))) ?_
  refine z_icmpN_ne E dX7_farFrom_7 12 (by decide) (by omega) (hT.1.1 _) (fun c1 => ?_) (fun c1 => ?_)
  · refine z_ldc (v := nI 1000000) E dX7_farFrom_12 kc_X7_181 ?_
    refine z_istore_n (lv' := [(0, .ref a), (1, .int (nI p)), (2, .int (nI b)), (3, .int (nI 1000000))]) E dX7_farFrom_14 3 rfl (by decide) rfl ?_
    refine z_iconst (v := (nI 0)) E dX7_farFrom_15 (by decide) ?_
    refine z_istore (lv' := [(0, .ref a), (1, .int (nI p)), (2, .int (nI b)), (3, .int (nI 1000000)), (4, .int (nI 0))]) E dX7_farFrom_16 (by decide) rfl ?_
    refine l_far g a h M p b T c o L hT hM hc hcl ho ho2 hl hLl hp hbR X E hX (fun z hz => ?_) (T.1 1 + 1) 0 1000000 (by omega) rfl (by omega)
    refine z_iload_n E dX7_farFrom_81 3 rfl rfl ?_
    refine z_iret E Er dX7_farFrom_82 ?_
    exact ⟨by unfold farT; rw [if_neg c1, hz], rfl⟩
  · refine z_iconst (v := (nI 0)) E dX7_farFrom_10 (by decide) ?_
    refine z_iret E Er dX7_farFrom_11 ?_
    exact ⟨by unfold farT; rw [if_pos c1], rfl⟩

def anM (T P M : NS) : NS := sF (sA M 24 (fun r => if r < T.1 1 then cT T P r else M.2 24 r)) 25 (opn T P)
theorem an_up (T P : NS) (f : Nat → Nat) (i : Nat) : va_up (fun r => if r < i then cT T P r else f r) i (T.2 8 i + P.2 5 i) = fun r => if r < i + 1 then cT T P r else f r := by
  funext r
  unfold va_up
  by_cases h : r = i
  · rw [if_pos h, if_pos (by omega), h]; rfl
  · rw [if_neg h]
    dsimp only
    by_cases q : r < i
    · rw [if_pos q, if_pos (by omega)]
    · rw [if_neg q, if_neg (by omega)]

set_option maxHeartbeats 4000000 in
set_option maxRecDepth 100000 in
theorem l_asNow (g : GC) (a : Nat) (h : Nat → Nat) (M : NS) (T : NS) (P : NS) (hT : tdI T) (hM : mrT T M) (hP : pnI T P) (hN : mrP P M) (X : XC) (E : Ob g X cX7_asNow 2 RX7) (hX : X.2.2.1 = zR 1 0 0) (K : ∀ (f : Nat → Nat), (f = fun r => if r < T.1 1 then cT T P r else M.2 24 r) → Z g X 2 0 0 (wMod g a h (sA M 24 f)) [(0, .ref a)] [] 39) : ∀ (n : Nat) (i : Nat) (f : Nat → Nat), (i ≤ T.1 1) → (f = fun r => if r < i then cT T P r else M.2 24 r) → (T.1 1 < i + n) → Z g X 2 0 0 (wMod g a h (sA M 24 f)) [(0, .ref a), (1, .int (nI i))] [] 2 := by
  intro n
  induction n with
  | zero =>
    intro i f hi hz hf
    have hR := hT.2.2.1
    have hb := hT.2.1.2
    have h4 := hT.2.2.2.2.2.1
    have hg3 := hT.2.2.2.2.1
    exfalso; omega
  | succ n ih =>
    intro i f hi hz hf
    have hR := hT.2.2.1
    have hb := hT.2.1.2
    have h4 := hT.2.2.2.2.2.1
    have hg3 := hT.2.2.2.2.1
    refine z_iload_n E dX7_asNow_2 1 rfl rfl ?_
    refine z_aload_n E dX7_asNow_3 0 rfl rfl ?_
    refine gt_X7_13 (v := .ref (h 9)) E dX7_asNow_4 0 rfl rfl ?_
    refine z_iconst (v := (nI 1)) E dX7_asNow_7 (by decide) ?_
    refine z_ialdN (f := (M.2 9)) E dX7_asNow_8 2 rfl (by decide) (by decide) ?_
    refine z_topi (y := nI (T.1 1)) (congrArg nI (hM.1 1 (by decide))) ?_
    refine z_icmpN_ge E dX7_asNow_9 39 (by decide) (by omega) (hT.1.1 _) (fun c1 => ?_) (fun c1 => ?_)
    · refine z_lv [0] rfl ?_; exact K f (by rw [hz, show i = T.1 1 by omega])
    · refine z_aload_n E dX7_asNow_12 0 rfl rfl ?_
      refine gt_X7_47 (v := .ref (h 24)) E dX7_asNow_13 0 rfl rfl ?_
      refine z_iload_n E dX7_asNow_16 1 rfl rfl ?_
      refine z_aload_n E dX7_asNow_17 0 rfl rfl ?_
      refine gt_X7_19 (v := .ref (h 12)) E dX7_asNow_18 0 rfl rfl ?_
      refine z_iload_n E dX7_asNow_21 1 rfl rfl ?_
      refine z_ialdN (f := (M.2 12)) E dX7_asNow_22 4 rfl (by omega) (by decide) ?_
      refine z_topi (y := nI ((T.2 8) i)) (congrArg nI ((hM.2 i (by omega)).2.2.1)) ?_
      refine z_aload_n E dX7_asNow_23 0 rfl rfl ?_
      refine gt_X7_25 (v := .ref (h 14)) E dX7_asNow_24 0 rfl rfl ?_
      refine z_iconst (v := (nI 5)) E dX7_asNow_27 (by decide) ?_
      refine z_iload_n E dX7_asNow_28 1 rfl rfl ?_
      refine z_iaddN E dX7_asNow_29 ?_
      refine z_ialdN (f := (M.2 14)) E dX7_asNow_30 6 rfl (by omega) (by decide) ?_
      refine z_topi (y := nI ((P.2 5) i)) (congrArg nI (hN.2 i (by omega))) ?_
      refine z_iaddN E dX7_asNow_31 ?_
      refine z_iastN (f := f) (i := i) (x := (((T.2 8) i) + ((P.2 5) i))) (ws' := wMod g a h (sA M 24 (va_up f i (((T.2 8) i) + ((P.2 5) i))))) E dX7_asNow_32 13 rfl (by omega) (by decide) rfl ?_
      refine z_iincN (lv' := [(0, .ref a), (1, .int (nI (i + 1)))]) E dX7_asNow_33 1 rfl (by decide) rfl ?_
      refine z_goto E dX7_asNow_36 2 (by decide) ?_
      exact ih (i + 1) (va_up f i (((T.2 8) i) + ((P.2 5) i))) (by omega) (by rw [hz]; exact an_up T P (M.2 24) i) (by omega)

set_option maxHeartbeats 4000000 in
set_option maxRecDepth 100000 in
theorem c_X7_asNow (g : GC) (a : Nat) (h : Nat → Nat) (M : NS) (T : NS) (P : NS) (hT : tdI T) (hM : mrT T M) (hP : pnI T P) (hN : mrP P M) : Ct g yX7_asNow cX7_asNow 2 none 1 0 0 [.ref a] (wMod g a h M) (DV (wMod g a h (anM T P M))) := by
  refine Ct.of (by decide) (Nat.le_of_ble_eq_true rfl) ?_
  intro X E Er hX _ hnm
  have E : Ob g X cX7_asNow 2 RX7 := E
  have hR := hT.2.2.1
  have hb := hT.2.1.2
  have h4 := hT.2.2.2.2.2.1
  have hg3 := hT.2.2.2.2.1
  refine z_lve (lv' := [(0, .ref a)]) rfl ?_
  refine z_iconst (v := (nI 0)) E dX7_asNow_0 (by decide) ?_
  refine z_istore_n (lv' := [(0, .ref a), (1, .int (nI 0))]) E dX7_asNow_1 1 rfl (by decide) rfl ?_
  refine l_asNow g a h M T P hT hM hP hN X E hX (fun f hz => ?_) (T.1 1 + 1) 0 (M.2 24) (by omega) (by funext r; rw [if_neg (Nat.not_lt_zero r)]) (by omega)
  subst hz
  refine z_aload_n E dX7_asNow_39 0 rfl rfl ?_
  refine z_aload_n E dX7_asNow_40 0 rfl rfl ?_
  refine z_ro0 E (rV E hX (c_X7_openNow g a h (sA M 24 (fun r => if r < T.1 1 then cT T P r else M.2 24 r)) T P hT hM hP hN) mw_X7_openNow ml_X7_153 dX7_asNow_41 (Nat.le_of_ble_eq_true rfl) ⟨(Nat.le_of_ble_eq_true rfl), (Nat.le_of_ble_eq_true rfl)⟩ rfl rfl (Nat.le_of_ble_eq_true rfl) 0 rfl rfl) ?_
  refine pt_X7_163 (x := nI (opn T P)) (ws' := wMod g a h (sA (sF M 25 (opn T P)) 24 (fun r => if r < T.1 1 then cT T P r else M.2 24 r))) E dX7_asNow_44 0 rfl (Nat.le_of_ble_eq_true rfl) rfl ?_
  refine z_vret E Er dX7_asNow_47 ?_
  exact ⟨rfl, rfl⟩
