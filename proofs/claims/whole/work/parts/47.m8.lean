def kpI (W I0 I1 M : NS) : Prop := (∀ i, i < 2 → M.2 16 i = W.2 13 i) ∧ (W.2 13 0 ≠ 0 → blk (M.2 15) 0 I0) ∧ (W.2 13 1 ≠ 0 → blk (M.2 15) 1 I1)
/-- nothing changed but the images -/
def mK (M M2 : NS) : Prop := (∀ k, 0 < k → k < 24 → M2.1 k = M.1 k) ∧ ∀ i, i < 24 → i ≠ 15 → i ≠ 16 → M2.2 i = M.2 i
theorem mK.rf (M : NS) : mK M M := ⟨fun _ _ _ => rfl, fun _ _ _ _ => rfl⟩
theorem mK.F {M X : NS} (h : mK M X) {k v : Nat} (hk : k = 0 ∨ 24 ≤ k) : mK M (sF X k v) := ⟨fun j h1 h2 => by
  show va_up X.1 k v j = _
  unfold va_up
  rw [if_neg (by omega)]
  exact h.1 j h1 h2, h.2⟩
theorem mK.A {M X : NS} (h : mK M X) {k : Nat} {f : Nat → Nat} (hk : 24 ≤ k ∨ k = 15 ∨ k = 16) : mK M (sA X k f) := ⟨h.1, fun j h1 h2 h3 => by
  show va_up X.2 k f j = _
  unfold va_up
  rw [if_neg (by omega)]
  exact h.2 j h1 h2 h3⟩
theorem kp_keep {W I0 I1 M P M2 : NS} {i : Nat} {f : Nat → Nat} (h : kpI W I0 I1 M) (hN : mrP P M) (hi : i ≤ 1) (hz : ∀ k, k < 17 → f (17 * i + k) = M.2 14 k) (hA : ∀ j, j < 17 * i ∨ 17 * i + 17 ≤ j → f j = M.2 15 j) (e1 : M2.2 15 = f) (e2 : M2.2 16 = va_up (M.2 16) i 1) : kpI (sA W 13 (va_up (W.2 13) i 1)) (if nI i = nI 0 then P else I0) (if nI i = nI 1 then P else I1) M2 := by
  have hP : blk f i P := ⟨fun j hj => by rw [hz j (by omega)]; exact hN.1 j hj, fun r hr => by rw [hz (5 + r) (by omega)]; exact hN.2 r hr⟩
  refine ⟨fun j hj => ?_, ?_, ?_⟩
  · rw [e2]
    show va_up (M.2 16) i 1 j = va_up (W.2 13) i 1 j
    unfold va_up
    split
    · rfl
    · exact h.1 j hj
  · rw [e1]
    show va_up (W.2 13) i 1 0 ≠ 0 → _
    rcases (show i = 0 ∨ i = 1 by omega) with rfl | rfl
    · intro _; rw [if_pos rfl]; exact hP
    · intro q
      rw [if_neg (by decide)]
      have := h.2.1 q
      exact ⟨fun j hj => by rw [hA _ (by omega)]; exact this.1 j hj, fun r hr => by rw [hA _ (by omega)]; exact this.2 r hr⟩
  · rw [e1]
    show va_up (W.2 13) i 1 1 ≠ 0 → _
    rcases (show i = 0 ∨ i = 1 by omega) with rfl | rfl
    · intro q
      rw [if_neg (by decide)]
      have := h.2.2 q
      exact ⟨fun j hj => by rw [hA _ (by omega)]; exact this.1 j hj, fun r hr => by rw [hA _ (by omega)]; exact this.2 r hr⟩
    · intro _; rw [if_pos rfl]; exact hP
theorem kp_back {W I0 I1 M : NS} {i : Nat} (h : kpI W I0 I1 M) (hi : i ≤ 1) (h0 : W.2 13 i ≠ 0) : blk (M.2 15) i (imV (nI i) I0 I1) := by
  rcases (show i = 0 ∨ i = 1 by omega) with rfl | rfl
  · exact h.2.1 h0
  · exact h.2.2 h0

set_option maxHeartbeats 4000000 in
set_option maxRecDepth 100000 in
theorem l_mkeep (g : GC) (a : Nat) (h : Nat → Nat) (M : NS) (n2 : Nat) (W : NS) (I0 : NS) (I1 : NS) (P : NS) (hn2 : n2 ≤ 1) (X : XC) (E : Ob g X cX7_keep 3 RX7) (hX : X.2.2.1 = zR 1 0 0) (K : ∀ (f : Nat → Nat), (∀ k, k < 17 → f (17 * n2 + k) = M.2 14 k) → (∀ j, j < 17 * n2 ∨ 17 * n2 + 17 ≤ j → f j = M.2 15 j) → Z g X 3 0 0 (wMod g a h (sA (sF M 0 0) 15 f)) [(0, .ref a), (1, .int (nI n2))] [] 47) : ∀ (n : Nat) (i : Nat) (f : Nat → Nat), (i ≤ 17) → (∀ k, k < i → f (17 * n2 + k) = M.2 14 k) → (∀ j, j < 17 * n2 ∨ 17 * n2 + 17 ≤ j → f j = M.2 15 j) → (17 < i + n) → Z g X 3 0 0 (wMod g a h (sA (sF M 0 0) 15 f)) [(0, .ref a), (1, .int (nI n2)), (2, .int (nI i))] [] 18 := by
  intro n
  induction n with
  | zero =>
    intro i f hi hz hA hf
    exfalso; omega
  | succ n ih =>
    intro i f hi hz hA hf
    refine z_iload_n E dX7_keep_18 2 rfl rfl ?_
    refine z_bipush (v := (nI 17)) E dX7_keep_19 (by decide) ?_
    refine z_icmpN_ge E dX7_keep_21 47 (by decide) (by omega) (by decide) (fun c1 => ?_) (fun c1 => ?_)
    · refine z_lv [0, 1] rfl ?_; exact K f (fun k hk => hz k (by omega)) hA
    · refine z_aload_n E dX7_keep_24 0 rfl rfl ?_
      refine gt_X7_28 (v := .ref (h 15)) E dX7_keep_25 0 rfl rfl ?_
      refine z_bipush (v := (nI 17)) E dX7_keep_28 (by decide) ?_
      refine z_iload_n E dX7_keep_30 1 rfl rfl ?_
      refine z_imulN E dX7_keep_31 ?_
      refine z_iload_n E dX7_keep_32 2 rfl rfl ?_
      refine z_iaddN E dX7_keep_33 ?_
      refine z_aload_n E dX7_keep_34 0 rfl rfl ?_
      refine gt_X7_25 (v := .ref (h 14)) E dX7_keep_35 0 rfl rfl ?_
      refine z_iload_n E dX7_keep_38 2 rfl rfl ?_
      refine z_ialdN (f := (M.2 14)) E dX7_keep_39 6 rfl (by omega) (by decide) ?_
      refine z_iastN (f := f) (i := ((17 * n2) + i)) (x := ((M.2 14) i)) (ws' := wMod g a h (sA (sF M 0 0) 15 (va_up f ((17 * n2) + i) ((M.2 14) i)))) E dX7_keep_40 7 rfl (by omega) (by decide) rfl ?_
      refine z_iincN (lv' := [(0, .ref a), (1, .int (nI n2)), (2, .int (nI (i + 1)))]) E dX7_keep_41 2 rfl (by decide) rfl ?_
      refine z_goto E dX7_keep_44 18 (by decide) ?_
      exact ih (i + 1) (va_up f ((17 * n2) + i) ((M.2 14) i)) (by omega) (fun k hk => by unfold va_up; by_cases q : k = i; (rw [if_pos (by omega), q]); (rw [if_neg (by omega)]; exact hz k (by omega))) (fun j hj => by unfold va_up; rw [if_neg (by omega)]; exact hA j hj) (by omega)

set_option maxHeartbeats 4000000 in
set_option maxRecDepth 100000 in
theorem c_X7_keep (g : GC) (a : Nat) (h : Nat → Nat) (M : NS) (n : Int32) (W : NS) (I0 : NS) (I1 : NS) (P : NS) (hK : kpI W I0 I1 M) (hN : mrP P M) : Ct g yX7_keep cX7_keep 3 (some .int) 1 0 0 [.ref a, .int n] (wMod g a h M) (QI (fun r_ w_ => ∃ M2 : NS, r_ = (if wi n (nI 0) (nI 1) = true then nI (P.1 2) else -1) ∧ w_ = wMod g a h M2 ∧ (mK M M2 ∧ kpI (if wi n (nI 0) (nI 1) = true then sA W 13 (va_up (W.2 13) n.toNatClampNeg 1) else W) (if n = nI 0 then P else I0) (if n = nI 1 then P else I1) M2))) := by
  refine Ct.of (by decide) (Nat.le_of_ble_eq_true rfl) ?_
  intro X E Er hX _ hnm
  have E : Ob g X cX7_keep 3 RX7 := E
  refine z_lve (lv' := [(0, .ref a), (1, .int n)]) rfl ?_
  refine z_aload_n E dX7_keep_0 0 rfl rfl ?_
  refine z_iconst (v := (nI 0)) E dX7_keep_1 (by decide) ?_
  refine pt_X7_69 (x := nI 0) (ws' := wMod g a h (sF M 0 0)) E dX7_keep_2 0 rfl (Nat.le_of_ble_eq_true rfl) rfl ?_
  refine z_iload_n E dX7_keep_5 1 rfl rfl ?_
  refine z_iconst (v := (nI 0)) E dX7_keep_6 (by decide) ?_
  refine z_iconst (v := (nI 1)) E dX7_keep_7 (by decide) ?_
  refine z_se E (rS E hX (c_X7_in g n (nI 0) (nI 1)) mw_X7_in ms_X7_in ml_X7_73 dX7_keep_8 (Nat.le_of_ble_eq_true rfl) ⟨(Nat.le_of_ble_eq_true rfl), (Nat.le_of_ble_eq_true rfl)⟩ rfl rfl (Nat.le_of_ble_eq_true rfl)) ?_
  refine z_ifB_ne E dX7_keep_11 16 (by decide) (fun c1 => ?_) (fun c1 => ?_)
  · obtain ⟨n2, -, hn2, rfl⟩ := wi_nI (by decide) (by decide) c1
    refine z_iconst (v := (nI 0)) E dX7_keep_16 (by decide) ?_
    refine z_istore_n (lv' := [(0, .ref a), (1, .int (nI n2)), (2, .int (nI 0))]) E dX7_keep_17 2 rfl (by decide) rfl ?_
    refine l_mkeep g a h M n2 W I0 I1 P hn2 X E hX (fun f hz hA => ?_) 18 0 (M.2 15) (by omega) (fun k hk => absurd hk (Nat.not_lt_zero k)) (fun j hj => rfl) (by omega)
    refine z_aload_n E dX7_keep_47 0 rfl rfl ?_
    refine gt_X7_31 (v := .ref (h 16)) E dX7_keep_48 0 rfl rfl ?_
    refine z_iload_n E dX7_keep_51 1 rfl rfl ?_
    refine z_iconst (v := (nI 1)) E dX7_keep_52 (by decide) ?_
    refine z_zastN (f := (M.2 16)) (i := n2) (x := 1) (ws' := wMod g a h (sA (sA (sF M 0 0) 15 f) 16 (va_up (M.2 16) n2 1))) E dX7_keep_53 8 rfl (by omega) (by decide) (by decide) rfl ?_
    refine z_aload_n E dX7_keep_54 0 rfl rfl ?_
    refine gt_X7_25 (v := .ref (h 14)) E dX7_keep_55 0 rfl rfl ?_
    refine z_iconst (v := (nI 2)) E dX7_keep_58 (by decide) ?_
    refine z_ialdN (f := (M.2 14)) E dX7_keep_59 6 rfl (by decide) (by decide) ?_
    refine z_iret E Er dX7_keep_60 ?_
    exact ⟨_, rfl, _, by rw [if_pos c1]; exact congrArg nI (hN.1 2 (by decide)), rfl, (((mK.rf M).F (by omega)).A (by omega)).A (by omega), by rw [if_pos c1, nI_clamp (by omega)]; exact kp_keep hK hN hn2 hz hA rfl rfl⟩
  · refine z_iconst (v := (-1)) E dX7_keep_14 (by decide) ?_
    refine z_iret E Er dX7_keep_15 ?_
    exact ⟨_, rfl, _, by rw [if_neg (show ¬ wi n (nI 0) (nI 1) = true by rw [c1]; decide)], rfl, (mK.rf M).F (by omega), by rw [if_neg (show ¬ wi n (nI 0) (nI 1) = true by rw [c1]; decide), if_neg (wi01 c1).1, if_neg (wi01 c1).2]; exact hK⟩

set_option maxHeartbeats 4000000 in
set_option maxRecDepth 100000 in
theorem l_mback (g : GC) (a : Nat) (h : Nat → Nat) (M : NS) (n2 : Nat) (W : NS) (I0 : NS) (I1 : NS) (P : NS) (S : NS) (U : Nat → NS) (hn2 : n2 ≤ 1) (X : XC) (E : Ob g X cX7_back 3 RX7) (hX : X.2.2.1 = zR 1 0 0) (K : ∀ (f : Nat → Nat), (∀ k, k < 17 → f k = M.2 15 (17 * n2 + k)) → Z g X 3 0 0 (wMod g a h (sA (sF M 0 0) 14 f)) [(0, .ref a), (1, .int (nI n2))] [] 59) : ∀ (n : Nat) (i : Nat) (f : Nat → Nat), (i ≤ 17) → (∀ k, k < i → f k = M.2 15 (17 * n2 + k)) → (17 < i + n) → Z g X 3 0 0 (wMod g a h (sA (sF M 0 0) 14 f)) [(0, .ref a), (1, .int (nI n2)), (2, .int (nI i))] [] 30 := by
  intro n
  induction n with
  | zero =>
    intro i f hi hz hf
    exfalso; omega
  | succ n ih =>
    intro i f hi hz hf
    refine z_iload_n E dX7_back_30 2 rfl rfl ?_
    refine z_bipush (v := (nI 17)) E dX7_back_31 (by decide) ?_
    refine z_icmpN_ge E dX7_back_33 59 (by decide) (by omega) (by decide) (fun c1 => ?_) (fun c1 => ?_)
    · refine z_lv [0, 1] rfl ?_; exact K f (fun k hk => hz k (by omega))
    · refine z_aload_n E dX7_back_36 0 rfl rfl ?_
      refine gt_X7_25 (v := .ref (h 14)) E dX7_back_37 0 rfl rfl ?_
      refine z_iload_n E dX7_back_40 2 rfl rfl ?_
      refine z_aload_n E dX7_back_41 0 rfl rfl ?_
      refine gt_X7_28 (v := .ref (h 15)) E dX7_back_42 0 rfl rfl ?_
      refine z_bipush (v := (nI 17)) E dX7_back_45 (by decide) ?_
      refine z_iload_n E dX7_back_47 1 rfl rfl ?_
      refine z_imulN E dX7_back_48 ?_
      refine z_iload_n E dX7_back_49 2 rfl rfl ?_
      refine z_iaddN E dX7_back_50 ?_
      refine z_ialdN (f := (M.2 15)) E dX7_back_51 7 rfl (by omega) (by decide) ?_
      refine z_iastN (f := f) (i := i) (x := ((M.2 15) ((17 * n2) + i))) (ws' := wMod g a h (sA (sF M 0 0) 14 (va_up f i ((M.2 15) ((17 * n2) + i))))) E dX7_back_52 6 rfl (by omega) (by decide) rfl ?_
      refine z_iincN (lv' := [(0, .ref a), (1, .int (nI n2)), (2, .int (nI (i + 1)))]) E dX7_back_53 2 rfl (by decide) rfl ?_
      refine z_goto E dX7_back_56 30 (by decide) ?_
      exact ih (i + 1) (va_up f i ((M.2 15) ((17 * n2) + i))) (by omega) (fun k hk => by unfold va_up; by_cases q : k = i; (rw [if_pos q, q]); (rw [if_neg q]; exact hz k (by omega))) (by omega)

set_option maxHeartbeats 4000000 in
set_option maxRecDepth 100000 in
theorem c_X7_back (g : GC) (a : Nat) (h : Nat → Nat) (M : NS) (n : Int32) (W : NS) (I0 : NS) (I1 : NS) (P : NS) (S : NS) (U : Nat → NS) (hK : kpI W I0 I1 M) (hN : mrP P M) (hU : mrU S U M) (h13 : ∀ i, W.2 13 i ≤ 1) : Ct g yX7_back cX7_back 3 (some .int) 1 0 0 [.ref a, .int n] (wMod g a h M) (QI (fun r_ w_ => ∃ M2 : NS, r_ = (if wi n (nI 0) (nI 1) = true then (if bkC W n = true then nI ((imV n I0 I1).1 2) else -2) else -1) ∧ w_ = wMod g a h M2 ∧ (mQ M M2 ∧ mrU (if bkC W n = true then sF S 2 0 else S) U M2 ∧ mrP (if bkC W n = true then imV n I0 I1 else P) M2))) := by
  refine Ct.of (by decide) (Nat.le_of_ble_eq_true rfl) ?_
  intro X E Er hX _ hnm
  have E : Ob g X cX7_back 3 RX7 := E
  refine z_lve (lv' := [(0, .ref a), (1, .int n)]) rfl ?_
  refine z_aload_n E dX7_back_0 0 rfl rfl ?_
  refine z_iconst (v := (nI 0)) E dX7_back_1 (by decide) ?_
  refine pt_X7_69 (x := nI 0) (ws' := wMod g a h (sF M 0 0)) E dX7_back_2 0 rfl (Nat.le_of_ble_eq_true rfl) rfl ?_
  refine z_iload_n E dX7_back_5 1 rfl rfl ?_
  refine z_iconst (v := (nI 0)) E dX7_back_6 (by decide) ?_
  refine z_iconst (v := (nI 1)) E dX7_back_7 (by decide) ?_
  refine z_se E (rS E hX (c_X7_in g n (nI 0) (nI 1)) mw_X7_in ms_X7_in ml_X7_73 dX7_back_8 (Nat.le_of_ble_eq_true rfl) ⟨(Nat.le_of_ble_eq_true rfl), (Nat.le_of_ble_eq_true rfl)⟩ rfl rfl (Nat.le_of_ble_eq_true rfl)) ?_
  refine z_ifB_ne E dX7_back_11 16 (by decide) (fun c1 => ?_) (fun c1 => ?_)
  · obtain ⟨n2, -, hn2, rfl⟩ := wi_nI (by decide) (by decide) c1
    refine z_aload_n E dX7_back_16 0 rfl rfl ?_
    refine gt_X7_31 (v := .ref (h 16)) E dX7_back_17 0 rfl rfl ?_
    refine z_iload_n E dX7_back_20 1 rfl rfl ?_
    refine z_zaldN (f := (M.2 16)) E dX7_back_21 8 rfl (by omega) (by decide) ?_
    refine z_topi (y := nI ((W.2 13) n2)) (congrArg nI (hK.1 n2 (by omega))) ?_
    refine z_ifN_ne E dX7_back_22 28 (by decide) (by have := h13 n2; omega) (fun c2 => ?_) (fun c2 => ?_)
    · refine z_iconst (v := (nI 0)) E dX7_back_28 (by decide) ?_
      refine z_istore_n (lv' := [(0, .ref a), (1, .int (nI n2)), (2, .int (nI 0))]) E dX7_back_29 2 rfl (by decide) rfl ?_
      refine l_mback g a h M n2 W I0 I1 P S U hn2 X E hX (fun f hz => ?_) 18 0 (M.2 14) (by omega) (fun k hk => absurd hk (Nat.not_lt_zero k)) (by omega)
      refine z_aload_n E dX7_back_59 0 rfl rfl ?_
      refine z_iconst (v := (nI 0)) E dX7_back_60 (by decide) ?_
      refine pt_X7_140 (x := nI 0) (ws' := wMod g a h (sA (sF (sF M 0 0) 18 0) 14 f)) E dX7_back_61 0 rfl (Nat.le_of_ble_eq_true rfl) rfl ?_
      refine z_aload_n E dX7_back_64 0 rfl rfl ?_
      refine gt_X7_25 (v := .ref (h 14)) E dX7_back_65 0 rfl rfl ?_
      refine z_iconst (v := (nI 2)) E dX7_back_68 (by decide) ?_
      refine z_ialdN (f := f) E dX7_back_69 6 rfl (by decide) (by decide) ?_
      refine z_iret E Er dX7_back_70 ?_
      exact ⟨_, rfl, _, by rw [if_pos c1, if_pos (show bkC W (nI n2) = true by unfold bkC; rw [c1, nI_clamp (by omega)]; simp; exact c2), hz 2 (by decide)]; exact congrArg nI ((kp_back hK hn2 c2).1 2 (by decide)), rfl, (((mQ.rf M).F (by omega)).F (by omega)).A (by omega), by rw [if_pos (show bkC W (nI n2) = true by unfold bkC; rw [c1, nI_clamp (by omega)]; simp; exact c2)]; exact ⟨rfl, fun k hk => absurd hk (Nat.not_lt_zero k)⟩, by rw [if_pos (show bkC W (nI n2) = true by unfold bkC; rw [c1, nI_clamp (by omega)]; simp; exact c2)]; exact ⟨fun j hj => (hz j (by omega)).trans ((kp_back hK hn2 c2).1 j hj), fun r hr => (hz (5 + r) (by omega)).trans ((kp_back hK hn2 c2).2 r hr)⟩⟩
    · refine z_bipush (v := (-2)) E dX7_back_25 (by decide) ?_
      refine z_iret E Er dX7_back_27 ?_
      exact ⟨_, rfl, _, by rw [if_pos c1, if_neg (show ¬ bkC W (nI n2) = true by unfold bkC; rw [c1, nI_clamp (by omega), c2]; decide)], rfl, ((mQ.rf M).F (by omega)), by rw [if_neg (show ¬ bkC W (nI n2) = true by unfold bkC; rw [c1, nI_clamp (by omega), c2]; decide)]; exact hU, by rw [if_neg (show ¬ bkC W (nI n2) = true by unfold bkC; rw [c1, nI_clamp (by omega), c2]; decide)]; exact hN⟩
  · refine z_iconst (v := (-1)) E dX7_back_14 (by decide) ?_
    refine z_iret E Er dX7_back_15 ?_
    exact ⟨_, rfl, _, by rw [if_neg (show ¬ wi n (nI 0) (nI 1) = true by rw [c1]; decide)], rfl, ((mQ.rf M).F (by omega)), by rw [if_neg (bk_no c1)]; exact hU, by rw [if_neg (bk_no c1)]; exact hN⟩

theorem orF_m (T : NS) (o m i : Nat) : orF T o m (i + 1) = if o.testBit i = true then (orF T o m i ||| (cond (m.testBit (T.2 6 i)) 1 0) <<< T.2 7 i) ||| (cond (m.testBit (T.2 7 i)) 1 0) <<< T.2 6 i else orF T o m i := by
  rw [show orF T o m (i + 1) = if o.testBit i = true then (if m.testBit (T.2 7 i) = true then (if m.testBit (T.2 6 i) = true then orF T o m i ||| 1 <<< T.2 7 i else orF T o m i) ||| 1 <<< T.2 6 i else (if m.testBit (T.2 6 i) = true then orF T o m i ||| 1 <<< T.2 7 i else orF T o m i)) else orF T o m i from rfl]
  cases o.testBit i <;> cases m.testBit (T.2 6 i) <;> cases m.testBit (T.2 7 i) <;> simp

set_option maxHeartbeats 4000000 in
set_option maxRecDepth 100000 in
theorem l_mstep (g : GC) (a : Nat) (h : Nat → Nat) (M : NS) (m : Nat) (T : NS) (P : NS) (hT : tdI T) (hM : mrT T M) (hP : pnI T P) (hN : mrP P M) (hm : m < 2 ^ 31) (X : XC) (E : Ob g X cX7_stepped 4 RX7) (hX : X.2.2.1 = zR 1 0 0) (K : ∀ (z : Nat), (z = orF T (opn T P) m (T.1 1)) → Z g X 4 0 0 (wMod g a h M) [(0, .ref a), (1, .int (nI m)), (2, .int (nI z))] [] 84) : ∀ (n : Nat) (i : Nat) (z : Nat), (i ≤ T.1 1) → (z = orF T (opn T P) m i) → (T.1 1 < i + n) → Z g X 4 0 0 (wMod g a h M) [(0, .ref a), (1, .int (nI m)), (2, .int (nI z)), (3, .int (nI i))] [] 4 := by
  intro n
  induction n with
  | zero =>
    intro i z hi hz hf
    have hR := hT.2.2.1
    have hb := hT.2.1.2
    have hop := opn_lt P hR
    exfalso; omega
  | succ n ih =>
    intro i z hi hz hf
    have hR := hT.2.2.1
    have hb := hT.2.1.2
    have hop := opn_lt P hR
    refine z_iload_n E dX7_stepped_4 3 rfl rfl ?_
    refine z_aload_n E dX7_stepped_5 0 rfl rfl ?_
    refine gt_X7_13 (v := .ref (h 9)) E dX7_stepped_6 0 rfl rfl ?_
    refine z_iconst (v := (nI 1)) E dX7_stepped_9 (by decide) ?_
    refine z_ialdN (f := (M.2 9)) E dX7_stepped_10 2 rfl (by decide) (by decide) ?_
    refine z_topi (y := nI (T.1 1)) (congrArg nI (hM.1 1 (by decide))) ?_
    refine z_icmpN_ge E dX7_stepped_11 84 (by decide) (by omega) (hT.1.1 _) (fun c1 => ?_) (fun c1 => ?_)
    · refine z_lv [0, 1, 2] rfl ?_; exact K z (by rw [hz, show i = T.1 1 by omega])
    · refine z_aload_n E dX7_stepped_14 0 rfl rfl ?_
      refine z_ro0 E (rV E hX (c_X7_openNow g a h M T P hT hM hP hN) mw_X7_openNow ml_X7_153 dX7_stepped_15 (Nat.le_of_ble_eq_true rfl) ⟨(Nat.le_of_ble_eq_true rfl), (Nat.le_of_ble_eq_true rfl)⟩ rfl rfl (Nat.le_of_ble_eq_true rfl) 0 rfl rfl) ?_
      refine z_iload_n E dX7_stepped_18 3 rfl rfl ?_
      refine z_ishrN E dX7_stepped_19 (by have := opn_lt P hT.2.2.1; omega) (by omega) ?_
      refine z_iconst (v := (nI 1)) E dX7_stepped_20 (by decide) ?_
      refine z_iandN E dX7_stepped_21 ?_
      refine z_topi (tb_bI (opn T P) i) ?_
      refine z_iconst (v := (nI 1)) E dX7_stepped_22 (by decide) ?_
      refine z_icmpB1_ne E dX7_stepped_23 78 (by decide) (fun c2 => ?_) (fun c2 => ?_)
      · refine z_iincN (lv' := [(0, .ref a), (1, .int (nI m)), (2, .int (nI z)), (3, .int (nI (i + 1)))]) E dX7_stepped_78 3 rfl (by decide) rfl ?_
        refine z_goto E dX7_stepped_81 4 (by decide) ?_
        exact ih (i + 1) z (by omega) (by rw [orF_m, if_neg (by rw [c2]; decide), ← hz]) (by omega)
      · have h67 := hT.2.2.2.2.2.2.2.2.2 i c1
        refine z_iload_n E dX7_stepped_26 2 rfl rfl ?_
        refine z_iload_n E dX7_stepped_27 1 rfl rfl ?_
        refine z_aload_n E dX7_stepped_28 0 rfl rfl ?_
        refine gt_X7_16 (v := .ref (h 11)) E dX7_stepped_29 0 rfl rfl ?_
        refine z_iconst (v := (nI 2)) E dX7_stepped_32 (by decide) ?_
        refine z_iload_n E dX7_stepped_33 3 rfl rfl ?_
        refine z_imulN E dX7_stepped_34 ?_
        refine z_ialdN (f := (M.2 11)) E dX7_stepped_35 3 rfl (by omega) (by decide) ?_
        refine z_topi (y := nI ((T.2 6) i)) (congrArg nI ((hM.2 i (by omega)).1)) ?_
        refine z_ishrN E dX7_stepped_36 (by omega) (by omega) ?_
        refine z_iconst (v := (nI 1)) E dX7_stepped_37 (by decide) ?_
        refine z_iandN E dX7_stepped_38 ?_
        refine z_topi (tb_bI m ((T.2 6) i)) ?_
        refine z_aload_n E dX7_stepped_39 0 rfl rfl ?_
        refine gt_X7_16 (v := .ref (h 11)) E dX7_stepped_40 0 rfl rfl ?_
        refine z_iconst (v := (nI 2)) E dX7_stepped_43 (by decide) ?_
        refine z_iload_n E dX7_stepped_44 3 rfl rfl ?_
        refine z_imulN E dX7_stepped_45 ?_
        refine z_iconst (v := (nI 1)) E dX7_stepped_46 (by decide) ?_
        refine z_iaddN E dX7_stepped_47 ?_
        refine z_ialdN (f := (M.2 11)) E dX7_stepped_48 3 rfl (by omega) (by decide) ?_
        refine z_topi (y := nI ((T.2 7) i)) (congrArg nI ((hM.2 i (by omega)).2.1)) ?_
        refine z_st (st' := [.int (nI ((T.2 7) i)), .int (nI (cond (m.testBit ((T.2 6) i)) 1 0)), .int (nI z)]) (by rw [bI_nI (m.testBit ((T.2 6) i))]) ?_
        refine z_ishlN E dX7_stepped_49 (by omega) ?_
        refine z_iorN E dX7_stepped_50 ?_
        refine z_istore_n (lv' := [(0, .ref a), (1, .int (nI m)), (2, .int (nI (z ||| ((cond (m.testBit ((T.2 6) i)) 1 0) <<< ((T.2 7) i))))), (3, .int (nI i))]) E dX7_stepped_51 2 rfl (by decide) rfl ?_
        refine z_iload_n E dX7_stepped_52 2 rfl rfl ?_
        refine z_iload_n E dX7_stepped_53 1 rfl rfl ?_
        refine z_aload_n E dX7_stepped_54 0 rfl rfl ?_
        refine gt_X7_16 (v := .ref (h 11)) E dX7_stepped_55 0 rfl rfl ?_
        refine z_iconst (v := (nI 2)) E dX7_stepped_58 (by decide) ?_
        refine z_iload_n E dX7_stepped_59 3 rfl rfl ?_
        refine z_imulN E dX7_stepped_60 ?_
        refine z_iconst (v := (nI 1)) E dX7_stepped_61 (by decide) ?_
        refine z_iaddN E dX7_stepped_62 ?_
        refine z_ialdN (f := (M.2 11)) E dX7_stepped_63 3 rfl (by omega) (by decide) ?_
        refine z_topi (y := nI ((T.2 7) i)) (congrArg nI ((hM.2 i (by omega)).2.1)) ?_
        refine z_ishrN E dX7_stepped_64 (by omega) (by omega) ?_
        refine z_iconst (v := (nI 1)) E dX7_stepped_65 (by decide) ?_
        refine z_iandN E dX7_stepped_66 ?_
        refine z_topi (tb_bI m ((T.2 7) i)) ?_
        refine z_aload_n E dX7_stepped_67 0 rfl rfl ?_
        refine gt_X7_16 (v := .ref (h 11)) E dX7_stepped_68 0 rfl rfl ?_
        refine z_iconst (v := (nI 2)) E dX7_stepped_71 (by decide) ?_
        refine z_iload_n E dX7_stepped_72 3 rfl rfl ?_
        refine z_imulN E dX7_stepped_73 ?_
        refine z_ialdN (f := (M.2 11)) E dX7_stepped_74 3 rfl (by omega) (by decide) ?_
        refine z_topi (y := nI ((T.2 6) i)) (congrArg nI ((hM.2 i (by omega)).1)) ?_
        refine z_st (st' := [.int (nI ((T.2 6) i)), .int (nI (cond (m.testBit ((T.2 7) i)) 1 0)), .int (nI (z ||| ((cond (m.testBit ((T.2 6) i)) 1 0) <<< ((T.2 7) i))))]) (by rw [bI_nI (m.testBit ((T.2 7) i))]) ?_
        refine z_ishlN E dX7_stepped_75 (by omega) ?_
        refine z_iorN E dX7_stepped_76 ?_
        refine z_istore_n (lv' := [(0, .ref a), (1, .int (nI m)), (2, .int (nI ((z ||| ((cond (m.testBit ((T.2 6) i)) 1 0) <<< ((T.2 7) i))) ||| ((cond (m.testBit ((T.2 7) i)) 1 0) <<< ((T.2 6) i))))), (3, .int (nI i))]) E dX7_stepped_77 2 rfl (by decide) rfl ?_
        refine z_iincN (lv' := [(0, .ref a), (1, .int (nI m)), (2, .int (nI ((z ||| ((cond (m.testBit ((T.2 6) i)) 1 0) <<< ((T.2 7) i))) ||| ((cond (m.testBit ((T.2 7) i)) 1 0) <<< ((T.2 6) i))))), (3, .int (nI (i + 1)))]) E dX7_stepped_78 3 rfl (by decide) rfl ?_
        refine z_goto E dX7_stepped_81 4 (by decide) ?_
        exact ih (i + 1) ((z ||| ((cond (m.testBit ((T.2 6) i)) 1 0) <<< ((T.2 7) i))) ||| ((cond (m.testBit ((T.2 7) i)) 1 0) <<< ((T.2 6) i))) (by omega) (by rw [orF_m, if_pos c2, ← hz]) (by omega)

set_option maxHeartbeats 4000000 in
set_option maxRecDepth 100000 in
theorem c_X7_stepped (g : GC) (a : Nat) (h : Nat → Nat) (M : NS) (m : Nat) (T : NS) (P : NS) (hT : tdI T) (hM : mrT T M) (hP : pnI T P) (hN : mrP P M) (hm : m < 2 ^ 31) : Ct g yX7_stepped cX7_stepped 4 (some .int) 1 0 0 [.ref a, .int (nI m)] (wMod g a h M) (DI (nI (orF T (opn T P) m (T.1 1))) (wMod g a h M)) := by
  refine Ct.of (by decide) (Nat.le_of_ble_eq_true rfl) ?_
  intro X E Er hX _ hnm
  have E : Ob g X cX7_stepped 4 RX7 := E
  have hR := hT.2.2.1
  have hb := hT.2.1.2
  refine z_lve (lv' := [(0, .ref a), (1, .int (nI m))]) rfl ?_
  refine z_iconst (v := (nI 0)) E dX7_stepped_0 (by decide) ?_
  refine z_istore_n (lv' := [(0, .ref a), (1, .int (nI m)), (2, .int (nI 0))]) E dX7_stepped_1 2 rfl (by decide) rfl ?_
  refine z_iconst (v := (nI 0)) E dX7_stepped_2 (by decide) ?_
  refine z_istore_n (lv' := [(0, .ref a), (1, .int (nI m)), (2, .int (nI 0)), (3, .int (nI 0))]) E dX7_stepped_3 3 rfl (by decide) rfl ?_
  refine l_mstep g a h M m T P hT hM hP hN hm X E hX (fun z hz => ?_) (T.1 1 + 1) 0 0 (by omega) rfl (by omega)
  refine z_iload_n E dX7_stepped_84 2 rfl rfl ?_
  refine z_iret E Er dX7_stepped_85 ?_
  exact ⟨by rw [hz], rfl⟩

/-- where one can be, by what was SEEN (q = 1) or not (q = 0) -/
def wbF (T P W : NS) (q : Nat) : Nat → Nat
  | 0 => if q = 0 then 1 <<< P.1 0 else asF W (1 <<< P.1 0) 0 (W.1 11)
  | i + 1 => if q = 0 then orF T (opn T P) (wbF T P W q i) (T.1 1) else asF W (orF T (opn T P) (wbF T P W q i) (T.1 1)) (i + 1) (W.1 11)
theorem wbF_0 (T P W : NS) : ∀ i, wbF T P W 0 i = tuF T P i
  | 0 => rfl
  | i + 1 => by show orF T (opn T P) (wbF T P W 0 i) (T.1 1) = orF T (opn T P) (tuF T P i) (T.1 1); rw [wbF_0 T P W i]
theorem wbF_1 (T P W : NS) : ∀ i, wbF T P W 1 i = whF T P W i
  | 0 => rfl
  | i + 1 => by show asF W (orF T (opn T P) (wbF T P W 1 i) (T.1 1)) (i + 1) (W.1 11) = asF W (orF T (opn T P) (whF T P W i) (T.1 1)) (i + 1) (W.1 11); rw [wbF_1 T P W i]
def wbG (W : NS) (q m s i : Nat) : Nat := if q = 0 then m else asF W m s i
/-- what is kept between two rounds: the places before the next road -/
def wbP (T P W : NS) (q i : Nat) : Nat := if i = 0 then 1 <<< P.1 0 else wbF T P W q (i - 1)
def wbN (T P W : NS) (q i : Nat) : Nat := if i = 0 then 1 <<< P.1 0 else orF T (opn T P) (wbF T P W q (i - 1)) (T.1 1)
theorem wbG_end (T P W : NS) (q i : Nat) : wbG W q (wbN T P W q i) i (W.1 11) = wbF T P W q i := by
  have e : wbN T P W q i = if i = 0 then 1 <<< P.1 0 else orF T (opn T P) (wbF T P W q (i - 1)) (T.1 1) := rfl
  unfold wbG
  rw [e]
  cases i with
  | zero => rw [if_pos rfl]; rfl
  | succ i =>
    rw [if_neg (c := i + 1 = 0) (Nat.succ_ne_zero i), Nat.add_sub_cancel]
    rfl
theorem wbF_lt {T P W : NS} {q : Nat} (hT : tdI T) (h : P.1 0 < T.1 0) : ∀ i, wbF T P W q i < 256
  | 0 => by
    unfold wbF
    split
    · exact sh8 (Nat.lt_of_lt_of_le h hT.2.1.2)
    · exact Nat.lt_of_le_of_lt (asF_le _ _ _ _) (sh8 (Nat.lt_of_lt_of_le h hT.2.1.2))
  | i + 1 => by
    unfold wbF
    split
    · exact orF_lt hT _ _ _ (Nat.le_refl _)
    · exact Nat.lt_of_le_of_lt (asF_le _ _ _ _) (orF_lt hT _ _ _ (Nat.le_refl _))
theorem wbP_lt {T P W : NS} {q : Nat} (hT : tdI T) (h : P.1 0 < T.1 0) (i : Nat) : wbP T P W q i < 256 := by
  unfold wbP
  split
  · exact sh8 (Nat.lt_of_lt_of_le h hT.2.1.2)
  · exact wbF_lt hT h _
theorem wbN_lt {T P W : NS} {q : Nat} (hT : tdI T) (h : P.1 0 < T.1 0) (i : Nat) : wbN T P W q i < 256 := by
  unfold wbN
  split
  · exact sh8 (Nat.lt_of_lt_of_le h hT.2.1.2)
  · exact orF_lt hT _ _ _ (Nat.le_refl _)
theorem wbG_le (W : NS) (q m s i : Nat) : wbG W q m s i ≤ m := by
  unfold wbG
  split
  · exact Nat.le_refl _
  · exact asF_le _ _ _ _

set_option maxHeartbeats 4000000 in
set_option maxRecDepth 100000 in
theorem l_mwb1 (g : GC) (a : Nat) (h : Nat → Nat) (M : NS) (kk : Nat) (q : Nat) (T : NS) (P : NS) (W : NS) (hT : tdI T) (hM : mrT T M) (hP : pnI T P) (hN : mrP P M) (hW2 : mrW W M) (hW : tvI T W) (hkk : kk ≤ 8) (hq1 : q ≤ 1) (X : XC) (E : Ob g X cX7_whereBehind 6 RX7) (hX : X.2.2.1 = zR 2 0 0) (i : Nat) (hi : i ≤ 8) (K : ∀ (z : Nat), (z = wbF T P W q i) → Z g X 6 0 0 (wMod g a h M) [(0, .ref a), (1, .int (nI kk)), (2, .int (nI q)), (3, .int (nI z)), (4, .int (nI i))] [] 83) : ∀ (n : Nat) (e : Nat) (z : Nat), (e ≤ W.1 11) → (z = wbG W q (wbN T P W q i) i e) → (W.1 11 < e + n) → Z g X 6 0 0 (wMod g a h M) [(0, .ref a), (1, .int (nI kk)), (2, .int (nI q)), (3, .int (nI z)), (4, .int (nI i)), (5, .int (nI e))] [] 36 := by
  intro n
  induction n with
  | zero =>
    intro e z he hz hf
    have hR := hT.2.2.1
    have hb := hT.2.1.2
    have hw11 := hW.2.1
    have hg := wbG_le W q (wbN T P W q i) i e
    have hg2 := wbN_lt (W := W) (q := q) hT hP.2.1 i
    exfalso; omega
  | succ n ih =>
    intro e z he hz hf
    have hR := hT.2.2.1
    have hb := hT.2.1.2
    have hw11 := hW.2.1
    have hg := wbG_le W q (wbN T P W q i) i e
    have hg2 := wbN_lt (W := W) (q := q) hT hP.2.1 i
    refine z_iload E dX7_whereBehind_36 5 rfl ?_
    refine z_aload_n E dX7_whereBehind_38 0 rfl rfl ?_
    refine gt_X7_137 (v := .int (nI (M.1 23))) E dX7_whereBehind_39 0 rfl rfl ?_
    refine z_topi (y := nI (W.1 11)) (congrArg nI (hW2.2.2.1)) ?_
    refine z_icmpN_ge E dX7_whereBehind_42 83 (by decide) (by omega) (by omega) (fun c1 => ?_) (fun c1 => ?_)
    · refine z_lv [0, 1, 2, 3, 4] rfl ?_; exact K z (by rw [hz, show e = W.1 11 by omega]; exact wbG_end T P W q i)
    · have h910 := hW.2.2.2.1 e c1
      refine z_iload_n E dX7_whereBehind_45 2 rfl rfl ?_
      refine z_ifN_eq E dX7_whereBehind_46 75 (by decide) (by omega) (fun c2 => ?_) (fun c2 => ?_)
      · refine z_iload_n E dX7_whereBehind_75 3 rfl rfl ?_
        refine z_istore_n (lv' := [(0, .ref a), (1, .int (nI kk)), (2, .int (nI q)), (3, .int (nI z)), (4, .int (nI i)), (5, .int (nI e))]) E dX7_whereBehind_76 3 rfl (by decide) rfl ?_
        refine z_iincN (lv' := [(0, .ref a), (1, .int (nI kk)), (2, .int (nI q)), (3, .int (nI z)), (4, .int (nI i)), (5, .int (nI (e + 1)))]) E dX7_whereBehind_77 5 rfl (by decide) rfl ?_
        refine z_goto E dX7_whereBehind_80 36 (by decide) ?_
        exact ih (e + 1) z (by omega) (by unfold wbG; rw [if_pos c2]; unfold wbG at hz; rw [if_pos c2] at hz; exact hz) (by omega)
      · refine z_aload_n E dX7_whereBehind_49 0 rfl rfl ?_
        refine gt_X7_41 (v := .ref (h 21)) E dX7_whereBehind_50 0 rfl rfl ?_
        refine z_iload E dX7_whereBehind_53 5 rfl ?_
        refine z_ialdN (f := (M.2 21)) E dX7_whereBehind_55 11 rfl (by omega) (by decide) ?_
        refine z_topi (y := nI ((W.2 9) e)) (congrArg nI ((hW2.2.2.2.1 e (by omega)).1)) ?_
        refine z_iload E dX7_whereBehind_56 4 rfl ?_
        refine z_icmpN_ne E dX7_whereBehind_58 75 (by decide) (by omega) (by omega) (fun c3 => ?_) (fun c3 => ?_)
        · refine z_iload_n E dX7_whereBehind_75 3 rfl rfl ?_
          refine z_istore_n (lv' := [(0, .ref a), (1, .int (nI kk)), (2, .int (nI q)), (3, .int (nI z)), (4, .int (nI i)), (5, .int (nI e))]) E dX7_whereBehind_76 3 rfl (by decide) rfl ?_
          refine z_iincN (lv' := [(0, .ref a), (1, .int (nI kk)), (2, .int (nI q)), (3, .int (nI z)), (4, .int (nI i)), (5, .int (nI (e + 1)))]) E dX7_whereBehind_77 5 rfl (by decide) rfl ?_
          refine z_goto E dX7_whereBehind_80 36 (by decide) ?_
          exact ih (e + 1) z (by omega) (by unfold wbG; rw [if_neg c2, asF, if_neg c3]; unfold wbG at hz; rw [if_neg c2] at hz; rw [← hz]) (by omega)
        · refine z_iload_n E dX7_whereBehind_61 3 rfl rfl ?_
          refine z_iconst (v := (nI 1)) E dX7_whereBehind_62 (by decide) ?_
          refine z_aload_n E dX7_whereBehind_63 0 rfl rfl ?_
          refine gt_X7_44 (v := .ref (h 22)) E dX7_whereBehind_64 0 rfl rfl ?_
          refine z_iload E dX7_whereBehind_67 5 rfl ?_
          refine z_ialdN (f := (M.2 22)) E dX7_whereBehind_69 12 rfl (by omega) (by decide) ?_
          refine z_topi (y := nI ((W.2 10) e)) (congrArg nI ((hW2.2.2.2.1 e (by omega)).2)) ?_
          refine z_ishlN E dX7_whereBehind_70 (by omega) ?_
          refine z_iandN E dX7_whereBehind_71 ?_
          refine z_goto E dX7_whereBehind_72 76 (by decide) ?_
          refine z_istore_n (lv' := [(0, .ref a), (1, .int (nI kk)), (2, .int (nI q)), (3, .int (nI (z &&& (1 <<< ((W.2 10) e))))), (4, .int (nI i)), (5, .int (nI e))]) E dX7_whereBehind_76 3 rfl (by decide) rfl ?_
          refine z_iincN (lv' := [(0, .ref a), (1, .int (nI kk)), (2, .int (nI q)), (3, .int (nI (z &&& (1 <<< ((W.2 10) e))))), (4, .int (nI i)), (5, .int (nI (e + 1)))]) E dX7_whereBehind_77 5 rfl (by decide) rfl ?_
          refine z_goto E dX7_whereBehind_80 36 (by decide) ?_
          exact ih (e + 1) (z &&& (1 <<< ((W.2 10) e))) (by omega) (by unfold wbG; rw [if_neg c2, asF, if_pos c3]; unfold wbG at hz; rw [if_neg c2] at hz; rw [← hz]) (by omega)

theorem wb_a {T P W : NS} {q i z : Nat} (h : i = 0) (hz : z = wbP T P W q i) : z = wbG W q (wbN T P W q i) i 0 := by
  unfold wbG wbN
  unfold wbP at hz
  rw [if_pos h] at hz ⊢
  split
  · exact hz
  · exact hz
theorem wb_b {T P W : NS} {q i z : Nat} (h : i ≠ 0) (hz : z = wbP T P W q i) : orF T (opn T P) z (T.1 1) = wbG W q (wbN T P W q i) i 0 := by
  unfold wbG wbN
  unfold wbP at hz
  rw [if_neg h] at hz ⊢
  rw [hz]
  split
  · rfl
  · rfl

set_option maxHeartbeats 4000000 in
set_option maxRecDepth 100000 in
theorem l_mwb2 (g : GC) (a : Nat) (h : Nat → Nat) (M : NS) (kk : Nat) (q : Nat) (T : NS) (P : NS) (W : NS) (hT : tdI T) (hM : mrT T M) (hP : pnI T P) (hN : mrP P M) (hW2 : mrW W M) (hW : tvI T W) (hkk : kk ≤ 8) (hq1 : q ≤ 1) (X : XC) (E : Ob g X cX7_whereBehind 6 RX7) (hX : X.2.2.1 = zR 2 0 0) (K : ∀ (z : Nat), (z = wbF T P W q kk) → Z g X 6 0 0 (wMod g a h M) [(0, .ref a), (1, .int (nI kk)), (2, .int (nI q)), (3, .int (nI z))] [] 89) : ∀ (n : Nat) (i : Nat) (z : Nat), (i ≤ kk + 1) → (z = wbP T P W q i) → (kk + 1 < i + n) → Z g X 6 0 0 (wMod g a h M) [(0, .ref a), (1, .int (nI kk)), (2, .int (nI q)), (3, .int (nI z)), (4, .int (nI i))] [] 12 := by
  intro n
  induction n with
  | zero =>
    intro i z hi hz hf
    have hR := hT.2.2.1
    have hb := hT.2.1.2
    have hw11 := hW.2.1
    have hg := wbP_lt (W := W) (q := q) hT hP.2.1 i
    exfalso; omega
  | succ n ih =>
    intro i z hi hz hf
    have hR := hT.2.2.1
    have hb := hT.2.1.2
    have hw11 := hW.2.1
    have hg := wbP_lt (W := W) (q := q) hT hP.2.1 i
    refine z_iload E dX7_whereBehind_12 4 rfl ?_
    refine z_iload_n E dX7_whereBehind_14 1 rfl rfl ?_
    refine z_icmpN_gt E dX7_whereBehind_15 89 (by decide) (by omega) (by omega) (fun c1 => ?_) (fun c1 => ?_)
    · refine z_lv [0, 1, 2, 3] rfl ?_; exact K z (by rw [hz]; unfold wbP; rw [if_neg (by omega), show i - 1 = kk by omega])
    · refine z_iload E dX7_whereBehind_18 4 rfl ?_
      refine z_ifN_ne E dX7_whereBehind_20 27 (by decide) (by omega) (fun c2 => ?_) (fun c2 => ?_)
      · refine z_aload_n E dX7_whereBehind_27 0 rfl rfl ?_
        refine z_iload_n E dX7_whereBehind_28 3 rfl rfl ?_
        refine z_ro0 E (rV E hX (c_X7_stepped g a h M z T P hT hM hP hN (by omega)) mw_X7_stepped ml_X7_201 dX7_whereBehind_29 (Nat.le_of_ble_eq_true rfl) ⟨(Nat.le_of_ble_eq_true rfl), (Nat.le_of_ble_eq_true rfl)⟩ rfl rfl (Nat.le_of_ble_eq_true rfl) 0 rfl rfl) ?_
        refine z_istore_n (lv' := [(0, .ref a), (1, .int (nI kk)), (2, .int (nI q)), (3, .int (nI (orF T (opn T P) z (T.1 1)))), (4, .int (nI i))]) E dX7_whereBehind_32 3 rfl (by decide) rfl ?_
        refine z_iconst (v := (nI 0)) E dX7_whereBehind_33 (by decide) ?_
        refine z_istore (lv' := [(0, .ref a), (1, .int (nI kk)), (2, .int (nI q)), (3, .int (nI (orF T (opn T P) z (T.1 1)))), (4, .int (nI i)), (5, .int (nI 0))]) E dX7_whereBehind_34 (by decide) rfl ?_
        refine z_lv [0, 1, 2, 3, 4, 5] rfl ?_
        refine l_mwb1 g a h M kk q T P W hT hM hP hN hW2 hW hkk hq1 X E hX i (by omega) (fun z2 hz2 => ?_) (W.1 11 + 1) 0 (orF T (opn T P) z (T.1 1)) (Nat.zero_le _) (wb_b c2 hz) (by omega)
        refine z_iincN (lv' := [(0, .ref a), (1, .int (nI kk)), (2, .int (nI q)), (3, .int (nI z2)), (4, .int (nI (i + 1)))]) E dX7_whereBehind_83 4 rfl (by decide) rfl ?_
        refine z_goto E dX7_whereBehind_86 12 (by decide) ?_
        exact ih (i + 1) z2 (by omega) (by rw [hz2]; unfold wbP; rw [if_neg (by omega), Nat.add_sub_cancel]) (by omega)
      · refine z_iload_n E dX7_whereBehind_23 3 rfl rfl ?_
        refine z_goto E dX7_whereBehind_24 32 (by decide) ?_
        refine z_istore_n (lv' := [(0, .ref a), (1, .int (nI kk)), (2, .int (nI q)), (3, .int (nI z)), (4, .int (nI i))]) E dX7_whereBehind_32 3 rfl (by decide) rfl ?_
        refine z_iconst (v := (nI 0)) E dX7_whereBehind_33 (by decide) ?_
        refine z_istore (lv' := [(0, .ref a), (1, .int (nI kk)), (2, .int (nI q)), (3, .int (nI z)), (4, .int (nI i)), (5, .int (nI 0))]) E dX7_whereBehind_34 (by decide) rfl ?_
        refine z_lv [0, 1, 2, 3, 4, 5] rfl ?_
        refine l_mwb1 g a h M kk q T P W hT hM hP hN hW2 hW hkk hq1 X E hX i (by omega) (fun z2 hz2 => ?_) (W.1 11 + 1) 0 z (Nat.zero_le _) (wb_a c2 hz) (by omega)
        refine z_iincN (lv' := [(0, .ref a), (1, .int (nI kk)), (2, .int (nI q)), (3, .int (nI z2)), (4, .int (nI (i + 1)))]) E dX7_whereBehind_83 4 rfl (by decide) rfl ?_
        refine z_goto E dX7_whereBehind_86 12 (by decide) ?_
        exact ih (i + 1) z2 (by omega) (by rw [hz2]; unfold wbP; rw [if_neg (by omega), Nat.add_sub_cancel]) (by omega)

set_option maxHeartbeats 4000000 in
set_option maxRecDepth 100000 in
theorem c_X7_whereBehind (g : GC) (a : Nat) (h : Nat → Nat) (M : NS) (kk : Nat) (q : Nat) (T : NS) (P : NS) (W : NS) (hT : tdI T) (hM : mrT T M) (hP : pnI T P) (hN : mrP P M) (hW2 : mrW W M) (hW : tvI T W) (hkk : kk ≤ 8) (hq1 : q ≤ 1) : Ct g yX7_whereBehind cX7_whereBehind 6 (some .int) 2 0 0 [.ref a, .int (nI kk), .int (nI q)] (wMod g a h M) (DI (nI (wbF T P W q kk)) (wMod g a h M)) := by
  refine Ct.of (by decide) (Nat.le_of_ble_eq_true rfl) ?_
  intro X E Er hX _ hnm
  have E : Ob g X cX7_whereBehind 6 RX7 := E
  have hR := hT.2.2.1
  have hb := hT.2.1.2
  have hw11 := hW.2.1
  have hp0 := hP.2.1
  refine z_lve (lv' := [(0, .ref a), (1, .int (nI kk)), (2, .int (nI q))]) rfl ?_
  refine z_iconst (v := (nI 1)) E dX7_whereBehind_0 (by decide) ?_
  refine z_aload_n E dX7_whereBehind_1 0 rfl rfl ?_
  refine gt_X7_25 (v := .ref (h 14)) E dX7_whereBehind_2 0 rfl rfl ?_
  refine z_iconst (v := (nI 0)) E dX7_whereBehind_5 (by decide) ?_
  refine z_ialdN (f := (M.2 14)) E dX7_whereBehind_6 6 rfl (by decide) (by decide) ?_
  refine z_topi (y := nI (P.1 0)) (congrArg nI (hN.1 0 (by decide))) ?_
  refine z_ishlN E dX7_whereBehind_7 (by omega) ?_
  refine z_istore_n (lv' := [(0, .ref a), (1, .int (nI kk)), (2, .int (nI q)), (3, .int (nI (1 <<< (P.1 0))))]) E dX7_whereBehind_8 3 rfl (by decide) rfl ?_
  refine z_iconst (v := (nI 0)) E dX7_whereBehind_9 (by decide) ?_
  refine z_istore (lv' := [(0, .ref a), (1, .int (nI kk)), (2, .int (nI q)), (3, .int (nI (1 <<< (P.1 0)))), (4, .int (nI 0))]) E dX7_whereBehind_10 (by decide) rfl ?_
  refine l_mwb2 g a h M kk q T P W hT hM hP hN hW2 hW hkk hq1 X E hX (fun z hz => ?_) (kk + 2) 0 (1 <<< (P.1 0)) (by omega) rfl (by omega)
  refine z_iload_n E dX7_whereBehind_89 3 rfl rfl ?_
  refine z_iret E Er dX7_whereBehind_90 ?_
  exact ⟨by rw [hz], rfl⟩

set_option maxHeartbeats 4000000 in
set_option maxRecDepth 100000 in
theorem c_X7_tunnel (g : GC) (a : Nat) (h : Nat → Nat) (M : NS) (n : Int32) (T : NS) (P : NS) (W : NS) (hT : tdI T) (hM : mrT T M) (hP : pnI T P) (hN : mrP P M) (hW2 : mrW W M) (hW : tvI T W) : Ct g yX7_tunnel cX7_tunnel 2 (some .int) 3 0 0 [.ref a, .int n] (wMod g a h M) (DI (if wi n (nI 0) (nI 8) = true then nI (tuF T P n.toNatClampNeg) else -1) (wMod g a h (sF M 0 0))) := by
  refine Ct.of (by decide) (Nat.le_of_ble_eq_true rfl) ?_
  intro X E Er hX _ hnm
  have E : Ob g X cX7_tunnel 2 RX7 := E
  have hR := hT.2.2.1
  have hb := hT.2.1.2
  have hw11 := hW.2.1
  refine z_lve (lv' := [(0, .ref a), (1, .int n)]) rfl ?_
  refine z_aload_n E dX7_tunnel_0 0 rfl rfl ?_
  refine z_iconst (v := (nI 0)) E dX7_tunnel_1 (by decide) ?_
  refine pt_X7_69 (x := nI 0) (ws' := wMod g a h (sF M 0 0)) E dX7_tunnel_2 0 rfl (Nat.le_of_ble_eq_true rfl) rfl ?_
  refine z_iload_n E dX7_tunnel_5 1 rfl rfl ?_
  refine z_iconst (v := (nI 0)) E dX7_tunnel_6 (by decide) ?_
  refine z_bipush (v := (nI 8)) E dX7_tunnel_7 (by decide) ?_
  refine z_se E (rS E hX (c_X7_in g n (nI 0) (nI 8)) mw_X7_in ms_X7_in ml_X7_73 dX7_tunnel_9 (Nat.le_of_ble_eq_true rfl) ⟨(Nat.le_of_ble_eq_true rfl), (Nat.le_of_ble_eq_true rfl)⟩ rfl rfl (Nat.le_of_ble_eq_true rfl)) ?_
  refine z_ifB_eq E dX7_tunnel_12 24 (by decide) (fun c1 => ?_) (fun c1 => ?_)
  · refine z_iconst (v := (-1)) E dX7_tunnel_24 (by decide) ?_
    refine z_iret E Er dX7_tunnel_25 ?_
    exact ⟨by rw [if_neg (show ¬ wi n (nI 0) (nI 8) = true by rw [c1]; decide)], rfl⟩
  · obtain ⟨n2, -, hn2, rfl⟩ := wi_nI (by decide) (by decide) c1
    refine z_aload_n E dX7_tunnel_15 0 rfl rfl ?_
    refine z_iload_n E dX7_tunnel_16 1 rfl rfl ?_
    refine z_iconst (v := (nI 0)) E dX7_tunnel_17 (by decide) ?_
    refine z_ro0 E (rV E hX (c_X7_whereBehind g a h (sF M 0 0) n2 0 T P W hT hM hP hN hW2 hW (by omega) (by omega)) mw_X7_whereBehind ml_X7_204 dX7_tunnel_18 (Nat.le_of_ble_eq_true rfl) ⟨(Nat.le_of_ble_eq_true rfl), (Nat.le_of_ble_eq_true rfl)⟩ rfl rfl (Nat.le_of_ble_eq_true rfl) 0 rfl rfl) ?_
    refine z_goto E dX7_tunnel_21 25 (by decide) ?_
    refine z_iret E Er dX7_tunnel_25 ?_
    exact ⟨by rw [if_pos c1, nI_clamp (by omega), wbF_0], rfl⟩

set_option maxHeartbeats 4000000 in
set_option maxRecDepth 100000 in
theorem c_X7_where (g : GC) (a : Nat) (h : Nat → Nat) (M : NS) (n : Int32) (T : NS) (P : NS) (W : NS) (hT : tdI T) (hM : mrT T M) (hP : pnI T P) (hN : mrP P M) (hW2 : mrW W M) (hW : tvI T W) : Ct g yX7_where cX7_where 2 (some .int) 3 0 0 [.ref a, .int n] (wMod g a h M) (DI (if wi n (nI 0) (nI 8) = true then nI (whF T P W n.toNatClampNeg) else -1) (wMod g a h (sF M 0 0))) := by
  refine Ct.of (by decide) (Nat.le_of_ble_eq_true rfl) ?_
  intro X E Er hX _ hnm
  have E : Ob g X cX7_where 2 RX7 := E
  have hR := hT.2.2.1
  have hb := hT.2.1.2
  have hw11 := hW.2.1
  refine z_lve (lv' := [(0, .ref a), (1, .int n)]) rfl ?_
  refine z_aload_n E dX7_where_0 0 rfl rfl ?_
  refine z_iconst (v := (nI 0)) E dX7_where_1 (by decide) ?_
  refine pt_X7_69 (x := nI 0) (ws' := wMod g a h (sF M 0 0)) E dX7_where_2 0 rfl (Nat.le_of_ble_eq_true rfl) rfl ?_
  refine z_iload_n E dX7_where_5 1 rfl rfl ?_
  refine z_iconst (v := (nI 0)) E dX7_where_6 (by decide) ?_
  refine z_bipush (v := (nI 8)) E dX7_where_7 (by decide) ?_
  refine z_se E (rS E hX (c_X7_in g n (nI 0) (nI 8)) mw_X7_in ms_X7_in ml_X7_73 dX7_where_9 (Nat.le_of_ble_eq_true rfl) ⟨(Nat.le_of_ble_eq_true rfl), (Nat.le_of_ble_eq_true rfl)⟩ rfl rfl (Nat.le_of_ble_eq_true rfl)) ?_
  refine z_ifB_eq E dX7_where_12 24 (by decide) (fun c1 => ?_) (fun c1 => ?_)
  · refine z_iconst (v := (-1)) E dX7_where_24 (by decide) ?_
    refine z_iret E Er dX7_where_25 ?_
    exact ⟨by rw [if_neg (show ¬ wi n (nI 0) (nI 8) = true by rw [c1]; decide)], rfl⟩
  · obtain ⟨n2, -, hn2, rfl⟩ := wi_nI (by decide) (by decide) c1
    refine z_aload_n E dX7_where_15 0 rfl rfl ?_
    refine z_iload_n E dX7_where_16 1 rfl rfl ?_
    refine z_iconst (v := (nI 1)) E dX7_where_17 (by decide) ?_
    refine z_ro0 E (rV E hX (c_X7_whereBehind g a h (sF M 0 0) n2 1 T P W hT hM hP hN hW2 hW (by omega) (by omega)) mw_X7_whereBehind ml_X7_204 dX7_where_18 (Nat.le_of_ble_eq_true rfl) ⟨(Nat.le_of_ble_eq_true rfl), (Nat.le_of_ble_eq_true rfl)⟩ rfl rfl (Nat.le_of_ble_eq_true rfl) 0 rfl rfl) ?_
    refine z_goto E dX7_where_21 25 (by decide) ?_
    refine z_iret E Er dX7_where_25 ?_
    exact ⟨by rw [if_pos c1, nI_clamp (by omega), wbF_1], rfl⟩
