/-! THE REFERENCE: what its cells hold of a town T and of NOW P -/
def mrT (T M : NS) : Prop := (∀ k, k < 6 → M.2 9 k = T.1 k) ∧ ∀ r, r < T.1 1 → M.2 11 (2 * r) = T.2 6 r ∧ M.2 11 (2 * r + 1) = T.2 7 r ∧ M.2 12 r = T.2 8 r ∧ M.2 13 r = T.2 9 r
def mrP (P M : NS) : Prop := (∀ k, k < 5 → M.2 14 k = P.1 k) ∧ ∀ r, r < 12 → M.2 14 (5 + r) = P.2 5 r
theorem tb_bI (x y : Nat) : nI (x >>> y &&& 1) = bI (x.testBit y) := by
  rw [bI_nI, bit1]
  cases x.testBit y <;> rfl
theorem mr_pl {T M : NS} (h : mrT T M) {k : Nat} (hk : k < 2 * T.1 1) : M.2 11 k = plT T k := by
  have h1 := h.2 (k / 2) (by omega)
  unfold plT
  by_cases q : k % 2 = 0
  · rw [if_pos q, ← h1.1, show 2 * (k / 2) = k by omega]
  · rw [if_neg q, ← h1.2.1, show 2 * (k / 2) + 1 = k by omega]
section ZMb
variable {g : GC} {X : XC} {cc : ByteArray} {nL k n pc : Nat} {own : String} {ws : va_W} {lv lv' : List (Nat × Value)} {st : List Value}
theorem z_icmpB1_ne (E : Ob g X cc nL own) {b : Bool} {off : Int} (hd : decode cc pc = .ok (.if_icmp .ne off, 3)) (tgt : Nat) (ht : (pc : Int) + off = (tgt : Int)) (kt : b = false → Z g X nL k n ws lv st tgt) (kf : b = true → Z g X nL k n ws lv st (pc + 3)) : Z g X nL k n ws lv (.int (nI 1) :: .int (bI b) :: st) pc :=
  z_icmp_ne E hd tgt ht (fun h => kt (by cases b; rfl; exact absurd rfl h)) (fun h => kf (by cases b; exact absurd h (by decide); rfl))
theorem z_icmpB1_eq (E : Ob g X cc nL own) {b : Bool} {off : Int} (hd : decode cc pc = .ok (.if_icmp .eq off, 3)) (tgt : Nat) (ht : (pc : Int) + off = (tgt : Int)) (kt : b = true → Z g X nL k n ws lv st tgt) (kf : b = false → Z g X nL k n ws lv st (pc + 3)) : Z g X nL k n ws lv (.int (nI 1) :: .int (bI b) :: st) pc :=
  z_icmp_eq E hd tgt ht (fun h => kt (by cases b; exact absurd h (by decide); rfl)) (fun h => kf (by cases b; rfl; exact absurd rfl h))
end ZMb

set_option maxHeartbeats 4000000 in
set_option maxRecDepth 100000 in
theorem c_X7_in (g : GC) (x : Int32) (lo : Int32) (hi : Int32) : Ct g yX7_in cX7_in 3 (some .boolean) 0 0 0 [.int x, .int lo, .int hi] (([] : va_W)) (DI (bI (wi x lo hi)) (([] : va_W))) := by
  refine Ct.of (by decide) (Nat.le_of_ble_eq_true rfl) ?_
  intro X E Er hX _ hnm
  have E : Ob g X cX7_in 3 RX7 := E
  refine z_lve (lv' := [(0, .int x), (1, .int lo), (2, .int hi)]) rfl ?_
  refine z_iload_n E dX7_in_0 0 rfl rfl ?_
  refine z_iload_n E dX7_in_1 1 rfl rfl ?_
  refine z_icmp_lt E dX7_in_2 14 (by decide) (fun c1 => ?_) (fun c1 => ?_)
  · refine z_iconst (v := (nI 0)) E dX7_in_14 (by decide) ?_
    refine z_zret E Er dX7_in_15 (by decide) ?_
    exact ⟨bz0 (by simp [wi, c1]), rfl⟩
  · refine z_iload_n E dX7_in_5 0 rfl rfl ?_
    refine z_iload_n E dX7_in_6 2 rfl rfl ?_
    refine z_icmp_gt E dX7_in_7 14 (by decide) (fun c2 => ?_) (fun c2 => ?_)
    · refine z_iconst (v := (nI 0)) E dX7_in_14 (by decide) ?_
      refine z_zret E Er dX7_in_15 (by decide) ?_
      exact ⟨bz0 (by simp [wi, c1, c2]), rfl⟩
    · refine z_iconst (v := (nI 1)) E dX7_in_10 (by decide) ?_
      refine z_goto E dX7_in_11 15 (by decide) ?_
      refine z_zret E Er dX7_in_15 (by decide) ?_
      exact ⟨bz1 (by simp [wi, c1, c2]), rfl⟩

set_option maxHeartbeats 4000000 in
set_option maxRecDepth 100000 in
theorem l_ones (g : GC) (x : Nat) (hx : x < 2 ^ 31) (X : XC) (E : Ob g X cX7_ones 3 RX7) (hX : X.2.2.1 = zR 0 0 0) (K : ∀ (z : Nat), (z = bc x 12) → Z g X 3 0 0 (([] : va_W)) [(0, .int (nI x)), (1, .int (nI z))] [] 24) : ∀ (n : Nat) (i : Nat) (z : Nat), (i ≤ 12) → (z = bc x i) → (12 < i + n) → Z g X 3 0 0 (([] : va_W)) [(0, .int (nI x)), (1, .int (nI z)), (2, .int (nI i))] [] 4 := by
  intro n
  induction n with
  | zero =>
    intro i z hi hz hf
    exfalso; omega
  | succ n ih =>
    intro i z hi hz hf
    refine z_iload_n E dX7_ones_4 2 rfl rfl ?_
    refine z_bipush (v := (nI 12)) E dX7_ones_5 (by decide) ?_
    refine z_icmpN_ge E dX7_ones_7 24 (by decide) (by omega) (by decide) (fun c1 => ?_) (fun c1 => ?_)
    · refine z_lv [0, 1] rfl ?_; exact K z (by rw [hz, show i = 12 by omega])
    · refine z_iload_n E dX7_ones_10 1 rfl rfl ?_
      refine z_iload_n E dX7_ones_11 0 rfl rfl ?_
      refine z_iload_n E dX7_ones_12 2 rfl rfl ?_
      refine z_ishrN E dX7_ones_13 (by omega) (by omega) ?_
      refine z_iconst (v := (nI 1)) E dX7_ones_14 (by decide) ?_
      refine z_iandN E dX7_ones_15 ?_
      refine z_topi (tb_bI x i) ?_
      refine z_topi (bI_nI (x.testBit i)) ?_
      refine z_iaddN E dX7_ones_16 ?_
      refine z_istore_n (lv' := [(0, .int (nI x)), (1, .int (nI (z + (cond (x.testBit i) 1 0)))), (2, .int (nI i))]) E dX7_ones_17 1 rfl (by decide) rfl ?_
      refine z_iincN (lv' := [(0, .int (nI x)), (1, .int (nI (z + (cond (x.testBit i) 1 0)))), (2, .int (nI (i + 1)))]) E dX7_ones_18 2 rfl (by decide) rfl ?_
      refine z_goto E dX7_ones_21 4 (by decide) ?_
      exact ih (i + 1) (z + (cond (x.testBit i) 1 0)) (by omega) (by show _ = bc x i + _; rw [← hz]; cases x.testBit i <;> rfl) (by omega)

set_option maxHeartbeats 4000000 in
set_option maxRecDepth 100000 in
theorem c_X7_ones (g : GC) (x : Nat) (hx : x < 2 ^ 31) : Ct g yX7_ones cX7_ones 3 (some .int) 0 0 0 [.int (nI x)] (([] : va_W)) (DI (nI (pc12 x)) (([] : va_W))) := by
  refine Ct.of (by decide) (Nat.le_of_ble_eq_true rfl) ?_
  intro X E Er hX _ hnm
  have E : Ob g X cX7_ones 3 RX7 := E
  refine z_lve (lv' := [(0, .int (nI x))]) rfl ?_
  refine z_iconst (v := (nI 0)) E dX7_ones_0 (by decide) ?_
  refine z_istore_n (lv' := [(0, .int (nI x)), (1, .int (nI 0))]) E dX7_ones_1 1 rfl (by decide) rfl ?_
  refine z_iconst (v := (nI 0)) E dX7_ones_2 (by decide) ?_
  refine z_istore_n (lv' := [(0, .int (nI x)), (1, .int (nI 0)), (2, .int (nI 0))]) E dX7_ones_3 2 rfl (by decide) rfl ?_
  refine l_ones g x hx X E hX (fun z hz => ?_) 13 0 0 (by omega) rfl (by omega)
  refine z_iload_n E dX7_ones_24 1 rfl rfl ?_
  refine z_iret E Er dX7_ones_25 ?_
  exact ⟨by rw [hz, bc_12], rfl⟩

theorem sub1_lt {x : Nat} (hx : x < 2 ^ 31) (r : Int32) : (nI x - nI 1 < r) ↔ nI x ≤ r := by
  have e : (nI x - nI 1).toInt = (x : Int) - 1 := by
    cases x with
    | zero => decide
    | succ k =>
      have : nI (k + 1) - nI 1 = nI k := by
        exact pk_sub (a := k + 1) (b := 1) (by omega)
      rw [this, nI_toInt (by omega)]
      omega
  rw [Int32.lt_iff_toInt_lt, Int32.le_iff_toInt_le, e, nI_toInt hx]
  omega
theorem wi_R {T : NS} (hT : tdI T) (r : Int32) : wi r (nI 0) (nI (T.1 1) - nI 1) = hasR T r := by
  unfold wi hasR
  simp only [sub1_lt (hT.1.1 1)]
  rfl
theorem wi_P {T : NS} (hT : tdI T) (r : Int32) : wi r (nI 0) (nI (T.1 0) - nI 1) = hasP T r := by
  unfold wi hasP
  simp only [sub1_lt (hT.1.1 0)]
  rfl

set_option maxHeartbeats 4000000 in
set_option maxRecDepth 100000 in
theorem c_X7_isRoad (g : GC) (a : Nat) (h : Nat → Nat) (M : NS) (r : Int32) (T : NS) (hT : tdI T) (hM : mrT T M) : Ct g yX7_isRoad cX7_isRoad 2 (some .boolean) 1 0 0 [.ref a, .int r] (wMod g a h M) (DI (bI (hasR T r)) (wMod g a h M)) := by
  refine Ct.of (by decide) (Nat.le_of_ble_eq_true rfl) ?_
  intro X E Er hX _ hnm
  have E : Ob g X cX7_isRoad 2 RX7 := E
  refine z_lve (lv' := [(0, .ref a), (1, .int r)]) rfl ?_
  refine z_iload_n E dX7_isRoad_0 1 rfl rfl ?_
  refine z_iconst (v := (nI 0)) E dX7_isRoad_1 (by decide) ?_
  refine z_aload_n E dX7_isRoad_2 0 rfl rfl ?_
  refine gt_X7_13 (v := .ref (h 9)) E dX7_isRoad_3 0 rfl rfl ?_
  refine z_iconst (v := (nI 1)) E dX7_isRoad_6 (by decide) ?_
  refine z_ialdN (f := (M.2 9)) E dX7_isRoad_7 2 rfl (by decide) (by decide) ?_
  refine z_topi (y := nI (T.1 1)) (congrArg nI (hM.1 1 (by decide))) ?_
  refine z_iconst (v := (nI 1)) E dX7_isRoad_8 (by decide) ?_
  refine z_isub E dX7_isRoad_9 ?_
  refine z_se E (rS E hX (c_X7_in g r (nI 0) ((nI (T.1 1)) - (nI 1))) mw_X7_in ms_X7_in ml_X7_73 dX7_isRoad_10 (Nat.le_of_ble_eq_true rfl) ⟨(Nat.le_of_ble_eq_true rfl), (Nat.le_of_ble_eq_true rfl)⟩ rfl rfl (Nat.le_of_ble_eq_true rfl)) ?_
  refine z_zret E Er dX7_isRoad_13 (bI_nar _) ?_
  exact ⟨by rw [wi_R hT], rfl⟩

set_option maxHeartbeats 4000000 in
set_option maxRecDepth 100000 in
theorem c_X7_isPlace (g : GC) (a : Nat) (h : Nat → Nat) (M : NS) (r : Int32) (T : NS) (hT : tdI T) (hM : mrT T M) : Ct g yX7_isPlace cX7_isPlace 2 (some .boolean) 1 0 0 [.ref a, .int r] (wMod g a h M) (DI (bI (hasP T r)) (wMod g a h M)) := by
  refine Ct.of (by decide) (Nat.le_of_ble_eq_true rfl) ?_
  intro X E Er hX _ hnm
  have E : Ob g X cX7_isPlace 2 RX7 := E
  refine z_lve (lv' := [(0, .ref a), (1, .int r)]) rfl ?_
  refine z_iload_n E dX7_isPlace_0 1 rfl rfl ?_
  refine z_iconst (v := (nI 0)) E dX7_isPlace_1 (by decide) ?_
  refine z_aload_n E dX7_isPlace_2 0 rfl rfl ?_
  refine gt_X7_13 (v := .ref (h 9)) E dX7_isPlace_3 0 rfl rfl ?_
  refine z_iconst (v := (nI 0)) E dX7_isPlace_6 (by decide) ?_
  refine z_ialdN (f := (M.2 9)) E dX7_isPlace_7 2 rfl (by decide) (by decide) ?_
  refine z_topi (y := nI (T.1 0)) (congrArg nI (hM.1 0 (by decide))) ?_
  refine z_iconst (v := (nI 1)) E dX7_isPlace_8 (by decide) ?_
  refine z_isub E dX7_isPlace_9 ?_
  refine z_se E (rS E hX (c_X7_in g r (nI 0) ((nI (T.1 0)) - (nI 1))) mw_X7_in ms_X7_in ml_X7_73 dX7_isPlace_10 (Nat.le_of_ble_eq_true rfl) ⟨(Nat.le_of_ble_eq_true rfl), (Nat.le_of_ble_eq_true rfl)⟩ rfl rfl (Nat.le_of_ble_eq_true rfl)) ?_
  refine z_zret E Er dX7_isPlace_13 (bI_nar _) ?_
  exact ⟨by rw [wi_P hT], rfl⟩

set_option maxHeartbeats 4000000 in
set_option maxRecDepth 100000 in
theorem c_X7_openNow (g : GC) (a : Nat) (h : Nat → Nat) (M : NS) (T : NS) (P : NS) (hT : tdI T) (hM : mrT T M) (hP : pnI T P) (hN : mrP P M) : Ct g yX7_openNow cX7_openNow 1 (some .int) 0 0 0 [.ref a] (wMod g a h M) (DI (nI (opn T P)) (wMod g a h M)) := by
  refine Ct.of (by decide) (Nat.le_of_ble_eq_true rfl) ?_
  intro X E Er hX _ hnm
  have E : Ob g X cX7_openNow 1 RX7 := E
  have hR := hT.2.2.1
  have hb := hT.2.1.2
  refine z_lve (lv' := [(0, .ref a)]) rfl ?_
  refine z_iconst (v := (nI 1)) E dX7_openNow_0 (by decide) ?_
  refine z_aload_n E dX7_openNow_1 0 rfl rfl ?_
  refine gt_X7_13 (v := .ref (h 9)) E dX7_openNow_2 0 rfl rfl ?_
  refine z_iconst (v := (nI 1)) E dX7_openNow_5 (by decide) ?_
  refine z_ialdN (f := (M.2 9)) E dX7_openNow_6 2 rfl (by decide) (by decide) ?_
  refine z_topi (y := nI (T.1 1)) (congrArg nI (hM.1 1 (by decide))) ?_
  refine z_ishlN E dX7_openNow_7 (by omega) ?_
  refine z_iconst (v := (nI 1)) E dX7_openNow_8 (by decide) ?_
  refine z_isubN E dX7_openNow_9 (by rw [Nat.one_shiftLeft]; exact Nat.one_le_two_pow) ?_
  refine z_aload_n E dX7_openNow_10 0 rfl rfl ?_
  refine gt_X7_25 (v := .ref (h 14)) E dX7_openNow_11 0 rfl rfl ?_
  refine z_iconst (v := (nI 4)) E dX7_openNow_14 (by decide) ?_
  refine z_ialdN (f := (M.2 14)) E dX7_openNow_15 6 rfl (by decide) (by decide) ?_
  refine z_topi (y := nI (P.1 4)) (congrArg nI (hN.1 4 (by decide))) ?_
  refine z_iconst (v := (-1)) E dX7_openNow_16 (by decide) ?_
  refine z_topi (y := nI 4294967295) rfl ?_
  refine z_ixorN E dX7_openNow_17 ?_
  refine z_iandN E dX7_openNow_18 ?_
  refine z_iret E Er dX7_openNow_19 ?_
  exact ⟨rfl, rfl⟩

set_option maxHeartbeats 4000000 in
set_option maxRecDepth 100000 in
theorem c_X7_isAt (g : GC) (a : Nat) (h : Nat → Nat) (M : NS) (r : Nat) (p : Nat) (T : NS) (hT : tdI T) (hM : mrT T M) (hr : r < T.1 1) (hp : p < 2 ^ 31) : Ct g yX7_isAt cX7_isAt 3 (some .boolean) 0 0 0 [.ref a, .int (nI r), .int (nI p)] (wMod g a h M) (DI (bI (meetsT T r p)) (wMod g a h M)) := by
  refine Ct.of (by decide) (Nat.le_of_ble_eq_true rfl) ?_
  intro X E Er hX _ hnm
  have E : Ob g X cX7_isAt 3 RX7 := E
  have hR := hT.2.2.1
  have hb := hT.2.1.2
  refine z_lve (lv' := [(0, .ref a), (1, .int (nI r)), (2, .int (nI p))]) rfl ?_
  refine z_aload_n E dX7_isAt_0 0 rfl rfl ?_
  refine gt_X7_16 (v := .ref (h 11)) E dX7_isAt_1 0 rfl rfl ?_
  refine z_iconst (v := (nI 2)) E dX7_isAt_4 (by decide) ?_
  refine z_iload_n E dX7_isAt_5 1 rfl rfl ?_
  refine z_imulN E dX7_isAt_6 ?_
  refine z_ialdN (f := (M.2 11)) E dX7_isAt_7 3 rfl (by omega) (by decide) ?_
  refine z_topi (y := nI ((T.2 6) r)) (congrArg nI ((hM.2 r (by omega)).1)) ?_
  refine z_iload_n E dX7_isAt_8 2 rfl rfl ?_
  refine z_icmpN_eq E dX7_isAt_9 26 (by decide) (hT.1.2 _ _) (by omega) (fun c1 => ?_) (fun c1 => ?_)
  · refine z_iconst (v := (nI 1)) E dX7_isAt_26 (by decide) ?_
    refine z_goto E dX7_isAt_27 31 (by decide) ?_
    refine z_zret E Er dX7_isAt_31 (by decide) ?_
    exact ⟨bz1 (by simp [meetsT, c1]), rfl⟩
  · refine z_aload_n E dX7_isAt_12 0 rfl rfl ?_
    refine gt_X7_16 (v := .ref (h 11)) E dX7_isAt_13 0 rfl rfl ?_
    refine z_iconst (v := (nI 2)) E dX7_isAt_16 (by decide) ?_
    refine z_iload_n E dX7_isAt_17 1 rfl rfl ?_
    refine z_imulN E dX7_isAt_18 ?_
    refine z_iconst (v := (nI 1)) E dX7_isAt_19 (by decide) ?_
    refine z_iaddN E dX7_isAt_20 ?_
    refine z_ialdN (f := (M.2 11)) E dX7_isAt_21 3 rfl (by omega) (by decide) ?_
    refine z_topi (y := nI ((T.2 7) r)) (congrArg nI ((hM.2 r (by omega)).2.1)) ?_
    refine z_iload_n E dX7_isAt_22 2 rfl rfl ?_
    refine z_icmpN_ne E dX7_isAt_23 30 (by decide) (hT.1.2 _ _) (by omega) (fun c2 => ?_) (fun c2 => ?_)
    · refine z_iconst (v := (nI 0)) E dX7_isAt_30 (by decide) ?_
      refine z_zret E Er dX7_isAt_31 (by decide) ?_
      exact ⟨bz0 (by simp [meetsT, c1, c2]), rfl⟩
    · refine z_iconst (v := (nI 1)) E dX7_isAt_26 (by decide) ?_
      refine z_goto E dX7_isAt_27 31 (by decide) ?_
      refine z_zret E Er dX7_isAt_31 (by decide) ?_
      exact ⟨bz1 (by simp [meetsT, c1, c2]), rfl⟩

set_option maxHeartbeats 4000000 in
set_option maxRecDepth 100000 in
theorem c_X7_otherEnd (g : GC) (a : Nat) (h : Nat → Nat) (M : NS) (r : Nat) (p : Nat) (T : NS) (hT : tdI T) (hM : mrT T M) (hr : r < T.1 1) (hp : p < 2 ^ 31) : Ct g yX7_otherEnd cX7_otherEnd 3 (some .int) 0 0 0 [.ref a, .int (nI r), .int (nI p)] (wMod g a h M) (DI (nI (otherT T r p)) (wMod g a h M)) := by
  refine Ct.of (by decide) (Nat.le_of_ble_eq_true rfl) ?_
  intro X E Er hX _ hnm
  have E : Ob g X cX7_otherEnd 3 RX7 := E
  have hR := hT.2.2.1
  have hb := hT.2.1.2
  refine z_lve (lv' := [(0, .ref a), (1, .int (nI r)), (2, .int (nI p))]) rfl ?_
  refine z_aload_n E dX7_otherEnd_0 0 rfl rfl ?_
  refine gt_X7_16 (v := .ref (h 11)) E dX7_otherEnd_1 0 rfl rfl ?_
  refine z_iconst (v := (nI 2)) E dX7_otherEnd_4 (by decide) ?_
  refine z_iload_n E dX7_otherEnd_5 1 rfl rfl ?_
  refine z_imulN E dX7_otherEnd_6 ?_
  refine z_ialdN (f := (M.2 11)) E dX7_otherEnd_7 3 rfl (by omega) (by decide) ?_
  refine z_topi (y := nI ((T.2 6) r)) (congrArg nI ((hM.2 r (by omega)).1)) ?_
  refine z_iload_n E dX7_otherEnd_8 2 rfl rfl ?_
  refine z_icmpN_ne E dX7_otherEnd_9 25 (by decide) (hT.1.2 _ _) (by omega) (fun c1 => ?_) (fun c1 => ?_)
  · refine z_aload_n E dX7_otherEnd_25 0 rfl rfl ?_
    refine gt_X7_16 (v := .ref (h 11)) E dX7_otherEnd_26 0 rfl rfl ?_
    refine z_iconst (v := (nI 2)) E dX7_otherEnd_29 (by decide) ?_
    refine z_iload_n E dX7_otherEnd_30 1 rfl rfl ?_
    refine z_imulN E dX7_otherEnd_31 ?_
    refine z_ialdN (f := (M.2 11)) E dX7_otherEnd_32 3 rfl (by omega) (by decide) ?_
    refine z_topi (y := nI ((T.2 6) r)) (congrArg nI ((hM.2 r (by omega)).1)) ?_
    refine z_iret E Er dX7_otherEnd_33 ?_
    exact ⟨by simp [otherT, c1], rfl⟩
  · refine z_aload_n E dX7_otherEnd_12 0 rfl rfl ?_
    refine gt_X7_16 (v := .ref (h 11)) E dX7_otherEnd_13 0 rfl rfl ?_
    refine z_iconst (v := (nI 2)) E dX7_otherEnd_16 (by decide) ?_
    refine z_iload_n E dX7_otherEnd_17 1 rfl rfl ?_
    refine z_imulN E dX7_otherEnd_18 ?_
    refine z_iconst (v := (nI 1)) E dX7_otherEnd_19 (by decide) ?_
    refine z_iaddN E dX7_otherEnd_20 ?_
    refine z_ialdN (f := (M.2 11)) E dX7_otherEnd_21 3 rfl (by omega) (by decide) ?_
    refine z_topi (y := nI ((T.2 7) r)) (congrArg nI ((hM.2 r (by omega)).2.1)) ?_
    refine z_goto E dX7_otherEnd_22 33 (by decide) ?_
    refine z_iret E Er dX7_otherEnd_33 ?_
    exact ⟨by simp [otherT, c1], rfl⟩

theorem and_bit (o i : Nat) : 1 <<< i &&& o = if o.testBit i = true then 1 <<< i else 0 := by
  apply Nat.eq_of_testBit_eq
  intro j
  rw [Nat.testBit_and, Nat.one_shiftLeft, Nat.testBit_two_pow]
  by_cases h : i = j
  · subst h
    cases hb : o.testBit i <;> simp [Nat.testBit_two_pow_self]
  · cases hb : o.testBit i <;> simp [h, Nat.testBit_two_pow]
theorem rAt_and (T : NS) (p o i : Nat) : rAt T p (i + 1) &&& o = (rAt T p i &&& o) ||| (if o.testBit i = true ∧ meetsT T i p = true then 1 <<< i else 0) := by
  rw [show rAt T p (i + 1) = if meetsT T i p = true then rAt T p i ||| 1 <<< i else rAt T p i from rfl]
  cases hm : meetsT T i p
  · rw [if_neg (by decide), if_neg (by simp), Nat.or_zero]
  · rw [if_pos rfl, Nat.and_or_distrib_right, and_bit]
    cases hb : o.testBit i <;> simp

set_option maxHeartbeats 4000000 in
set_option maxRecDepth 100000 in
theorem l_mroadsAt (g : GC) (a : Nat) (h : Nat → Nat) (M : NS) (o : Nat) (p : Nat) (T : NS) (hT : tdI T) (hM : mrT T M) (ho2 : o < 2 ^ 31) (hp : p < 2 ^ 31) (X : XC) (E : Ob g X cX7_roadsAt 5 RX7) (hX : X.2.2.1 = zR 1 0 0) (K : ∀ (z : Nat), (z = rAt T p (T.1 1) &&& o) → Z g X 5 0 0 (wMod g a h M) [(0, .ref a), (1, .int (nI o)), (2, .int (nI p)), (3, .int (nI z))] [] 53) : ∀ (n : Nat) (i : Nat) (z : Nat), (i ≤ T.1 1) → (z = rAt T p i &&& o) → (T.1 1 < i + n) → Z g X 5 0 0 (wMod g a h M) [(0, .ref a), (1, .int (nI o)), (2, .int (nI p)), (3, .int (nI z)), (4, .int (nI i))] [] 5 := by
  intro n
  induction n with
  | zero =>
    intro i z hi hz hf
    have hR := hT.2.2.1
    have hb := hT.2.1.2
    exfalso; omega
  | succ n ih =>
    intro i z hi hz hf
    have hR := hT.2.2.1
    have hb := hT.2.1.2
    refine z_iload E dX7_roadsAt_5 4 rfl ?_
    refine z_aload_n E dX7_roadsAt_7 0 rfl rfl ?_
    refine gt_X7_13 (v := .ref (h 9)) E dX7_roadsAt_8 0 rfl rfl ?_
    refine z_iconst (v := (nI 1)) E dX7_roadsAt_11 (by decide) ?_
    refine z_ialdN (f := (M.2 9)) E dX7_roadsAt_12 2 rfl (by decide) (by decide) ?_
    refine z_topi (y := nI (T.1 1)) (congrArg nI (hM.1 1 (by decide))) ?_
    refine z_icmpN_ge E dX7_roadsAt_13 53 (by decide) (by omega) (hT.1.1 _) (fun c1 => ?_) (fun c1 => ?_)
    · refine z_lv [0, 1, 2, 3] rfl ?_; exact K z (by rw [hz, show i = T.1 1 by omega])
    · refine z_iload_n E dX7_roadsAt_16 3 rfl rfl ?_
      refine z_iload_n E dX7_roadsAt_17 1 rfl rfl ?_
      refine z_iload E dX7_roadsAt_18 4 rfl ?_
      refine z_ishrN E dX7_roadsAt_20 (by omega) (by omega) ?_
      refine z_iconst (v := (nI 1)) E dX7_roadsAt_21 (by decide) ?_
      refine z_iandN E dX7_roadsAt_22 ?_
      refine z_topi (tb_bI o i) ?_
      refine z_iconst (v := (nI 1)) E dX7_roadsAt_23 (by decide) ?_
      refine z_icmpB1_ne E dX7_roadsAt_24 44 (by decide) (fun c2 => ?_) (fun c2 => ?_)
      · refine z_iconst (v := (nI 0)) E dX7_roadsAt_44 (by decide) ?_
        refine z_iorN E dX7_roadsAt_45 ?_
        refine z_istore_n (lv' := [(0, .ref a), (1, .int (nI o)), (2, .int (nI p)), (3, .int (nI (z ||| 0))), (4, .int (nI i))]) E dX7_roadsAt_46 3 rfl (by decide) rfl ?_
        refine z_iincN (lv' := [(0, .ref a), (1, .int (nI o)), (2, .int (nI p)), (3, .int (nI (z ||| 0))), (4, .int (nI (i + 1)))]) E dX7_roadsAt_47 4 rfl (by decide) rfl ?_
        refine z_goto E dX7_roadsAt_50 5 (by decide) ?_
        exact ih (i + 1) (z ||| 0) (by omega) (by rw [rAt_and, ← hz, if_neg (by rw [c2]; simp)]) (by omega)
      · refine z_aload_n E dX7_roadsAt_27 0 rfl rfl ?_
        refine z_iload E dX7_roadsAt_28 4 rfl ?_
        refine z_iload_n E dX7_roadsAt_30 2 rfl rfl ?_
        refine z_ro0 E (rV E hX (c_X7_isAt g a h M i p T hT hM (by omega) (by omega)) mw_X7_isAt ml_X7_146 dX7_roadsAt_31 (Nat.le_of_ble_eq_true rfl) ⟨(Nat.le_of_ble_eq_true rfl), (Nat.le_of_ble_eq_true rfl)⟩ rfl rfl (Nat.le_of_ble_eq_true rfl) 0 rfl rfl) ?_
        refine z_ifB_eq E dX7_roadsAt_34 44 (by decide) (fun c3 => ?_) (fun c3 => ?_)
        · refine z_iconst (v := (nI 0)) E dX7_roadsAt_44 (by decide) ?_
          refine z_iorN E dX7_roadsAt_45 ?_
          refine z_istore_n (lv' := [(0, .ref a), (1, .int (nI o)), (2, .int (nI p)), (3, .int (nI (z ||| 0))), (4, .int (nI i))]) E dX7_roadsAt_46 3 rfl (by decide) rfl ?_
          refine z_iincN (lv' := [(0, .ref a), (1, .int (nI o)), (2, .int (nI p)), (3, .int (nI (z ||| 0))), (4, .int (nI (i + 1)))]) E dX7_roadsAt_47 4 rfl (by decide) rfl ?_
          refine z_goto E dX7_roadsAt_50 5 (by decide) ?_
          exact ih (i + 1) (z ||| 0) (by omega) (by rw [rAt_and, ← hz, if_neg (by rw [c3]; simp)]) (by omega)
        · refine z_iconst (v := (nI 1)) E dX7_roadsAt_37 (by decide) ?_
          refine z_iload E dX7_roadsAt_38 4 rfl ?_
          refine z_ishlN E dX7_roadsAt_40 (by omega) ?_
          refine z_goto E dX7_roadsAt_41 45 (by decide) ?_
          refine z_iorN E dX7_roadsAt_45 ?_
          refine z_istore_n (lv' := [(0, .ref a), (1, .int (nI o)), (2, .int (nI p)), (3, .int (nI (z ||| (1 <<< i)))), (4, .int (nI i))]) E dX7_roadsAt_46 3 rfl (by decide) rfl ?_
          refine z_iincN (lv' := [(0, .ref a), (1, .int (nI o)), (2, .int (nI p)), (3, .int (nI (z ||| (1 <<< i)))), (4, .int (nI (i + 1)))]) E dX7_roadsAt_47 4 rfl (by decide) rfl ?_
          refine z_goto E dX7_roadsAt_50 5 (by decide) ?_
          exact ih (i + 1) (z ||| (1 <<< i)) (by omega) (by rw [rAt_and, ← hz, if_pos ⟨c2, c3⟩]) (by omega)

set_option maxHeartbeats 4000000 in
set_option maxRecDepth 100000 in
theorem c_X7_roadsAt (g : GC) (a : Nat) (h : Nat → Nat) (M : NS) (o : Nat) (p : Nat) (T : NS) (hT : tdI T) (hM : mrT T M) (ho2 : o < 2 ^ 31) (hp : p < 2 ^ 31) : Ct g yX7_roadsAt cX7_roadsAt 5 (some .int) 1 0 0 [.ref a, .int (nI o), .int (nI p)] (wMod g a h M) (DI (nI (rAt T p (T.1 1) &&& o)) (wMod g a h M)) := by
  refine Ct.of (by decide) (Nat.le_of_ble_eq_true rfl) ?_
  intro X E Er hX _ hnm
  have E : Ob g X cX7_roadsAt 5 RX7 := E
  have hR := hT.2.2.1
  have hb := hT.2.1.2
  refine z_lve (lv' := [(0, .ref a), (1, .int (nI o)), (2, .int (nI p))]) rfl ?_
  refine z_iconst (v := (nI 0)) E dX7_roadsAt_0 (by decide) ?_
  refine z_istore_n (lv' := [(0, .ref a), (1, .int (nI o)), (2, .int (nI p)), (3, .int (nI 0))]) E dX7_roadsAt_1 3 rfl (by decide) rfl ?_
  refine z_iconst (v := (nI 0)) E dX7_roadsAt_2 (by decide) ?_
  refine z_istore (lv' := [(0, .ref a), (1, .int (nI o)), (2, .int (nI p)), (3, .int (nI 0)), (4, .int (nI 0))]) E dX7_roadsAt_3 (by decide) rfl ?_
  refine l_mroadsAt g a h M o p T hT hM ho2 hp X E hX (fun z hz => ?_) (T.1 1 + 1) 0 0 (by omega) (by simp [rAt]) (by omega)
  refine z_iload_n E dX7_roadsAt_53 3 rfl rfl ?_
  refine z_iret E Er dX7_roadsAt_54 ?_
  exact ⟨by rw [hz], rfl⟩

set_option maxHeartbeats 4000000 in
set_option maxRecDepth 100000 in
theorem c_X7_isTurn (g : GC) (a : Nat) (h : Nat → Nat) (M : NS) (b : Nat) (r : Nat) (T : NS) (hT : tdI T) (hM : mrT T M) (hbR : b ≤ T.1 1) (hr : r < 32) : Ct g yX7_isTurn cX7_isTurn 3 (some .boolean) 0 0 0 [.ref a, .int (nI b), .int (nI r)] (wMod g a h M) (DI (bI (isTn T b r)) (wMod g a h M)) := by
  refine Ct.of (by decide) (Nat.le_of_ble_eq_true rfl) ?_
  intro X E Er hX _ hnm
  have E : Ob g X cX7_isTurn 3 RX7 := E
  have hR := hT.2.2.1
  have hb := hT.2.1.2
  refine z_lve (lv' := [(0, .ref a), (1, .int (nI b)), (2, .int (nI r))]) rfl ?_
  refine z_iload_n E dX7_isTurn_0 1 rfl rfl ?_
  refine z_ifN_le E dX7_isTurn_1 23 (by decide) (by omega) (fun c1 => ?_) (fun c1 => ?_)
  · refine z_iconst (v := (nI 0)) E dX7_isTurn_23 (by decide) ?_
    refine z_zret E Er dX7_isTurn_24 (by decide) ?_
    exact ⟨bz0 (by rw [isTn, decide_eq_false (by omega)]; rfl), rfl⟩
  · refine z_aload_n E dX7_isTurn_4 0 rfl rfl ?_
    refine gt_X7_22 (v := .ref (h 13)) E dX7_isTurn_5 0 rfl rfl ?_
    refine z_iload_n E dX7_isTurn_8 1 rfl rfl ?_
    refine z_iconst (v := (nI 1)) E dX7_isTurn_9 (by decide) ?_
    refine z_isubN E dX7_isTurn_10 (by omega) ?_
    refine z_ialdN (f := (M.2 13)) E dX7_isTurn_11 5 rfl (by omega) (by decide) ?_
    refine z_topi (y := nI ((T.2 9) (b - 1))) (congrArg nI ((hM.2 (b - 1) (by omega)).2.2.2)) ?_
    refine z_iload_n E dX7_isTurn_12 2 rfl rfl ?_
    refine z_ishrN E dX7_isTurn_13 (hT.1.2 _ _) (by omega) ?_
    refine z_iconst (v := (nI 1)) E dX7_isTurn_14 (by decide) ?_
    refine z_iandN E dX7_isTurn_15 ?_
    refine z_topi (tb_bI ((T.2 9) (b - 1)) r) ?_
    refine z_ifB_ne E dX7_isTurn_16 23 (by decide) (fun c2 => ?_) (fun c2 => ?_)
    · refine z_iconst (v := (nI 0)) E dX7_isTurn_23 (by decide) ?_
      refine z_zret E Er dX7_isTurn_24 (by decide) ?_
      exact ⟨bz0 (by rw [isTn, c2]; simp), rfl⟩
    · refine z_iconst (v := (nI 1)) E dX7_isTurn_19 (by decide) ?_
      refine z_goto E dX7_isTurn_20 24 (by decide) ?_
      refine z_zret E Er dX7_isTurn_24 (by decide) ?_
      exact ⟨bz1 (by rw [isTn, decide_eq_true (by omega), c2]; rfl), rfl⟩
