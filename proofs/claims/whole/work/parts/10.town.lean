def wi (x lo hi : Int32) : Bool := !decide (x < lo) && !decide (hi < x)
def hasR (T : NS) (r : Int32) : Bool := !decide (r < 0) && !decide (nI (T.1 1) ≤ r)
def hasP (T : NS) (r : Int32) : Bool := !decide (r < 0) && !decide (nI (T.1 0) ≤ r)
def meetsT (T : NS) (r p : Nat) : Bool := decide (T.2 6 r = p) || decide (T.2 7 r = p)
def otherT (T : NS) (r p : Nat) : Nat := if T.2 6 r = p then T.2 7 r else T.2 6 r
theorem tb_shr (b r : Nat) : ((b >>> r) &&& 1 ≠ 0) ↔ b.testBit r = true := by
  unfold Nat.testBit
  rw [Nat.and_comm]
  simp
theorem tb_and1 (b r : Nat) : (b >>> r) &&& 1 < 2 ^ 31 := by
  have : (b >>> r) &&& 1 ≤ 1 := Nat.and_le_right
  omega

set_option maxHeartbeats 4000000 in
set_option maxRecDepth 100000 in
theorem c_X6_isWithin (g : GC) (x : Int32) (lo : Int32) (hi : Int32) : Ct g yX6_isWithin cX6_isWithin 3 (some .boolean) 0 0 0 [.int x, .int lo, .int hi] (([] : va_W)) (DI (bI (wi x lo hi)) (([] : va_W))) := by
  refine Ct.of (by decide) (Nat.le_of_ble_eq_true rfl) ?_
  intro X E Er hX _ hnm
  have E : Ob g X cX6_isWithin 3 RX6 := E
  refine z_lve (lv' := [(0, .int x), (1, .int lo), (2, .int hi)]) rfl ?_
  refine z_iload_n E dX6_isWithin_0 0 rfl rfl ?_
  refine z_iload_n E dX6_isWithin_1 1 rfl rfl ?_
  refine z_icmp_lt E dX6_isWithin_2 14 (by decide) (fun c1 => ?_) (fun c1 => ?_)
  · refine z_iconst (v := (nI 0)) E dX6_isWithin_14 (by decide) ?_
    refine z_zret E Er dX6_isWithin_15 (by decide) ?_
    exact ⟨bz0 (by simp [wi, c1]), rfl⟩
  · refine z_iload_n E dX6_isWithin_5 0 rfl rfl ?_
    refine z_iload_n E dX6_isWithin_6 2 rfl rfl ?_
    refine z_icmp_gt E dX6_isWithin_7 14 (by decide) (fun c2 => ?_) (fun c2 => ?_)
    · refine z_iconst (v := (nI 0)) E dX6_isWithin_14 (by decide) ?_
      refine z_zret E Er dX6_isWithin_15 (by decide) ?_
      exact ⟨bz0 (by simp [wi, c1, c2]), rfl⟩
    · refine z_iconst (v := (nI 1)) E dX6_isWithin_10 (by decide) ?_
      refine z_goto E dX6_isWithin_11 15 (by decide) ?_
      refine z_zret E Er dX6_isWithin_15 (by decide) ?_
      exact ⟨bz1 (by simp [wi, c1, c2]), rfl⟩

set_option maxHeartbeats 4000000 in
set_option maxRecDepth 100000 in
theorem c_X6_has (g : GC) (b : Nat) (r : Nat) (hb : b < 2 ^ 31) (hr : r < 32) : Ct g yX6_has cX6_has 2 (some .boolean) 0 0 0 [.int (nI b), .int (nI r)] (([] : va_W)) (DI (bI (b.testBit r)) (([] : va_W))) := by
  refine Ct.of (by decide) (Nat.le_of_ble_eq_true rfl) ?_
  intro X E Er hX _ hnm
  have E : Ob g X cX6_has 2 RX6 := E
  refine z_lve (lv' := [(0, .int (nI b)), (1, .int (nI r))]) rfl ?_
  refine z_iload_n E dX6_has_0 0 rfl rfl ?_
  refine z_iload_n E dX6_has_1 1 rfl rfl ?_
  refine z_ishrN E dX6_has_2 (by omega) (by omega) ?_
  refine z_iconst (v := (nI 1)) E dX6_has_3 (by decide) ?_
  refine z_iandN E dX6_has_4 ?_
  refine z_ifN_eq E dX6_has_5 12 (by decide) (tb_and1 b r) (fun c1 => ?_) (fun c1 => ?_)
  · refine z_iconst (v := (nI 0)) E dX6_has_12 (by decide) ?_
    refine z_zret E Er dX6_has_13 (by decide) ?_
    exact ⟨bz0 (Bool.eq_false_iff.mpr (fun e => (tb_shr b r).mpr e c1)), rfl⟩
  · refine z_iconst (v := (nI 1)) E dX6_has_8 (by decide) ?_
    refine z_goto E dX6_has_9 13 (by decide) ?_
    refine z_zret E Er dX6_has_13 (by decide) ?_
    exact ⟨bz1 ((tb_shr b r).mp c1), rfl⟩

set_option maxHeartbeats 4000000 in
set_option maxRecDepth 100000 in
theorem c_X4_hasRoad (g : GC) (a : Nat) (h : Nat → Nat) (T : NS) (r : Int32) : Ct g yX4_hasRoad cX4_hasRoad 2 (some .boolean) 0 0 0 [.ref a, .int r] (wTown g a h T) (DI (bI (hasR T r)) (wTown g a h T)) := by
  refine Ct.of (by decide) (Nat.le_of_ble_eq_true rfl) ?_
  intro X E Er hX _ hnm
  have E : Ob g X cX4_hasRoad 2 RX4 := E
  refine z_lve (lv' := [(0, .ref a), (1, .int r)]) rfl ?_
  refine z_iload_n E dX4_hasRoad_0 1 rfl rfl ?_
  refine z_if_lt E dX4_hasRoad_1 16 (by decide) (fun c1 => ?_) (fun c1 => ?_)
  · refine z_iconst (v := (nI 0)) E dX4_hasRoad_16 (by decide) ?_
    refine z_zret E Er dX4_hasRoad_17 (by decide) ?_
    exact ⟨bz0 (by simp [hasR, c1]), rfl⟩
  · refine z_iload_n E dX4_hasRoad_4 1 rfl rfl ?_
    refine z_aload_n E dX4_hasRoad_5 0 rfl rfl ?_
    refine gt_X4_31 (v := .int (nI (T.1 1))) E dX4_hasRoad_6 0 rfl rfl ?_
    refine z_icmp_ge E dX4_hasRoad_9 16 (by decide) (fun c2 => ?_) (fun c2 => ?_)
    · refine z_iconst (v := (nI 0)) E dX4_hasRoad_16 (by decide) ?_
      refine z_zret E Er dX4_hasRoad_17 (by decide) ?_
      exact ⟨bz0 (by simp [hasR, c1, c2]), rfl⟩
    · refine z_iconst (v := (nI 1)) E dX4_hasRoad_12 (by decide) ?_
      refine z_goto E dX4_hasRoad_13 17 (by decide) ?_
      refine z_zret E Er dX4_hasRoad_17 (by decide) ?_
      exact ⟨bz1 (by simp [hasR, c1, c2]), rfl⟩

set_option maxHeartbeats 4000000 in
set_option maxRecDepth 100000 in
theorem c_X4_hasPlace (g : GC) (a : Nat) (h : Nat → Nat) (T : NS) (r : Int32) : Ct g yX4_hasPlace cX4_hasPlace 2 (some .boolean) 0 0 0 [.ref a, .int r] (wTown g a h T) (DI (bI (hasP T r)) (wTown g a h T)) := by
  refine Ct.of (by decide) (Nat.le_of_ble_eq_true rfl) ?_
  intro X E Er hX _ hnm
  have E : Ob g X cX4_hasPlace 2 RX4 := E
  refine z_lve (lv' := [(0, .ref a), (1, .int r)]) rfl ?_
  refine z_iload_n E dX4_hasPlace_0 1 rfl rfl ?_
  refine z_if_lt E dX4_hasPlace_1 16 (by decide) (fun c1 => ?_) (fun c1 => ?_)
  · refine z_iconst (v := (nI 0)) E dX4_hasPlace_16 (by decide) ?_
    refine z_zret E Er dX4_hasPlace_17 (by decide) ?_
    exact ⟨bz0 (by simp [hasP, c1]), rfl⟩
  · refine z_iload_n E dX4_hasPlace_4 1 rfl rfl ?_
    refine z_aload_n E dX4_hasPlace_5 0 rfl rfl ?_
    refine gt_X4_27 (v := .int (nI (T.1 0))) E dX4_hasPlace_6 0 rfl rfl ?_
    refine z_icmp_ge E dX4_hasPlace_9 16 (by decide) (fun c2 => ?_) (fun c2 => ?_)
    · refine z_iconst (v := (nI 0)) E dX4_hasPlace_16 (by decide) ?_
      refine z_zret E Er dX4_hasPlace_17 (by decide) ?_
      exact ⟨bz0 (by simp [hasP, c1, c2]), rfl⟩
    · refine z_iconst (v := (nI 1)) E dX4_hasPlace_12 (by decide) ?_
      refine z_goto E dX4_hasPlace_13 17 (by decide) ?_
      refine z_zret E Er dX4_hasPlace_17 (by decide) ?_
      exact ⟨bz1 (by simp [hasP, c1, c2]), rfl⟩

set_option maxHeartbeats 4000000 in
set_option maxRecDepth 100000 in
theorem c_X4_meets (g : GC) (a : Nat) (h : Nat → Nat) (T : NS) (r : Nat) (p : Nat) (hsT : sm T) (hr : r < 12) (hp : p < 2 ^ 31) : Ct g yX4_meets cX4_meets 3 (some .boolean) 0 0 0 [.ref a, .int (nI r), .int (nI p)] (wTown g a h T) (DI (bI (meetsT T r p)) (wTown g a h T)) := by
  refine Ct.of (by decide) (Nat.le_of_ble_eq_true rfl) ?_
  intro X E Er hX _ hnm
  have E : Ob g X cX4_meets 3 RX4 := E
  refine z_lve (lv' := [(0, .ref a), (1, .int (nI r)), (2, .int (nI p))]) rfl ?_
  refine z_aload_n E dX4_meets_0 0 rfl rfl ?_
  refine gt_X4_9 (v := .ref (h 6)) E dX4_meets_1 0 rfl rfl ?_
  refine z_iload_n E dX4_meets_4 1 rfl rfl ?_
  refine z_ialdN (f := (T.2 6)) E dX4_meets_5 1 rfl (by omega) (by decide) ?_
  refine z_iload_n E dX4_meets_6 2 rfl rfl ?_
  refine z_icmpN_eq E dX4_meets_7 20 (by decide) (hsT.2 _ _) (by omega) (fun c1 => ?_) (fun c1 => ?_)
  · refine z_iconst (v := (nI 1)) E dX4_meets_20 (by decide) ?_
    refine z_goto E dX4_meets_21 25 (by decide) ?_
    refine z_zret E Er dX4_meets_25 (by decide) ?_
    exact ⟨bz1 (by simp [meetsT, c1]), rfl⟩
  · refine z_aload_n E dX4_meets_10 0 rfl rfl ?_
    refine gt_X4_15 (v := .ref (h 7)) E dX4_meets_11 0 rfl rfl ?_
    refine z_iload_n E dX4_meets_14 1 rfl rfl ?_
    refine z_ialdN (f := (T.2 7)) E dX4_meets_15 2 rfl (by omega) (by decide) ?_
    refine z_iload_n E dX4_meets_16 2 rfl rfl ?_
    refine z_icmpN_ne E dX4_meets_17 24 (by decide) (hsT.2 _ _) (by omega) (fun c2 => ?_) (fun c2 => ?_)
    · refine z_iconst (v := (nI 0)) E dX4_meets_24 (by decide) ?_
      refine z_zret E Er dX4_meets_25 (by decide) ?_
      exact ⟨bz0 (by simp [meetsT, c1, c2]), rfl⟩
    · refine z_iconst (v := (nI 1)) E dX4_meets_20 (by decide) ?_
      refine z_goto E dX4_meets_21 25 (by decide) ?_
      refine z_zret E Er dX4_meets_25 (by decide) ?_
      exact ⟨bz1 (by simp [meetsT, c1, c2]), rfl⟩

set_option maxHeartbeats 4000000 in
set_option maxRecDepth 100000 in
theorem c_X4_otherEnd (g : GC) (a : Nat) (h : Nat → Nat) (T : NS) (r : Nat) (p : Nat) (hsT : sm T) (hr : r < 12) (hp : p < 2 ^ 31) : Ct g yX4_otherEnd cX4_otherEnd 3 (some .int) 0 0 0 [.ref a, .int (nI r), .int (nI p)] (wTown g a h T) (DI (nI (otherT T r p)) (wTown g a h T)) := by
  refine Ct.of (by decide) (Nat.le_of_ble_eq_true rfl) ?_
  intro X E Er hX _ hnm
  have E : Ob g X cX4_otherEnd 3 RX4 := E
  refine z_lve (lv' := [(0, .ref a), (1, .int (nI r)), (2, .int (nI p))]) rfl ?_
  refine z_aload_n E dX4_otherEnd_0 0 rfl rfl ?_
  refine gt_X4_9 (v := .ref (h 6)) E dX4_otherEnd_1 0 rfl rfl ?_
  refine z_iload_n E dX4_otherEnd_4 1 rfl rfl ?_
  refine z_ialdN (f := (T.2 6)) E dX4_otherEnd_5 1 rfl (by omega) (by decide) ?_
  refine z_iload_n E dX4_otherEnd_6 2 rfl rfl ?_
  refine z_icmpN_ne E dX4_otherEnd_7 19 (by decide) (hsT.2 _ _) (by omega) (fun c1 => ?_) (fun c1 => ?_)
  · refine z_aload_n E dX4_otherEnd_19 0 rfl rfl ?_
    refine gt_X4_9 (v := .ref (h 6)) E dX4_otherEnd_20 0 rfl rfl ?_
    refine z_iload_n E dX4_otherEnd_23 1 rfl rfl ?_
    refine z_ialdN (f := (T.2 6)) E dX4_otherEnd_24 1 rfl (by omega) (by decide) ?_
    refine z_iret E Er dX4_otherEnd_25 ?_
    exact ⟨by simp [otherT, c1], rfl⟩
  · refine z_aload_n E dX4_otherEnd_10 0 rfl rfl ?_
    refine gt_X4_15 (v := .ref (h 7)) E dX4_otherEnd_11 0 rfl rfl ?_
    refine z_iload_n E dX4_otherEnd_14 1 rfl rfl ?_
    refine z_ialdN (f := (T.2 7)) E dX4_otherEnd_15 2 rfl (by omega) (by decide) ?_
    refine z_goto E dX4_otherEnd_16 25 (by decide) ?_
    refine z_iret E Er dX4_otherEnd_25 ?_
    exact ⟨by simp [otherT, c1], rfl⟩

set_option maxHeartbeats 4000000 in
set_option maxRecDepth 100000 in
theorem c_X4_allRoads (g : GC) (a : Nat) (h : Nat → Nat) (T : NS) (hr : T.1 1 ≤ 12) : Ct g yX4_allRoads cX4_allRoads 1 (some .int) 0 0 0 [.ref a] (wTown g a h T) (DI (nI (1 <<< T.1 1 - 1)) (wTown g a h T)) := by
  refine Ct.of (by decide) (Nat.le_of_ble_eq_true rfl) ?_
  intro X E Er hX _ hnm
  have E : Ob g X cX4_allRoads 1 RX4 := E
  refine z_lve (lv' := [(0, .ref a)]) rfl ?_
  refine z_iconst (v := (nI 1)) E dX4_allRoads_0 (by decide) ?_
  refine z_aload_n E dX4_allRoads_1 0 rfl rfl ?_
  refine gt_X4_31 (v := .int (nI (T.1 1))) E dX4_allRoads_2 0 rfl rfl ?_
  refine z_ishlN E dX4_allRoads_5 (by omega) ?_
  refine z_iconst (v := (nI 1)) E dX4_allRoads_6 (by decide) ?_
  refine z_isubN E dX4_allRoads_7 (by rw [Nat.one_shiftLeft]; exact Nat.one_le_two_pow) ?_
  refine z_iret E Er dX4_allRoads_8 ?_
  exact ⟨by simp [], rfl⟩

def rAt (T : NS) (p : Nat) : Nat → Nat
  | 0 => 0
  | i + 1 => if meetsT T i p = true then rAt T p i ||| 1 <<< i else rAt T p i

set_option maxHeartbeats 4000000 in
set_option maxRecDepth 100000 in
theorem l_roadsAt (g : GC) (a : Nat) (h : Nat → Nat) (T : NS) (p : Nat) (hsT : sm T) (hR : T.1 1 ≤ 12) (hp : p < 2 ^ 31) (X : XC) (E : Ob g X cX4_roadsAt 4 RX4) (hX : X.2.2.1 = zR 1 0 0) (K : ∀ (b : Nat), (b = rAt T p (T.1 1)) → Z g X 4 0 0 (wTown g a h T) [(0, .ref a), (1, .int (nI p)), (2, .int (nI b))] [] 33) : ∀ (n : Nat) (i : Nat) (b : Nat), (i ≤ T.1 1) → (b = rAt T p i) → (T.1 1 < i + n) → Z g X 4 0 0 (wTown g a h T) [(0, .ref a), (1, .int (nI p)), (2, .int (nI b)), (3, .int (nI i))] [] 4 := by
  intro n
  induction n with
  | zero =>
    intro i b hi hb hf
    exfalso; omega
  | succ n ih =>
    intro i b hi hb hf
    refine z_iload_n E dX4_roadsAt_4 3 rfl rfl ?_
    refine z_aload_n E dX4_roadsAt_5 0 rfl rfl ?_
    refine gt_X4_31 (v := .int (nI (T.1 1))) E dX4_roadsAt_6 0 rfl rfl ?_
    refine z_icmpN_ge E dX4_roadsAt_9 33 (by decide) (by omega) (hsT.1 _) (fun c1 => ?_) (fun c1 => ?_)
    · refine z_lv [0, 1, 2] rfl ?_; exact K b (by rw [hb, show i = T.1 1 by omega])
    · refine z_aload_n E dX4_roadsAt_12 0 rfl rfl ?_
      refine z_iload_n E dX4_roadsAt_13 3 rfl rfl ?_
      refine z_iload_n E dX4_roadsAt_14 1 rfl rfl ?_
      refine z_ro0 E (rV E hX (c_X4_meets g a h T i p hsT (by omega) (by omega)) mw_X4_meets ml_X4_46 dX4_roadsAt_15 (Nat.le_of_ble_eq_true rfl) ⟨(Nat.le_of_ble_eq_true rfl), (Nat.le_of_ble_eq_true rfl)⟩ rfl rfl (Nat.le_of_ble_eq_true rfl) 0 rfl rfl) ?_
      refine z_ifB_eq E dX4_roadsAt_18 27 (by decide) (fun c2 => ?_) (fun c2 => ?_)
      · refine z_iincN (lv' := [(0, .ref a), (1, .int (nI p)), (2, .int (nI b)), (3, .int (nI (i + 1)))]) E dX4_roadsAt_27 3 rfl (by decide) rfl ?_
        refine z_goto E dX4_roadsAt_30 4 (by decide) ?_
        exact ih (i + 1) b (by omega) (by simp [rAt, hb, c1, c2]) (by omega)
      · refine z_iload_n E dX4_roadsAt_21 2 rfl rfl ?_
        refine z_iconst (v := (nI 1)) E dX4_roadsAt_22 (by decide) ?_
        refine z_iload_n E dX4_roadsAt_23 3 rfl rfl ?_
        refine z_ishlN E dX4_roadsAt_24 (by omega) ?_
        refine z_iorN E dX4_roadsAt_25 ?_
        refine z_istore_n (lv' := [(0, .ref a), (1, .int (nI p)), (2, .int (nI (b ||| (1 <<< i)))), (3, .int (nI i))]) E dX4_roadsAt_26 2 rfl (by decide) rfl ?_
        refine z_iincN (lv' := [(0, .ref a), (1, .int (nI p)), (2, .int (nI (b ||| (1 <<< i)))), (3, .int (nI (i + 1)))]) E dX4_roadsAt_27 3 rfl (by decide) rfl ?_
        refine z_goto E dX4_roadsAt_30 4 (by decide) ?_
        exact ih (i + 1) (b ||| (1 <<< i)) (by omega) (by simp [rAt, hb, c1, c2]) (by omega)

set_option maxHeartbeats 4000000 in
set_option maxRecDepth 100000 in
theorem c_X4_roadsAt (g : GC) (a : Nat) (h : Nat → Nat) (T : NS) (p : Nat) (hsT : sm T) (hR : T.1 1 ≤ 12) (hp : p < 2 ^ 31) : Ct g yX4_roadsAt cX4_roadsAt 4 (some .int) 1 0 0 [.ref a, .int (nI p)] (wTown g a h T) (DI (nI (rAt T p (T.1 1))) (wTown g a h T)) := by
  refine Ct.of (by decide) (Nat.le_of_ble_eq_true rfl) ?_
  intro X E Er hX _ hnm
  have E : Ob g X cX4_roadsAt 4 RX4 := E
  refine z_lve (lv' := [(0, .ref a), (1, .int (nI p))]) rfl ?_
  refine z_iconst (v := (nI 0)) E dX4_roadsAt_0 (by decide) ?_
  refine z_istore_n (lv' := [(0, .ref a), (1, .int (nI p)), (2, .int (nI 0))]) E dX4_roadsAt_1 2 rfl (by decide) rfl ?_
  refine z_iconst (v := (nI 0)) E dX4_roadsAt_2 (by decide) ?_
  refine z_istore_n (lv' := [(0, .ref a), (1, .int (nI p)), (2, .int (nI 0)), (3, .int (nI 0))]) E dX4_roadsAt_3 3 rfl (by decide) rfl ?_
  refine l_roadsAt g a h T p hsT hR hp X E hX (fun b hb => ?_) (T.1 1 + 1) 0 0 (by omega) rfl (by omega)
  refine z_iload_n E dX4_roadsAt_33 2 rfl rfl ?_
  refine z_iret E Er dX4_roadsAt_34 ?_
  exact ⟨by rw [hb], rfl⟩

def isTn (T : NS) (by_ : Nat) (r : Nat) : Bool := decide (0 < by_ ∧ by_ ≤ T.1 1) && !(T.2 9 (by_ - 1)).testBit r
def nvT (T : NS) (by_ : Nat) (r : Nat) : Nat := if isTn T by_ r = true then T.1 4 else 0
theorem hasR_cm (T : NS) (hR : T.1 1 ≤ 12) (c : Nat) (hc : c < 2 ^ 31) : hasR T (cm c) = decide (0 < c ∧ c ≤ T.1 1) := by
  unfold hasR
  cases c with
  | zero => simp [cm]
  | succ c =>
    show (!decide (nI c < 0) && !decide (nI (T.1 1) ≤ nI c)) = _
    have h1 : ¬ nI c < 0 := nI_pos (by omega)
    have h2 : nI (T.1 1) ≤ nI c ↔ T.1 1 ≤ c := nI_leI (by omega) (by omega)
    simp only [h1, h2]
    by_cases h : T.1 1 ≤ c
    · simp [h]; omega
    · simp [h]; omega

set_option maxHeartbeats 4000000 in
set_option maxRecDepth 100000 in
theorem c_X4_isTurn (g : GC) (a : Nat) (h : Nat → Nat) (T : NS) (c : Nat) (r : Nat) (hsT : sm T) (hR : T.1 1 ≤ 12) (hc : c < 2 ^ 31) (hr : r < 32) : Ct g yX4_isTurn cX4_isTurn 3 (some .boolean) 1 0 0 [.ref a, .int (cm c), .int (nI r)] (wTown g a h T) (DI (bI (isTn T c r)) (wTown g a h T)) := by
  refine Ct.of (by decide) (Nat.le_of_ble_eq_true rfl) ?_
  intro X E Er hX _ hnm
  have E : Ob g X cX4_isTurn 3 RX4 := E
  refine z_lve (lv' := [(0, .ref a), (1, .int (cm c)), (2, .int (nI r))]) rfl ?_
  rcases c with _ | k
  · refine z_lve (lv' := [(0, .ref a), (1, .int (-9)), (2, .int (nI r))]) rfl ?_
    refine z_iload_n E dX4_isTurn_0 1 rfl rfl ?_
    refine z_if_lt E dX4_isTurn_1 29 (by decide) (fun _ => ?_) (fun q => absurd (by decide) q)
    refine z_iconst (v := (nI 0)) E dX4_isTurn_29 (by decide) ?_
    refine z_zret E Er dX4_isTurn_30 (by decide) ?_
    exact ⟨bz0 (by simp [isTn]), rfl⟩
  · refine z_lve (lv' := [(0, .ref a), (1, .int (nI k)), (2, .int (nI r))]) rfl ?_
    refine z_iload_n E dX4_isTurn_0 1 rfl rfl ?_
    refine z_ifN_lt E dX4_isTurn_1 29 (by decide) (by omega) ?_
    refine z_iload_n E dX4_isTurn_4 1 rfl rfl ?_
    refine z_aload_n E dX4_isTurn_5 0 rfl rfl ?_
    refine gt_X4_31 (v := .int (nI (T.1 1))) E dX4_isTurn_6 0 rfl rfl ?_
    refine z_icmpN_ge E dX4_isTurn_9 29 (by decide) (by omega) (hsT.1 _) (fun c1 => ?_) (fun c1 => ?_)
    · refine z_iconst (v := (nI 0)) E dX4_isTurn_29 (by decide) ?_
      refine z_zret E Er dX4_isTurn_30 (by decide) ?_
      exact ⟨bz0 (by rw [isTn, decide_eq_false (show ¬ (0 < k + 1 ∧ k + 1 ≤ T.1 1) by omega)]; rfl), rfl⟩
    · refine z_aload_n E dX4_isTurn_12 0 rfl rfl ?_
      refine gt_X4_21 (v := .ref (h 9)) E dX4_isTurn_13 0 rfl rfl ?_
      refine z_iload_n E dX4_isTurn_16 1 rfl rfl ?_
      refine z_ialdN (f := (T.2 9)) E dX4_isTurn_17 4 rfl (by omega) (by decide) ?_
      refine z_iload_n E dX4_isTurn_18 2 rfl rfl ?_
      refine z_ishrN E dX4_isTurn_19 (hsT.2 _ _) (by omega) ?_
      refine z_iconst (v := (nI 1)) E dX4_isTurn_20 (by decide) ?_
      refine z_iandN E dX4_isTurn_21 ?_
      refine z_ifN_ne E dX4_isTurn_22 29 (by decide) (tb_and1 _ _) (fun c2 => ?_) (fun c2 => ?_)
      · refine z_iconst (v := (nI 0)) E dX4_isTurn_29 (by decide) ?_
        refine z_zret E Er dX4_isTurn_30 (by decide) ?_
        exact ⟨bz0 (by rw [isTn, Nat.add_sub_cancel, (tb_shr (T.2 9 k) r).mp c2]; simp), rfl⟩
      · refine z_iconst (v := (nI 1)) E dX4_isTurn_25 (by decide) ?_
        refine z_goto E dX4_isTurn_26 30 (by decide) ?_
        refine z_zret E Er dX4_isTurn_30 (by decide) ?_
        exact ⟨bz1 (by rw [isTn, Nat.add_sub_cancel, decide_eq_true (show 0 < k + 1 ∧ k + 1 ≤ T.1 1 by omega), Bool.eq_false_iff.mpr (fun e => (tb_shr (T.2 9 k) r).mpr e c2)]; rfl), rfl⟩

set_option maxHeartbeats 4000000 in
set_option maxRecDepth 100000 in
theorem c_X4_nervesFor (g : GC) (a : Nat) (h : Nat → Nat) (T : NS) (c : Nat) (r : Nat) (hsT : sm T) (hR : T.1 1 ≤ 12) (hc : c < 2 ^ 31) (hr : r < 32) : Ct g yX4_nervesFor cX4_nervesFor 3 (some .int) 2 0 0 [.ref a, .int (cm c), .int (nI r)] (wTown g a h T) (DI (nI (nvT T c r)) (wTown g a h T)) := by
  refine Ct.of (by decide) (Nat.le_of_ble_eq_true rfl) ?_
  intro X E Er hX _ hnm
  have E : Ob g X cX4_nervesFor 3 RX4 := E
  refine z_lve (lv' := [(0, .ref a), (1, .int (cm c)), (2, .int (nI r))]) rfl ?_
  refine z_aload_n E dX4_nervesFor_0 0 rfl rfl ?_
  refine z_iload_n E dX4_nervesFor_1 1 rfl rfl ?_
  refine z_iload_n E dX4_nervesFor_2 2 rfl rfl ?_
  refine z_ro0 E (rV E hX (c_X4_isTurn g a h T c r hsT (by omega) (by omega) (by omega)) mw_X4_isTurn ml_X4_50 dX4_nervesFor_3 (Nat.le_of_ble_eq_true rfl) ⟨(Nat.le_of_ble_eq_true rfl), (Nat.le_of_ble_eq_true rfl)⟩ rfl rfl (Nat.le_of_ble_eq_true rfl) 0 rfl rfl) ?_
  refine z_ifB_eq E dX4_nervesFor_6 16 (by decide) (fun c1 => ?_) (fun c1 => ?_)
  · refine z_iconst (v := (nI 0)) E dX4_nervesFor_16 (by decide) ?_
    refine z_iret E Er dX4_nervesFor_17 ?_
    exact ⟨by simp [nvT, c1], rfl⟩
  · refine z_aload_n E dX4_nervesFor_9 0 rfl rfl ?_
    refine gt_X4_40 (v := .int (nI (T.1 4))) E dX4_nervesFor_10 0 rfl rfl ?_
    refine z_goto E dX4_nervesFor_13 17 (by decide) ?_
    refine z_iret E Er dX4_nervesFor_17 ?_
    exact ⟨by simp [nvT, c1], rfl⟩

def addT (T : NS) (a b m : Nat) : NS := sA (sA (sA (sA (sF T 1 (T.1 1 + 1)) 6 (va_up (T.2 6) (T.1 1) a)) 7 (va_up (T.2 7) (T.1 1) b)) 8 (va_up (T.2 8) (T.1 1) m)) 9 (va_up (T.2 9) (T.1 1) 0)
def strT (T : NS) (r s : Nat) : NS := sA T 9 (va_up (va_up (T.2 9) r (T.2 9 r ||| 1 <<< s)) s (va_up (T.2 9) r (T.2 9 r ||| 1 <<< s) s ||| 1 <<< r))
def fstT (T : NS) : NS := sF (sF (sF (sF (sF (sF T 0 2) 1 0) 2 0) 3 1) 4 2) 5 1

set_option maxHeartbeats 4000000 in
set_option maxRecDepth 100000 in
theorem c_X4_addRoad (g : GC) (a : Nat) (h : Nat → Nat) (T : NS) (x : Nat) (y : Nat) (m : Nat) (hR : T.1 1 < 12) : Ct g yX4_addRoad cX4_addRoad 4 none 0 0 0 [.ref a, .int (nI x), .int (nI y), .int (nI m)] (wTown g a h T) (DV (wTown g a h (addT T x y m))) := by
  refine Ct.of (by decide) (Nat.le_of_ble_eq_true rfl) ?_
  intro X E Er hX _ hnm
  have E : Ob g X cX4_addRoad 4 RX4 := E
  refine z_lve (lv' := [(0, .ref a), (1, .int (nI x)), (2, .int (nI y)), (3, .int (nI m))]) rfl ?_
  refine z_aload_n E dX4_addRoad_0 0 rfl rfl ?_
  refine gt_X4_9 (v := .ref (h 6)) E dX4_addRoad_1 0 rfl rfl ?_
  refine z_aload_n E dX4_addRoad_4 0 rfl rfl ?_
  refine gt_X4_31 (v := .int (nI (T.1 1))) E dX4_addRoad_5 0 rfl rfl ?_
  refine z_iload_n E dX4_addRoad_8 1 rfl rfl ?_
  refine z_iastN (f := (T.2 6)) (i := (T.1 1)) (x := x) (ws' := wTown g a h (sA T 6 (va_up (T.2 6) (T.1 1) x))) E dX4_addRoad_9 1 rfl (by omega) (by decide) rfl ?_
  refine z_aload_n E dX4_addRoad_10 0 rfl rfl ?_
  refine gt_X4_15 (v := .ref (h 7)) E dX4_addRoad_11 0 rfl rfl ?_
  refine z_aload_n E dX4_addRoad_14 0 rfl rfl ?_
  refine gt_X4_31 (v := .int (nI (T.1 1))) E dX4_addRoad_15 0 rfl rfl ?_
  refine z_iload_n E dX4_addRoad_18 2 rfl rfl ?_
  refine z_iastN (f := (T.2 7)) (i := (T.1 1)) (x := y) (ws' := wTown g a h (sA (sA T 6 (va_up (T.2 6) (T.1 1) x)) 7 (va_up (T.2 7) (T.1 1) y))) E dX4_addRoad_19 2 rfl (by omega) (by decide) rfl ?_
  refine z_aload_n E dX4_addRoad_20 0 rfl rfl ?_
  refine gt_X4_18 (v := .ref (h 8)) E dX4_addRoad_21 0 rfl rfl ?_
  refine z_aload_n E dX4_addRoad_24 0 rfl rfl ?_
  refine gt_X4_31 (v := .int (nI (T.1 1))) E dX4_addRoad_25 0 rfl rfl ?_
  refine z_iload_n E dX4_addRoad_28 3 rfl rfl ?_
  refine z_iastN (f := (T.2 8)) (i := (T.1 1)) (x := m) (ws' := wTown g a h (sA (sA (sA T 6 (va_up (T.2 6) (T.1 1) x)) 7 (va_up (T.2 7) (T.1 1) y)) 8 (va_up (T.2 8) (T.1 1) m))) E dX4_addRoad_29 3 rfl (by omega) (by decide) rfl ?_
  refine z_aload_n E dX4_addRoad_30 0 rfl rfl ?_
  refine gt_X4_21 (v := .ref (h 9)) E dX4_addRoad_31 0 rfl rfl ?_
  refine z_aload_n E dX4_addRoad_34 0 rfl rfl ?_
  refine gt_X4_31 (v := .int (nI (T.1 1))) E dX4_addRoad_35 0 rfl rfl ?_
  refine z_iconst (v := (nI 0)) E dX4_addRoad_38 (by decide) ?_
  refine z_iastN (f := (T.2 9)) (i := (T.1 1)) (x := 0) (ws' := wTown g a h (sA (sA (sA (sA T 6 (va_up (T.2 6) (T.1 1) x)) 7 (va_up (T.2 7) (T.1 1) y)) 8 (va_up (T.2 8) (T.1 1) m)) 9 (va_up (T.2 9) (T.1 1) 0))) E dX4_addRoad_39 4 rfl (by omega) (by decide) rfl ?_
  refine z_aload_n E dX4_addRoad_40 0 rfl rfl ?_
  refine z_dup E dX4_addRoad_41 rfl ?_
  refine gt_X4_31 (v := .int (nI (T.1 1))) E dX4_addRoad_42 0 rfl rfl ?_
  refine z_iconst (v := (nI 1)) E dX4_addRoad_45 (by decide) ?_
  refine z_iaddN E dX4_addRoad_46 ?_
  refine pt_X4_31 (x := nI ((T.1 1) + 1)) (ws' := wTown g a h (sA (sA (sA (sA (sF T 1 ((T.1 1) + 1)) 6 (va_up (T.2 6) (T.1 1) x)) 7 (va_up (T.2 7) (T.1 1) y)) 8 (va_up (T.2 8) (T.1 1) m)) 9 (va_up (T.2 9) (T.1 1) 0))) E dX4_addRoad_47 0 rfl (Nat.le_of_ble_eq_true rfl) rfl ?_
  refine z_vret E Er dX4_addRoad_50 ?_
  exact ⟨rfl, rfl⟩

set_option maxHeartbeats 4000000 in
set_option maxRecDepth 100000 in
theorem c_X4_makeStraight (g : GC) (a : Nat) (h : Nat → Nat) (T : NS) (r : Nat) (s : Nat) (hr : r < 12) (hs : s < 12) : Ct g yX4_makeStraight cX4_makeStraight 3 none 0 0 0 [.ref a, .int (nI r), .int (nI s)] (wTown g a h T) (DV (wTown g a h (strT T r s))) := by
  refine Ct.of (by decide) (Nat.le_of_ble_eq_true rfl) ?_
  intro X E Er hX _ hnm
  have E : Ob g X cX4_makeStraight 3 RX4 := E
  refine z_lve (lv' := [(0, .ref a), (1, .int (nI r)), (2, .int (nI s))]) rfl ?_
  refine z_aload_n E dX4_makeStraight_0 0 rfl rfl ?_
  refine gt_X4_21 (v := .ref (h 9)) E dX4_makeStraight_1 0 rfl rfl ?_
  refine z_iload_n E dX4_makeStraight_4 1 rfl rfl ?_
  refine z_dup2 E dX4_makeStraight_5 rfl rfl ?_
  refine z_ialdN (f := (T.2 9)) E dX4_makeStraight_6 4 rfl (by omega) (by decide) ?_
  refine z_iconst (v := (nI 1)) E dX4_makeStraight_7 (by decide) ?_
  refine z_iload_n E dX4_makeStraight_8 2 rfl rfl ?_
  refine z_ishlN E dX4_makeStraight_9 (by omega) ?_
  refine z_iorN E dX4_makeStraight_10 ?_
  refine z_iastN (f := (T.2 9)) (i := r) (x := (((T.2 9) r) ||| (1 <<< s))) (ws' := wTown g a h (sA T 9 (va_up (T.2 9) r (((T.2 9) r) ||| (1 <<< s))))) E dX4_makeStraight_11 4 rfl (by omega) (by decide) rfl ?_
  refine z_aload_n E dX4_makeStraight_12 0 rfl rfl ?_
  refine gt_X4_21 (v := .ref (h 9)) E dX4_makeStraight_13 0 rfl rfl ?_
  refine z_iload_n E dX4_makeStraight_16 2 rfl rfl ?_
  refine z_dup2 E dX4_makeStraight_17 rfl rfl ?_
  refine z_ialdN (f := (va_up (T.2 9) r (((T.2 9) r) ||| (1 <<< s)))) E dX4_makeStraight_18 4 rfl (by omega) (by decide) ?_
  refine z_iconst (v := (nI 1)) E dX4_makeStraight_19 (by decide) ?_
  refine z_iload_n E dX4_makeStraight_20 1 rfl rfl ?_
  refine z_ishlN E dX4_makeStraight_21 (by omega) ?_
  refine z_iorN E dX4_makeStraight_22 ?_
  refine z_iastN (f := (va_up (T.2 9) r (((T.2 9) r) ||| (1 <<< s)))) (i := s) (x := (((va_up (T.2 9) r (((T.2 9) r) ||| (1 <<< s))) s) ||| (1 <<< r))) (ws' := wTown g a h (sA T 9 (va_up (va_up (T.2 9) r (((T.2 9) r) ||| (1 <<< s))) s (((va_up (T.2 9) r (((T.2 9) r) ||| (1 <<< s))) s) ||| (1 <<< r))))) E dX4_makeStraight_23 4 rfl (by omega) (by decide) rfl ?_
  refine z_vret E Er dX4_makeStraight_24 ?_
  exact ⟨rfl, rfl⟩

set_option maxHeartbeats 4000000 in
set_option maxRecDepth 100000 in
theorem c_X4_beAsAtFirst (g : GC) (a : Nat) (h : Nat → Nat) (T : NS) : Ct g yX4_beAsAtFirst cX4_beAsAtFirst 1 none 0 0 0 [.ref a] (wTown g a h T) (DV (wTown g a h (fstT T))) := by
  refine Ct.of (by decide) (Nat.le_of_ble_eq_true rfl) ?_
  intro X E Er hX _ hnm
  have E : Ob g X cX4_beAsAtFirst 1 RX4 := E
  refine z_lve (lv' := [(0, .ref a)]) rfl ?_
  refine z_aload_n E dX4_beAsAtFirst_0 0 rfl rfl ?_
  refine z_iconst (v := (nI 2)) E dX4_beAsAtFirst_1 (by decide) ?_
  refine pt_X4_27 (x := nI 2) (ws' := wTown g a h (sF T 0 2)) E dX4_beAsAtFirst_2 0 rfl (Nat.le_of_ble_eq_true rfl) rfl ?_
  refine z_aload_n E dX4_beAsAtFirst_5 0 rfl rfl ?_
  refine z_iconst (v := (nI 0)) E dX4_beAsAtFirst_6 (by decide) ?_
  refine pt_X4_31 (x := nI 0) (ws' := wTown g a h (sF (sF T 0 2) 1 0)) E dX4_beAsAtFirst_7 0 rfl (Nat.le_of_ble_eq_true rfl) rfl ?_
  refine z_aload_n E dX4_beAsAtFirst_10 0 rfl rfl ?_
  refine z_iconst (v := (nI 0)) E dX4_beAsAtFirst_11 (by decide) ?_
  refine pt_X4_34 (x := nI 0) (ws' := wTown g a h (sF (sF (sF T 0 2) 1 0) 2 0)) E dX4_beAsAtFirst_12 0 rfl (Nat.le_of_ble_eq_true rfl) rfl ?_
  refine z_aload_n E dX4_beAsAtFirst_15 0 rfl rfl ?_
  refine z_iconst (v := (nI 1)) E dX4_beAsAtFirst_16 (by decide) ?_
  refine pt_X4_37 (x := nI 1) (ws' := wTown g a h (sF (sF (sF (sF T 0 2) 1 0) 2 0) 3 1)) E dX4_beAsAtFirst_17 0 rfl (Nat.le_of_ble_eq_true rfl) rfl ?_
  refine z_aload_n E dX4_beAsAtFirst_20 0 rfl rfl ?_
  refine z_iconst (v := (nI 2)) E dX4_beAsAtFirst_21 (by decide) ?_
  refine pt_X4_40 (x := nI 2) (ws' := wTown g a h (sF (sF (sF (sF (sF T 0 2) 1 0) 2 0) 3 1) 4 2)) E dX4_beAsAtFirst_22 0 rfl (Nat.le_of_ble_eq_true rfl) rfl ?_
  refine z_aload_n E dX4_beAsAtFirst_25 0 rfl rfl ?_
  refine z_iconst (v := (nI 1)) E dX4_beAsAtFirst_26 (by decide) ?_
  refine pt_X4_43 (x := nI 1) (ws' := wTown g a h (sF (sF (sF (sF (sF (sF T 0 2) 1 0) 2 0) 3 1) 4 2) 5 1)) E dX4_beAsAtFirst_27 0 rfl (Nat.le_of_ble_eq_true rfl) rfl ?_
  refine z_vret E Er dX4_beAsAtFirst_30 ?_
  exact ⟨rfl, rfl⟩
