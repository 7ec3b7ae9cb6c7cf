theorem rdJ_flag {R : NS} (h : rdJ R) (k : Nat) (hk : k = 6 ∨ k = 7 ∨ k = 8) (v : Nat) (hv : v ≤ 1) : rdJ (sF R k v) := by
  obtain ⟨⟨h1, h2, h3, h4⟩, h5, h6, h7⟩ := h
  rcases hk with rfl | rfl | rfl
  · exact ⟨⟨h1.F (by omega), h2, h3, h4⟩, h5, h6, h7⟩
  · exact ⟨⟨h1.F (by omega), h2, h3, h4⟩, h5, h6, h7⟩
  · exact ⟨⟨h1.F (by omega), h2, h3, h4⟩, h5, h6, h7⟩
theorem spPl_J {R T : NS} (h : rdJ R) : rdJ (spPl R T).2.1 := by unfold spPl; split; exact rnS_J h; exact rnS_J h
theorem spRo_J {R T : NS} (h : rdJ R) : rdJ (spRo R T).2.1 := by
  unfold spRo; split
  · exact rnS_J h
  · split
    · exact rnS_J (rnS_J h)
    · split
      · exact rnS_J (rnS_J (rnS_J h))
      · exact rnS_J (rnS_J (rnS_J h))
theorem spSt_J {R T : NS} (h : rdJ R) : rdJ (spSt R T).2.1 := by
  unfold spSt; split
  · exact rnS_J h
  · split
    · exact rnS_J (rnS_J h)
    · exact rnS_J (rnS_J h)
theorem spGo_J {R T : NS} (h : rdJ R) : rdJ (spGo R T).2.1 := by
  unfold spGo; split
  · exact rnS_J h
  · split
    · exact rnS_J (rnS_J h)
    · exact rdJ_flag (rnS_J (rnS_J h)) 6 (Or.inl rfl) 1 (by decide)
theorem spNe_J {R T : NS} (h : rdJ R) : rdJ (spNe R T).2.1 := by
  unfold spNe; split
  · exact rnS_J h
  · exact rdJ_flag (rnS_J h) 7 (Or.inr (Or.inl rfl)) 1 (by decide)
theorem spLo_J {R T : NS} (h : rdJ R) : rdJ (spLo R T).2.1 := by
  unfold spLo; split
  · exact rnS_J h
  · exact rdJ_flag (rnS_J h) 8 (Or.inr (Or.inr rfl)) 1 (by decide)
theorem spNum_J {R T : NS} {x : Nat} (h : rdJ R) : rdJ (spNum R T x).2.1 := by
  unfold spNum
  split
  · exact spPl_J h
  · split
    · exact spRo_J h
    · split
      · exact spSt_J h
      · split
        · exact spGo_J h
        · split
          · exact spNe_J h
          · split
            · exact spLo_J h
            · exact h
noncomputable def spIt (R T : NS) (f : Nat) : Bool × NS × NS :=
  if cbF R T (R.1 3) f = false then (false, R, T) else
  if (spNum (tokR R) T (R.1 3)).1 = false then (false, (spNum (tokR R) T (R.1 3)).2.1, (spNum (tokR R) T (R.1 3)).2.2) else
  if (spNum (tokR R) T (R.1 3)).2.1.1 3 = 62 then (true, tokR (spNum (tokR R) T (R.1 3)).2.1, (spNum (tokR R) T (R.1 3)).2.2) else
  (false, (spNum (tokR R) T (R.1 3)).2.1, (spNum (tokR R) T (R.1 3)).2.2)
theorem spIt_J {R T : NS} {f : Nat} (h : rdJ R) : rdJ (spIt R T f).2.1 := by
  have h1 := tokR_J h.1 h.2.1
  have h2 := spNum_J (T := T) (x := R.1 3) h1
  unfold spIt
  split
  · exact h
  · split
    · exact h2
    · split
      · exact tokR_J h2.1 h2.2.1
      · exact h2

set_option maxHeartbeats 4000000 in
set_option maxRecDepth 100000 in
theorem c_X3_readItem (g : GC) (e : Nat) (u : Nat → Nat) (R : NS) (a : Nat) (h : Nat → Nat) (T : NS) (f : Nat) (hr : rdJ R) (hp : 1 ≤ T.1 0) (hR : T.1 1 ≤ 12) (hf : f ≤ 1) : Ct g yX3_readItem cX3_readItem 4 (some .boolean) 7 0 0 [.ref e, .ref a, .int (nI f)] (wRead g e u R ++ (wTown g a h T)) (DI (bI ((spIt R T f).1)) (wRead g e u ((spIt R T f).2.1) ++ (wTown g a h ((spIt R T f).2.2)))) := by
  refine Ct.of (by decide) (Nat.le_of_ble_eq_true rfl) ?_
  intro X E Er hX _ hnm
  have E : Ob g X cX3_readItem 4 RX3 := E
  have hJ1 := tokR_J hr.1 hr.2.1
  have hJ2 := spNum_J (T := T) (x := R.1 3) hJ1
  have ht2 := tkOK_lt hJ2.2.2.1
  refine z_lve (lv' := [(0, .ref e), (1, .ref a), (2, .int (nI f))]) rfl ?_
  refine z_aload_n E dX3_readItem_0 0 rfl rfl ?_
  refine gt_X3_40 (v := .int (tk (R.1 3))) E dX3_readItem_1 0 rfl rfl ?_
  refine z_istore_n (lv' := [(0, .ref e), (1, .ref a), (2, .int (nI f)), (3, .int (tk (R.1 3)))]) E dX3_readItem_4 3 rfl (by decide) rfl ?_
  refine z_aload_n E dX3_readItem_5 0 rfl rfl ?_
  refine z_iload_n E dX3_readItem_6 3 rfl rfl ?_
  refine z_aload_n E dX3_readItem_7 1 rfl rfl ?_
  refine z_iload_n E dX3_readItem_8 2 rfl rfl ?_
  refine z_ro0 E (rV E hX (c_X3_canBegin g e u R a h T (R.1 3) f hr.1.1 (by omega) hr.2.2.1 (by omega)) mw_X3_canBegin ml_X3_50 dX3_readItem_9 (Nat.le_of_ble_eq_true rfl) ⟨(Nat.le_of_ble_eq_true rfl), (Nat.le_of_ble_eq_true rfl)⟩ rfl rfl (Nat.le_of_ble_eq_true rfl) 0 rfl rfl) ?_
  refine z_ifB_ne E dX3_readItem_12 17 (by decide) (fun c1 => ?_) (fun c1 => ?_)
  · have hR2 : R.1 3 = 117 → T.1 1 < 12 := fun e => by rw [cbF, e] at c1; simpa using c1
    refine z_aload_n E dX3_readItem_17 0 rfl rfl ?_
    refine z_rwv (ws2 := wRead g e u (tokR R) ++ (wTown g a h T)) E (rV E hX (c_X3_readToken g e u R hr.1 hr.2.1) mw_X3_readToken ml_X3_37 dX3_readItem_18 (Nat.le_of_ble_eq_true rfl) ⟨(Nat.le_of_ble_eq_true rfl), (Nat.le_of_ble_eq_true rfl)⟩ rfl rfl (Nat.le_of_ble_eq_true rfl) 0 rfl rfl) [0, 1] rfl (by decide) rfl rfl ?_
    refine z_aload_n E dX3_readItem_21 0 rfl rfl ?_
    refine z_iload_n E dX3_readItem_22 3 rfl rfl ?_
    refine z_aload_n E dX3_readItem_23 1 rfl rfl ?_
    refine z_rw0 (w2 := wRead g e u ((spNum (tokR R) T (R.1 3)).2.1) ++ (wTown g a h ((spNum (tokR R) T (R.1 3)).2.2))) E (rV E hX (c_X3_readNumbers g e u (tokR R) a h T (R.1 3) hJ1 hr.2.2.1 (by omega) (by omega) hR2) mw_X3_readNumbers ml_X3_54 dX3_readItem_24 (Nat.le_of_ble_eq_true rfl) ⟨(Nat.le_of_ble_eq_true rfl), (Nat.le_of_ble_eq_true rfl)⟩ rfl rfl (Nat.le_of_ble_eq_true rfl) 0 rfl rfl) rfl ?_
    refine z_ifB_eq E dX3_readItem_27 39 (by decide) (fun c2 => ?_) (fun c2 => ?_)
    · refine z_iconst (v := (nI 0)) E dX3_readItem_39 (by decide) ?_
      refine z_zret E Er dX3_readItem_40 (by decide) ?_
      exact ⟨bz0 (by unfold spIt; rw [if_neg (show ¬ cbF R T (R.1 3) f = false by rw [c1]; decide), if_pos c2]), by unfold spIt; rw [if_neg (show ¬ cbF R T (R.1 3) f = false by rw [c1]; decide), if_pos c2]⟩
    · refine z_aload_n E dX3_readItem_30 0 rfl rfl ?_
      refine gt_X3_40 (v := .int (tk (((spNum (tokR R) T (R.1 3)).2.1).1 3))) E dX3_readItem_31 0 rfl rfl ?_
      refine z_bipush (v := (nI 59)) E dX3_readItem_34 (by decide) ?_
      refine z_icmpT_eq (q := 62) E dX3_readItem_36 41 (by decide) (by omega) (by decide) (fun c3 => ?_) (fun c3 => ?_)
      · refine z_aload_n E dX3_readItem_41 0 rfl rfl ?_
        refine z_rwv (ws2 := wRead g e u (tokR ((spNum (tokR R) T (R.1 3)).2.1)) ++ (wTown g a h ((spNum (tokR R) T (R.1 3)).2.2))) E (rV E hX (c_X3_readToken g e u ((spNum (tokR R) T (R.1 3)).2.1) hJ2.1 hJ2.2.1) mw_X3_readToken ml_X3_37 dX3_readItem_42 (Nat.le_of_ble_eq_true rfl) ⟨(Nat.le_of_ble_eq_true rfl), (Nat.le_of_ble_eq_true rfl)⟩ rfl rfl (Nat.le_of_ble_eq_true rfl) 0 rfl rfl) [0, 1] rfl (by decide) rfl rfl ?_
        refine z_iconst (v := (nI 1)) E dX3_readItem_45 (by decide) ?_
        refine z_zret E Er dX3_readItem_46 (by decide) ?_
        exact ⟨bz1 (by unfold spIt; rw [if_neg (show ¬ cbF R T (R.1 3) f = false by rw [c1]; decide), if_neg (show ¬ (spNum (tokR R) T (R.1 3)).1 = false by rw [c2]; decide), if_pos c3]), by unfold spIt; rw [if_neg (show ¬ cbF R T (R.1 3) f = false by rw [c1]; decide), if_neg (show ¬ (spNum (tokR R) T (R.1 3)).1 = false by rw [c2]; decide), if_pos c3]⟩
      · refine z_iconst (v := (nI 0)) E dX3_readItem_39 (by decide) ?_
        refine z_zret E Er dX3_readItem_40 (by decide) ?_
        exact ⟨bz0 (by unfold spIt; rw [if_neg (show ¬ cbF R T (R.1 3) f = false by rw [c1]; decide), if_neg (show ¬ (spNum (tokR R) T (R.1 3)).1 = false by rw [c2]; decide), if_neg c3]), by unfold spIt; rw [if_neg (show ¬ cbF R T (R.1 3) f = false by rw [c1]; decide), if_neg (show ¬ (spNum (tokR R) T (R.1 3)).1 = false by rw [c2]; decide), if_neg c3]⟩
  · refine z_iconst (v := (nI 0)) E dX3_readItem_15 (by decide) ?_
    refine z_zret E Er dX3_readItem_16 (by decide) ?_
    exact ⟨bz0 (by unfold spIt; rw [if_pos c1]), by unfold spIt; rw [if_pos c1]⟩

def rdK (R : NS) : Prop := R.1 3 ≠ 1 → R.1 4 < R.1 1 ∧ R.1 4 < R.1 2
theorem tokR_K (R : NS) : rdK (tokR R) := by
  intro h
  have h1 : lxT (R.2 0) (R.1 1) (R.1 2) ≠ 1 := h
  have h2 : lxA (R.2 0) (R.1 1) (R.1 2) < R.1 1 := by
    unfold lxT at h1
    unfold lxA
    split at h1
    · exact absurd rfl h1
    · omega
  exact ⟨h2, lxN_gt h2⟩
theorem tokR_4 (R : NS) : R.1 2 ≤ (tokR R).1 4 := sk_ge _ _ _
theorem rnS_K {R : NS} {lo hi bt : Int32} (h : rdK R) : rdK (rnS R lo hi bt) := by
  by_cases q : rnC R lo hi bt
  · rw [rnS_y q]; exact tokR_K R
  · rw [rnS_n q]; exact h
theorem rnS_4 {R : NS} {lo hi bt : Int32} (h : rdK R) : R.1 4 ≤ (rnS R lo hi bt).1 4 := by
  by_cases q : rnC R lo hi bt
  · rw [rnS_y q]
    have h1 := h (by rw [q.1]; decide)
    have := tokR_4 R
    omega
  · rw [rnS_n q]; exact Nat.le_refl _
theorem spNum_K {R T : NS} {x : Nat} (h : rdK R) : rdK (spNum R T x).2.1 ∧ R.1 4 ≤ (spNum R T x).2.1.1 4 := by
  have f1 : ∀ {R : NS} (k v : Nat), k = 6 ∨ k = 7 ∨ k = 8 → rdK R → rdK (sF R k v) ∧ (sF R k v).1 4 = R.1 4 := by
    intro R k v hk h
    rcases hk with rfl | rfl | rfl <;> exact ⟨h, rfl⟩
  have a1 : ∀ {lo hi bt : Int32}, rdK (rnS R lo hi bt) := rnS_K h
  have b1 : ∀ {lo hi bt : Int32}, R.1 4 ≤ (rnS R lo hi bt).1 4 := rnS_4 h
  have a2 : ∀ {lo hi bt lo2 hi2 bt2 : Int32}, rdK (rnS (rnS R lo hi bt) lo2 hi2 bt2) := rnS_K a1
  have b2 : ∀ {lo hi bt lo2 hi2 bt2 : Int32}, R.1 4 ≤ (rnS (rnS R lo hi bt) lo2 hi2 bt2).1 4 := Nat.le_trans b1 (rnS_4 a1)
  have a3 : ∀ {lo hi bt lo2 hi2 bt2 lo3 hi3 bt3 : Int32}, rdK (rnS (rnS (rnS R lo hi bt) lo2 hi2 bt2) lo3 hi3 bt3) := rnS_K a2
  have b3 : ∀ {lo hi bt lo2 hi2 bt2 lo3 hi3 bt3 : Int32}, R.1 4 ≤ (rnS (rnS (rnS R lo hi bt) lo2 hi2 bt2) lo3 hi3 bt3).1 4 := Nat.le_trans b2 (rnS_4 a2)
  unfold spNum
  split
  · unfold spPl; split; exact ⟨a1, b1⟩; exact ⟨a1, b1⟩
  · split
    · unfold spRo; split; exact ⟨a1, b1⟩; split; exact ⟨a2, b2⟩; split; exact ⟨a3, b3⟩; exact ⟨a3, b3⟩
    · split
      · unfold spSt; split; exact ⟨a1, b1⟩; split; exact ⟨a2, b2⟩; exact ⟨a2, b2⟩
      · split
        · unfold spGo; split; exact ⟨a1, b1⟩; split; exact ⟨a2, b2⟩; exact ⟨(f1 6 1 (Or.inl rfl) a2).1, b2⟩
        · split
          · unfold spNe; split; exact ⟨a1, b1⟩; exact ⟨(f1 7 1 (Or.inr (Or.inl rfl)) a1).1, b1⟩
          · split
            · unfold spLo; split; exact ⟨a1, b1⟩; exact ⟨(f1 8 1 (Or.inr (Or.inr rfl)) a1).1, b1⟩
            · exact ⟨h, Nat.le_refl _⟩
/-- an item that is well told is one letter long at least -/
theorem spIt_4 {R T : NS} {f : Nat} (hK : rdK R) (h3 : R.1 3 ≠ 1) (h : (spIt R T f).1 = true) : rdK (spIt R T f).2.1 ∧ R.1 4 + 1 ≤ (spIt R T f).2.1.1 4 := by
  have h1 := hK h3
  have h2 := tokR_4 R
  obtain ⟨h4, h5⟩ := spNum_K (T := T) (x := R.1 3) (tokR_K R)
  unfold spIt at h ⊢
  split at h
  · cases h
  · split at h
    · cases h
    · split at h
      · rename_i a b c
        rw [if_neg a, if_neg b, if_pos c]
        have h6 := h4 (by rw [c]; decide)
        have h7 := tokR_4 (spNum (tokR R) T (R.1 3)).2.1
        refine ⟨tokR_K _, ?_⟩
        show R.1 4 + 1 ≤ (tokR (spNum (tokR R) T (R.1 3)).2.1).1 4
        omega
      · cases h
