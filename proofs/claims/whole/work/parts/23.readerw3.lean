theorem rdJ_flag {R : NS} (h : rdJ R) (k : Nat) (hk : k = 6 ∨ k = 7 ∨ k = 8) (v : Nat) (hv : v ≤ 1) : rdJ (sF R k v) := by
  obtain ⟨⟨h1, h2, h3, h4⟩, h5, h6, h7⟩ := h
  rcases hk with rfl | rfl | rfl
  · exact ⟨⟨h1.F (by omega), h2, h3, h4⟩, h5, h6, h7⟩
  · exact ⟨⟨h1.F (by omega), h2, h3, h4⟩, h5, h6, h7⟩
  · exact ⟨⟨h1.F (by omega), h2, h3, h4⟩, h5, h6, h7⟩
theorem spPl_J {R T : NS} (h : rdJ R) : rdJ (spPl R T).2.1 := by unfold spPl; split; exact rnS_J h; exact rnS_J h
theorem spRo_J {R T : NS} (h : rdJ R) : rdJ (spRo R T).2.1 := by
  unfold spRo; split
  · exact rnS_J h
  · split
    · exact rnS_J (rnS_J h)
    · split
      · exact rnS_J (rnS_J (rnS_J h))
      · exact rnS_J (rnS_J (rnS_J h))
theorem spSt_J {R T : NS} (h : rdJ R) : rdJ (spSt R T).2.1 := by
  unfold spSt; split
  · exact rnS_J h
  · split
    · exact rnS_J (rnS_J h)
    · exact rnS_J (rnS_J h)
theorem spGo_J {R T : NS} (h : rdJ R) : rdJ (spGo R T).2.1 := by
  unfold spGo; split
  · exact rnS_J h
  · split
    · exact rnS_J (rnS_J h)
    · exact rdJ_flag (rnS_J (rnS_J h)) 6 (Or.inl rfl) 1 (by decide)
theorem spNe_J {R T : NS} (h : rdJ R) : rdJ (spNe R T).2.1 := by
  unfold spNe; split
  · exact rnS_J h
  · exact rdJ_flag (rnS_J h) 7 (Or.inr (Or.inl rfl)) 1 (by decide)
theorem spLo_J {R T : NS} (h : rdJ R) : rdJ (spLo R T).2.1 := by
  unfold spLo; split
  · exact rnS_J h
  · exact rdJ_flag (rnS_J h) 8 (Or.inr (Or.inr rfl)) 1 (by decide)
theorem spNum_J {R T : NS} {x : Nat} (h : rdJ R) : rdJ (spNum R T x).2.1 := by
  unfold spNum
  split
  · exact spPl_J h
  · split
    · exact spRo_J h
    · split
      · exact spSt_J h
      · split
        · exact spGo_J h
        · split
          · exact spNe_J h
          · split
            · exact spLo_J h
            · exact h
noncomputable def spIt (R T : NS) (f : Nat) : Bool × NS × NS :=
  if cbF R T (R.1 3) f = false then (false, R, T) else
  if (spNum (tokR R) T (R.1 3)).1 = false then (false, (spNum (tokR R) T (R.1 3)).2.1, (spNum (tokR R) T (R.1 3)).2.2) else
  if (spNum (tokR R) T (R.1 3)).2.1.1 3 = 62 then (true, tokR (spNum (tokR R) T (R.1 3)).2.1, (spNum (tokR R) T (R.1 3)).2.2) else
  (false, (spNum (tokR R) T (R.1 3)).2.1, (spNum (tokR R) T (R.1 3)).2.2)
theorem spIt_J {R T : NS} {f : Nat} (h : rdJ R) : rdJ (spIt R T f).2.1 := by
  have h1 := tokR_J h.1 h.2.1
  have h2 := spNum_J (T := T) (x := R.1 3) h1
  unfold spIt
  split
  · exact h
  · split
    · exact h2
    · split
      · exact tokR_J h2.1 h2.2.1
      · exact h2

theorem spI_a {R T : NS} {f : Nat} (h : cbF R T (R.1 3) f = false) : spIt R T f = (false, R, T) := by unfold spIt; rw [if_pos h]
theorem spI_b {R T : NS} {f : Nat} (h : cbF R T (R.1 3) f = true) (h2 : (spNum (tokR R) T (R.1 3)).1 = false) : spIt R T f = (false, (spNum (tokR R) T (R.1 3)).2.1, (spNum (tokR R) T (R.1 3)).2.2) := by
  unfold spIt; rw [if_neg (show ¬ cbF R T (R.1 3) f = false by rw [h]; decide), if_pos h2]
theorem spI_c {R T : NS} {f : Nat} (h : cbF R T (R.1 3) f = true) (h2 : (spNum (tokR R) T (R.1 3)).1 = true) (h3 : (spNum (tokR R) T (R.1 3)).2.1.1 3 = 62) : spIt R T f = (true, tokR (spNum (tokR R) T (R.1 3)).2.1, (spNum (tokR R) T (R.1 3)).2.2) := by
  unfold spIt; rw [if_neg (show ¬ cbF R T (R.1 3) f = false by rw [h]; decide), if_neg (show ¬ (spNum (tokR R) T (R.1 3)).1 = false by rw [h2]; decide), if_pos h3]
theorem spI_d {R T : NS} {f : Nat} (h : cbF R T (R.1 3) f = true) (h2 : (spNum (tokR R) T (R.1 3)).1 = true) (h3 : (spNum (tokR R) T (R.1 3)).2.1.1 3 ≠ 62) : spIt R T f = (false, (spNum (tokR R) T (R.1 3)).2.1, (spNum (tokR R) T (R.1 3)).2.2) := by
  unfold spIt; rw [if_neg (show ¬ cbF R T (R.1 3) f = false by rw [h]; decide), if_neg (show ¬ (spNum (tokR R) T (R.1 3)).1 = false by rw [h2]; decide), if_neg h3]

def rdK (R : NS) : Prop := R.1 3 ≠ 1 → R.1 4 < R.1 1 ∧ R.1 4 < R.1 2
theorem tokR_K (R : NS) : rdK (tokR R) := by
  intro h
  have h1 : lxT (R.2 0) (R.1 1) (R.1 2) ≠ 1 := h
  have h2 : lxA (R.2 0) (R.1 1) (R.1 2) < R.1 1 := by
    unfold lxT at h1
    unfold lxA
    split at h1
    · exact absurd rfl h1
    · omega
  exact ⟨h2, lxN_gt h2⟩
theorem tokR_4 (R : NS) : R.1 2 ≤ (tokR R).1 4 := sk_ge _ _ _
theorem rnS_K {R : NS} {lo hi bt : Int32} (h : rdK R) : rdK (rnS R lo hi bt) := by
  by_cases q : rnC R lo hi bt
  · rw [rnS_y q]; exact tokR_K R
  · rw [rnS_n q]; exact h
theorem rnS_4 {R : NS} {lo hi bt : Int32} (h : rdK R) : R.1 4 ≤ (rnS R lo hi bt).1 4 := by
  by_cases q : rnC R lo hi bt
  · rw [rnS_y q]
    have h1 := h (by rw [q.1]; decide)
    have := tokR_4 R
    omega
  · rw [rnS_n q]; exact Nat.le_refl _
theorem spNum_K {R T : NS} {x : Nat} (h : rdK R) : rdK (spNum R T x).2.1 ∧ R.1 4 ≤ (spNum R T x).2.1.1 4 := by
  have f1 : ∀ {R : NS} (k v : Nat), k = 6 ∨ k = 7 ∨ k = 8 → rdK R → rdK (sF R k v) ∧ (sF R k v).1 4 = R.1 4 := by
    intro R k v hk h
    rcases hk with rfl | rfl | rfl <;> exact ⟨h, rfl⟩
  have a1 : ∀ {lo hi bt : Int32}, rdK (rnS R lo hi bt) := rnS_K h
  have b1 : ∀ {lo hi bt : Int32}, R.1 4 ≤ (rnS R lo hi bt).1 4 := rnS_4 h
  have a2 : ∀ {lo hi bt lo2 hi2 bt2 : Int32}, rdK (rnS (rnS R lo hi bt) lo2 hi2 bt2) := rnS_K a1
  have b2 : ∀ {lo hi bt lo2 hi2 bt2 : Int32}, R.1 4 ≤ (rnS (rnS R lo hi bt) lo2 hi2 bt2).1 4 := Nat.le_trans b1 (rnS_4 a1)
  have a3 : ∀ {lo hi bt lo2 hi2 bt2 lo3 hi3 bt3 : Int32}, rdK (rnS (rnS (rnS R lo hi bt) lo2 hi2 bt2) lo3 hi3 bt3) := rnS_K a2
  have b3 : ∀ {lo hi bt lo2 hi2 bt2 lo3 hi3 bt3 : Int32}, R.1 4 ≤ (rnS (rnS (rnS R lo hi bt) lo2 hi2 bt2) lo3 hi3 bt3).1 4 := Nat.le_trans b2 (rnS_4 a2)
  unfold spNum
  split
  · unfold spPl; split; exact ⟨a1, b1⟩; exact ⟨a1, b1⟩
  · split
    · unfold spRo; split; exact ⟨a1, b1⟩; split; exact ⟨a2, b2⟩; split; exact ⟨a3, b3⟩; exact ⟨a3, b3⟩
    · split
      · unfold spSt; split; exact ⟨a1, b1⟩; split; exact ⟨a2, b2⟩; exact ⟨a2, b2⟩
      · split
        · unfold spGo; split; exact ⟨a1, b1⟩; split; exact ⟨a2, b2⟩; exact ⟨(f1 6 1 (Or.inl rfl) a2).1, b2⟩
        · split
          · unfold spNe; split; exact ⟨a1, b1⟩; exact ⟨(f1 7 1 (Or.inr (Or.inl rfl)) a1).1, b1⟩
          · split
            · unfold spLo; split; exact ⟨a1, b1⟩; exact ⟨(f1 8 1 (Or.inr (Or.inr rfl)) a1).1, b1⟩
            · exact ⟨h, Nat.le_refl _⟩
/-- an item that is well told is one letter long at least -/
theorem spIt_4 {R T : NS} {f : Nat} (hK : rdK R) (h3 : R.1 3 ≠ 1) (h : (spIt R T f).1 = true) : rdK (spIt R T f).2.1 ∧ R.1 4 + 1 ≤ (spIt R T f).2.1.1 4 := by
  have h1 := hK h3
  have h2 := tokR_4 R
  obtain ⟨h4, h5⟩ := spNum_K (T := T) (x := R.1 3) (tokR_K R)
  unfold spIt at h ⊢
  split at h
  · cases h
  · split at h
    · cases h
    · split at h
      · rename_i a b c
        rw [if_neg a, if_neg b, if_pos c]
        have h6 := h4 (by rw [c]; decide)
        have h7 := tokR_4 (spNum (tokR R) T (R.1 3)).2.1
        refine ⟨tokR_K _, ?_⟩
        show R.1 4 + 1 ≤ (tokR (spNum (tokR R) T (R.1 3)).2.1).1 4
        omega
      · cases h
