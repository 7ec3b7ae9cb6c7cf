def mdT (D M : NS) : Prop := (∀ k, k < 6 → M.2 9 (6 + k) = D.1 k) ∧ (∀ r, r < D.1 1 → M.2 11 (24 + 2 * r) = D.2 6 r ∧ M.2 11 (25 + 2 * r) = D.2 7 r ∧ M.2 12 (12 + r) = D.2 8 r ∧ M.2 13 (12 + r) = D.2 9 r) ∧ ∀ r, D.1 1 ≤ r → r < 12 → M.2 13 (12 + r) = 0
/-- nothing changed but what is read anew -/
def dQ (M M2 : NS) : Prop := (∀ k, k ≠ 0 → k ≠ 4 → k ≠ 5 → k ≠ 6 → k ≠ 7 → k ≠ 8 → k ≠ 10 → M2.1 k = M.1 k) ∧ (∀ i, i ≠ 9 → i ≠ 11 → i ≠ 12 → i ≠ 13 → M2.2 i = M.2 i) ∧ (∀ k, k < 6 → M2.2 9 k = M.2 9 k) ∧ (∀ k, k < 24 → M2.2 11 k = M.2 11 k) ∧ (∀ k, k < 12 → M2.2 12 k = M.2 12 k) ∧ ∀ k, k < 12 → M2.2 13 k = M.2 13 k
theorem dQ.rf (M : NS) : dQ M M := ⟨fun _ _ _ _ _ _ _ _ => rfl, fun _ _ _ _ _ => rfl, fun _ _ => rfl, fun _ _ => rfl, fun _ _ => rfl, fun _ _ => rfl⟩
theorem dQ.tr {M X Y : NS} (h : dQ M X) (h2 : dQ X Y) : dQ M Y := ⟨fun k a b c d e f q => (h2.1 k a b c d e f q).trans (h.1 k a b c d e f q), fun i a b c d => (h2.2.1 i a b c d).trans (h.2.1 i a b c d), fun k hk => (h2.2.2.1 k hk).trans (h.2.2.1 k hk), fun k hk => (h2.2.2.2.1 k hk).trans (h.2.2.2.1 k hk), fun k hk => (h2.2.2.2.2.1 k hk).trans (h.2.2.2.2.1 k hk), fun k hk => (h2.2.2.2.2.2 k hk).trans (h.2.2.2.2.2 k hk)⟩
theorem dQ.F {M X : NS} (h : dQ M X) {k v : Nat} (hk : k = 0 ∨ k = 4 ∨ k = 5 ∨ k = 6 ∨ k = 7 ∨ k = 8 ∨ k = 10) : dQ M (sF X k v) := ⟨fun j a b c d e f q => by
  show va_up X.1 k v j = _
  unfold va_up
  rw [if_neg (by omega)]
  exact h.1 j a b c d e f q, h.2⟩
theorem dQ.A9 {M X : NS} (h : dQ M X) {f : Nat → Nat} (hf : ∀ k, k < 6 → f k = X.2 9 k) : dQ M (sA X 9 f) := ⟨h.1, fun j a b c d => by
  show va_up X.2 9 f j = _
  unfold va_up
  rw [if_neg a]
  exact h.2.1 j a b c d, fun k hk => (hf k hk).trans (h.2.2.1 k hk), h.2.2.2⟩
theorem dQ.A11 {M X : NS} (h : dQ M X) {f : Nat → Nat} (hf : ∀ k, k < 24 → f k = X.2 11 k) : dQ M (sA X 11 f) := ⟨h.1, fun j a b c d => by
  show va_up X.2 11 f j = _
  unfold va_up
  rw [if_neg b]
  exact h.2.1 j a b c d, h.2.2.1, fun k hk => (hf k hk).trans (h.2.2.2.1 k hk), h.2.2.2.2⟩
theorem dQ.A12 {M X : NS} (h : dQ M X) {f : Nat → Nat} (hf : ∀ k, k < 12 → f k = X.2 12 k) : dQ M (sA X 12 f) := ⟨h.1, fun j a b c d => by
  show va_up X.2 12 f j = _
  unfold va_up
  rw [if_neg c]
  exact h.2.1 j a b c d, h.2.2.1, h.2.2.2.1, fun k hk => (hf k hk).trans (h.2.2.2.2.1 k hk), h.2.2.2.2.2⟩
theorem dQ.A13 {M X : NS} (h : dQ M X) {f : Nat → Nat} (hf : ∀ k, k < 12 → f k = X.2 13 k) : dQ M (sA X 13 f) := ⟨h.1, fun j a b c d => by
  show va_up X.2 13 f j = _
  unfold va_up
  rw [if_neg d]
  exact h.2.1 j a b c d, h.2.2.1, h.2.2.2.1, h.2.2.2.2.1, fun k hk => (hf k hk).trans (h.2.2.2.2.2 k hk)⟩
theorem up1 {f : Nat → Nat} {i v k n : Nat} (hi : n ≤ i) (hk : k < n) : va_up f i v k = f k := by
  unfold va_up; rw [if_neg (by omega)]
theorem up2 {f : Nat → Nat} {i v j w k n : Nat} (hi : n ≤ i) (hj : n ≤ j) (hk : k < n) : va_up (va_up f i v) j w k = f k := by
  unfold va_up; rw [if_neg (by omega), if_neg (by omega)]
theorem rnS_0 {R : NS} {lo hi bt : Int32} (h : rnE R lo hi bt = 0) : rnS R lo hi bt = R := by
  by_cases q : rnC R lo hi bt
  · rw [rnE_y q] at h; omega
  · exact rnS_n q
theorem rnS_678 (R : NS) (lo hi bt : Int32) : (rnS R lo hi bt).1 6 = R.1 6 ∧ (rnS R lo hi bt).1 7 = R.1 7 ∧ (rnS R lo hi bt).1 8 = R.1 8 := by
  by_cases q : rnC R lo hi bt
  · rw [rnS_y q]; exact ⟨rfl, rfl, rfl⟩
  · rw [rnS_n q]; exact ⟨rfl, rfl, rfl⟩
theorem tdR_rn {R M : NS} {lo hi bt : Int32} (h : tdR R M) : tdR (rnS R lo hi bt) M := by
  have e := rnS_678 R lo hi bt
  unfold tdR
  rw [e.1, e.2.1, e.2.2]
  exact h
def itP (R D : NS) (x : Nat) (M2 : NS) : Prop := ((spNum R D x).1 = false → M2.1 8 = (spNum R D x).2.1.1 4 + 1) ∧ ((spNum R D x).1 = true → M2.1 8 = 0 ∧ psR (spNum R D x).2.1 M2 ∧ mdT (spNum R D x).2.2 M2 ∧ tdR (spNum R D x).2.1 M2)
theorem it_no {R D R' D' M2 : NS} {x : Nat} (e : spNum R D x = (false, R', D')) (h : M2.1 8 = R'.1 4 + 1) : itP R D x M2 := by
  unfold itP
  rw [e]
  exact ⟨fun _ => h, fun q => absurd (show false = true from q) (by decide)⟩
theorem it_yes {R D R' D' M2 : NS} {x : Nat} (e : spNum R D x = (true, R', D')) (h : M2.1 8 = 0 ∧ psR R' M2 ∧ mdT D' M2 ∧ tdR R' M2) : itP R D x M2 := by
  unfold itP
  rw [e]
  exact ⟨fun q => absurd (show true = false from q) (by decide), fun _ => h⟩
theorem md_fld {D M M2 : NS} {k v : Nat} (h : mdT D M) (hk : k ≠ 1) (e9 : M2.2 9 = va_up (M.2 9) (6 + k) v) (e11 : M2.2 11 = M.2 11) (e12 : M2.2 12 = M.2 12) (e13 : M2.2 13 = M.2 13) : mdT (sF D k v) M2 := by
  have e1 : (sF D k v).1 1 = D.1 1 := by show va_up D.1 k v 1 = _; unfold va_up; rw [if_neg (fun q => hk q.symm)]
  unfold mdT
  rw [e1, e11, e12, e13]
  refine ⟨fun j hj => ?_, h.2⟩
  rw [e9]
  show va_up (M.2 9) (6 + k) v (6 + j) = va_up D.1 k v j
  unfold va_up
  by_cases q : j = k
  · rw [if_pos (by omega), if_pos q]
  · rw [if_neg (by omega), if_neg q]
    exact h.1 j hj
theorem md_road {D M M2 : NS} {x y m : Nat} (h : mdT D M) (hR : D.1 1 < 12) (e9 : M2.2 9 = va_up (M.2 9) 7 (D.1 1 + 1)) (e11 : M2.2 11 = va_up (va_up (M.2 11) (24 + 2 * D.1 1) x) (25 + 2 * D.1 1) y) (e12 : M2.2 12 = va_up (M.2 12) (12 + D.1 1) m) (e13 : M2.2 13 = M.2 13) : mdT (addT D x y m) M2 := by
  refine ⟨fun j hj => ?_, fun r hr => ?_, fun r h1 h2 => ?_⟩
  · rw [e9]
    show va_up (M.2 9) 7 (D.1 1 + 1) (6 + j) = va_up D.1 1 (D.1 1 + 1) j
    unfold va_up
    by_cases q : j = 1
    · rw [if_pos (by omega), if_pos q]
    · rw [if_neg (by omega), if_neg q]
      exact h.1 j hj
  · have hr' : r < D.1 1 + 1 := hr
    rw [e11, e12, e13]
    show va_up (va_up (M.2 11) (24 + 2 * D.1 1) x) (25 + 2 * D.1 1) y (24 + 2 * r) = va_up (D.2 6) (D.1 1) x r ∧ va_up (va_up (M.2 11) (24 + 2 * D.1 1) x) (25 + 2 * D.1 1) y (25 + 2 * r) = va_up (D.2 7) (D.1 1) y r ∧ va_up (M.2 12) (12 + D.1 1) m (12 + r) = va_up (D.2 8) (D.1 1) m r ∧ M.2 13 (12 + r) = va_up (D.2 9) (D.1 1) 0 r
    unfold va_up
    by_cases q : r = D.1 1
    · refine ⟨?_, ?_, ?_, ?_⟩
      · rw [if_neg (by omega), if_pos (by omega), if_pos q]
      · rw [if_pos (by omega), if_pos q]
      · rw [if_pos (by omega), if_pos q]
      · rw [if_pos q]; exact h.2.2 r (by omega) (by omega)
    · have hb := h.2.1 r (by omega)
      refine ⟨?_, ?_, ?_, ?_⟩
      · rw [if_neg (by omega), if_neg (by omega), if_neg q]; exact hb.1
      · rw [if_neg (by omega), if_neg (by omega), if_neg q]; exact hb.2.1
      · rw [if_neg (by omega), if_neg q]; exact hb.2.2.1
      · rw [if_neg q]; exact hb.2.2.2
  · have h1' : D.1 1 + 1 ≤ r := h1
    rw [e13]
    exact h.2.2 r (by omega) h2
theorem md_str {D M M2 : NS} {r s : Nat} (h : mdT D M) (hr : r < D.1 1) (hs : s < D.1 1) (e9 : M2.2 9 = M.2 9) (e11 : M2.2 11 = M.2 11) (e12 : M2.2 12 = M.2 12) (e13 : M2.2 13 = va_up (va_up (M.2 13) (12 + r) (M.2 13 (12 + r) ||| 1 <<< s)) (12 + s) (va_up (M.2 13) (12 + r) (M.2 13 (12 + r) ||| 1 <<< s) (12 + s) ||| 1 <<< r)) : mdT (strT D r s) M2 := by
  have es : ∀ j, j < D.1 1 → va_up (M.2 13) (12 + r) (M.2 13 (12 + r) ||| 1 <<< s) (12 + j) = va_up (D.2 9) r (D.2 9 r ||| 1 <<< s) j := fun j hj => by
    unfold va_up
    by_cases q : j = r
    · rw [if_pos (by omega), if_pos q, (h.2.1 r hr).2.2.2]
    · rw [if_neg (by omega), if_neg q, (h.2.1 j hj).2.2.2]
  refine ⟨fun j hj => by rw [e9]; exact h.1 j hj, fun j hj => ?_, fun j h1 h2 => ?_⟩
  · rw [e11, e12, e13]
    refine ⟨(h.2.1 j hj).1, (h.2.1 j hj).2.1, (h.2.1 j hj).2.2.1, ?_⟩
    show _ = va_up (va_up (D.2 9) r (D.2 9 r ||| 1 <<< s)) s (va_up (D.2 9) r (D.2 9 r ||| 1 <<< s) s ||| 1 <<< r) j
    have e2 := es s hs
    have e3 := es j hj
    by_cases q : j = s
    · rw [q]
      rw [show va_up (va_up (D.2 9) r (D.2 9 r ||| 1 <<< s)) s (va_up (D.2 9) r (D.2 9 r ||| 1 <<< s) s ||| 1 <<< r) s = va_up (D.2 9) r (D.2 9 r ||| 1 <<< s) s ||| 1 <<< r from if_pos rfl, ← e2]
      exact if_pos rfl
    · rw [show va_up (va_up (D.2 9) r (D.2 9 r ||| 1 <<< s)) s (va_up (D.2 9) r (D.2 9 r ||| 1 <<< s) s ||| 1 <<< r) j = va_up (D.2 9) r (D.2 9 r ||| 1 <<< s) j from if_neg q, ← e3]
      exact if_neg (by omega)
  · rw [e13]
    have h1' : D.1 1 ≤ j := h1
    show (if 12 + j = 12 + s then _ else (if 12 + j = 12 + r then _ else M.2 13 (12 + j))) = 0
    rw [if_neg (by omega), if_neg (by omega)]
    exact h.2.2 j h1' h2

set_option maxHeartbeats 4000000 in
set_option maxRecDepth 100000 in
theorem l_mbeg (g : GC) (a : Nat) (h : Nat → Nat) (M : NS) (X : XC) (E : Ob g X cX7_begins 2 RX7) (hX : X.2.2.1 = zR 0 0 0) (K : ∀ (f : Nat → Nat), (∀ k, 12 ≤ k → k < 24 → f k = 0) → (∀ k, k < 12 → f k = M.2 13 k) → Z g X 2 0 0 (wMod g a h (sA (sA (sF M 10 0) 9 (va_up (va_up (va_up (va_up (va_up (va_up (M.2 9) 6 2) 7 0) 8 0) 9 1) 10 2) 11 1)) 13 f)) [(0, .ref a)] [] 75) : ∀ (n : Nat) (i : Nat) (f : Nat → Nat), (12 ≤ i ∧ i ≤ 24) → (∀ k, 12 ≤ k → k < i → f k = 0) → (∀ k, k < 12 → f k = M.2 13 k) → (24 < i + n) → Z g X 2 0 0 (wMod g a h (sA (sA (sF M 10 0) 9 (va_up (va_up (va_up (va_up (va_up (va_up (M.2 9) 6 2) 7 0) 8 0) 9 1) 10 2) 11 1)) 13 f)) [(0, .ref a), (1, .int (nI i))] [] 56 := by
  intro n
  induction n with
  | zero =>
    intro i f hi hz hA hf
    have hi1 := hi.1
    have hi2 := hi.2
    exfalso; omega
  | succ n ih =>
    intro i f hi hz hA hf
    have hi1 := hi.1
    have hi2 := hi.2
    refine z_iload_n E dX7_begins_56 1 rfl rfl ?_
    refine z_bipush (v := (nI 24)) E dX7_begins_57 (by decide) ?_
    refine z_icmpN_ge E dX7_begins_59 75 (by decide) (by omega) (by decide) (fun c1 => ?_) (fun c1 => ?_)
    · refine z_lv [0] rfl ?_; exact K f (fun k h1 hk => hz k h1 (by omega)) hA
    · refine z_aload_n E dX7_begins_62 0 rfl rfl ?_
      refine gt_X7_22 (v := .ref (h 13)) E dX7_begins_63 0 rfl rfl ?_
      refine z_iload_n E dX7_begins_66 1 rfl rfl ?_
      refine z_iconst (v := (nI 0)) E dX7_begins_67 (by decide) ?_
      refine z_iastN (f := f) (i := i) (x := 0) (ws' := wMod g a h (sA (sA (sF M 10 0) 9 (va_up (va_up (va_up (va_up (va_up (va_up (M.2 9) 6 2) 7 0) 8 0) 9 1) 10 2) 11 1)) 13 (va_up f i 0))) E dX7_begins_68 5 rfl (by omega) (by decide) rfl ?_
      refine z_iincN (lv' := [(0, .ref a), (1, .int (nI (i + 1)))]) E dX7_begins_69 1 rfl (by decide) rfl ?_
      refine z_goto E dX7_begins_72 56 (by decide) ?_
      exact ih (i + 1) (va_up f i 0) (⟨by omega, by omega⟩) (fun k h1 hk => by unfold va_up; split; rfl; exact hz k h1 (by omega)) (fun k hk => by unfold va_up; rw [if_neg (by omega)]; exact hA k hk) (by omega)

theorem md_beg {M M2 : NS} {f : Nat → Nat} (e9 : M2.2 9 = va_up (va_up (va_up (va_up (va_up (va_up (M.2 9) 6 2) 7 0) 8 0) 9 1) 10 2) 11 1) (e13 : M2.2 13 = f) (hz : ∀ k, 12 ≤ k → k < 24 → f k = 0) (D : NS) : mdT (fstT D) M2 := by
  refine ⟨fun j hj => ?_, fun r hr => absurd hr (Nat.not_lt_zero r), fun r _ h2 => by rw [e13]; exact hz _ (by omega) (by omega)⟩
  rw [e9]
  rcases (show j = 0 ∨ j = 1 ∨ j = 2 ∨ j = 3 ∨ j = 4 ∨ j = 5 by omega) with rfl | rfl | rfl | rfl | rfl | rfl <;> rfl
theorem up6 {f : Nat → Nat} {k : Nat} (hk : k < 6) : (va_up (va_up (va_up (va_up (va_up (va_up f 6 2) 7 0) 8 0) 9 1) 10 2) 11 1) k = f k := by
  unfold va_up
  rw [if_neg (by omega), if_neg (by omega), if_neg (by omega), if_neg (by omega), if_neg (by omega), if_neg (by omega)]

set_option maxHeartbeats 4000000 in
set_option maxRecDepth 100000 in
theorem c_X7_begins (g : GC) (a : Nat) (h : Nat → Nat) (M : NS) : Ct g yX7_begins cX7_begins 2 none 0 0 0 [.ref a] (wMod g a h M) (QV (fun w_ => ∃ M2 : NS, w_ = wMod g a h M2 ∧ (dQ M M2 ∧ M2.1 10 = 0 ∧ M2.1 8 = M.1 8 ∧ M2.1 4 = M.1 4 ∧ M2.1 7 = M.1 7 ∧ ∀ D, mdT (fstT D) M2))) := by
  refine Ct.of (by decide) (Nat.le_of_ble_eq_true rfl) ?_
  intro X E Er hX _ hnm
  have E : Ob g X cX7_begins 2 RX7 := E
  refine z_lve (lv' := [(0, .ref a)]) rfl ?_
  refine z_aload_n E dX7_begins_0 0 rfl rfl ?_
  refine z_iconst (v := (nI 0)) E dX7_begins_1 (by decide) ?_
  refine pt_X7_114 (x := nI 0) (ws' := wMod g a h (sF M 10 0)) E dX7_begins_2 0 rfl (Nat.le_of_ble_eq_true rfl) rfl ?_
  refine z_aload_n E dX7_begins_5 0 rfl rfl ?_
  refine gt_X7_13 (v := .ref (h 9)) E dX7_begins_6 0 rfl rfl ?_
  refine z_bipush (v := (nI 6)) E dX7_begins_9 (by decide) ?_
  refine z_iconst (v := (nI 2)) E dX7_begins_11 (by decide) ?_
  refine z_iastN (f := (M.2 9)) (i := 6) (x := 2) (ws' := wMod g a h (sA (sF M 10 0) 9 (va_up (M.2 9) 6 2))) E dX7_begins_12 2 rfl (by decide) (by decide) rfl ?_
  refine z_aload_n E dX7_begins_13 0 rfl rfl ?_
  refine gt_X7_13 (v := .ref (h 9)) E dX7_begins_14 0 rfl rfl ?_
  refine z_bipush (v := (nI 7)) E dX7_begins_17 (by decide) ?_
  refine z_iconst (v := (nI 0)) E dX7_begins_19 (by decide) ?_
  refine z_iastN (f := (va_up (M.2 9) 6 2)) (i := 7) (x := 0) (ws' := wMod g a h (sA (sF M 10 0) 9 (va_up (va_up (M.2 9) 6 2) 7 0))) E dX7_begins_20 2 rfl (by decide) (by decide) rfl ?_
  refine z_aload_n E dX7_begins_21 0 rfl rfl ?_
  refine gt_X7_13 (v := .ref (h 9)) E dX7_begins_22 0 rfl rfl ?_
  refine z_bipush (v := (nI 8)) E dX7_begins_25 (by decide) ?_
  refine z_iconst (v := (nI 0)) E dX7_begins_27 (by decide) ?_
  refine z_iastN (f := (va_up (va_up (M.2 9) 6 2) 7 0)) (i := 8) (x := 0) (ws' := wMod g a h (sA (sF M 10 0) 9 (va_up (va_up (va_up (M.2 9) 6 2) 7 0) 8 0))) E dX7_begins_28 2 rfl (by decide) (by decide) rfl ?_
  refine z_aload_n E dX7_begins_29 0 rfl rfl ?_
  refine gt_X7_13 (v := .ref (h 9)) E dX7_begins_30 0 rfl rfl ?_
  refine z_bipush (v := (nI 9)) E dX7_begins_33 (by decide) ?_
  refine z_iconst (v := (nI 1)) E dX7_begins_35 (by decide) ?_
  refine z_iastN (f := (va_up (va_up (va_up (M.2 9) 6 2) 7 0) 8 0)) (i := 9) (x := 1) (ws' := wMod g a h (sA (sF M 10 0) 9 (va_up (va_up (va_up (va_up (M.2 9) 6 2) 7 0) 8 0) 9 1))) E dX7_begins_36 2 rfl (by decide) (by decide) rfl ?_
  refine z_aload_n E dX7_begins_37 0 rfl rfl ?_
  refine gt_X7_13 (v := .ref (h 9)) E dX7_begins_38 0 rfl rfl ?_
  refine z_bipush (v := (nI 10)) E dX7_begins_41 (by decide) ?_
  refine z_iconst (v := (nI 2)) E dX7_begins_43 (by decide) ?_
  refine z_iastN (f := (va_up (va_up (va_up (va_up (M.2 9) 6 2) 7 0) 8 0) 9 1)) (i := 10) (x := 2) (ws' := wMod g a h (sA (sF M 10 0) 9 (va_up (va_up (va_up (va_up (va_up (M.2 9) 6 2) 7 0) 8 0) 9 1) 10 2))) E dX7_begins_44 2 rfl (by decide) (by decide) rfl ?_
  refine z_aload_n E dX7_begins_45 0 rfl rfl ?_
  refine gt_X7_13 (v := .ref (h 9)) E dX7_begins_46 0 rfl rfl ?_
  refine z_bipush (v := (nI 11)) E dX7_begins_49 (by decide) ?_
  refine z_iconst (v := (nI 1)) E dX7_begins_51 (by decide) ?_
  refine z_iastN (f := (va_up (va_up (va_up (va_up (va_up (M.2 9) 6 2) 7 0) 8 0) 9 1) 10 2)) (i := 11) (x := 1) (ws' := wMod g a h (sA (sF M 10 0) 9 (va_up (va_up (va_up (va_up (va_up (va_up (M.2 9) 6 2) 7 0) 8 0) 9 1) 10 2) 11 1))) E dX7_begins_52 2 rfl (by decide) (by decide) rfl ?_
  refine z_bipush (v := (nI 12)) E dX7_begins_53 (by decide) ?_
  refine z_istore_n (lv' := [(0, .ref a), (1, .int (nI 12))]) E dX7_begins_55 1 rfl (by decide) rfl ?_
  refine l_mbeg g a h M X E hX (fun f hz hA => ?_) 25 12 (M.2 13) (⟨by decide, by decide⟩) (fun k h1 hk => absurd hk (by omega)) (fun k hk => rfl) (by omega)
  refine z_vret E Er dX7_begins_75 ?_
  exact ⟨rfl, _, rfl, (((dQ.rf M).F (by omega)).A9 (fun k hk => up6 hk)).A13 hA, rfl, rfl, rfl, rfl, md_beg rfl rfl hz⟩
