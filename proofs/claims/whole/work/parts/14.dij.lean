/-! the nearest arrival first: what the class does -/
def lst (L : Nat → Nat) (b : Nat) : Nat := if b = 0 then 1000000 else L (b - 1)
/-- the nearest unsettled arrival, 0 if there is none, else one more than it -/
def nuF (L S : Nat → Nat) : Nat → Nat
  | 0 => 0
  | i + 1 => if S i = 0 ∧ L i < lst L (nuF L S i) then i + 1 else nuF L S i
theorem nuF_s (L S : Nat → Nat) (i : Nat) : nuF L S (i + 1) = if S i = 0 ∧ L i < lst L (nuF L S i) then i + 1 else nuF L S i := rfl
theorem nuF_le (L S : Nat → Nat) : ∀ i, nuF L S i ≤ i
  | 0 => Nat.le_refl _
  | i + 1 => by have := nuF_le L S i; rw [nuF_s]; split <;> omega
theorem nuF_0 {L S : Nat → Nat} : ∀ i, nuF L S i = 0 → ∀ a, a < i → S a = 0 → 1000000 ≤ L a
  | 0, _, a, h, _ => absurd h (Nat.not_lt_zero a)
  | i + 1, h, a, ha, hs => by
    rw [nuF_s] at h
    split at h
    · cases h
    · rename_i hn
      rw [h] at hn
      rcases Nat.lt_or_ge a i with q | q
      · exact nuF_0 i h a q hs
      · rw [show a = i by omega] at hs ⊢
        unfold lst at hn
        rw [if_pos rfl] at hn
        rcases Nat.lt_or_ge (L i) 1000000 with z | z
        · exact absurd ⟨hs, z⟩ hn
        · exact z
theorem nuF_n {L S : Nat → Nat} : ∀ i, nuF L S i ≠ 0 → S (nuF L S i - 1) = 0 ∧ L (nuF L S i - 1) < 1000000 ∧ ∀ a, a < i → S a = 0 → L (nuF L S i - 1) ≤ L a
  | 0, h => absurd rfl h
  | i + 1, h => by
    by_cases hc : S i = 0 ∧ L i < lst L (nuF L S i)
    · have e : nuF L S (i + 1) = i + 1 := by rw [nuF_s, if_pos hc]
      rw [e]
      simp only [Nat.add_sub_cancel]
      by_cases h0 : nuF L S i = 0
      · unfold lst at hc
        rw [if_pos h0] at hc
        refine ⟨hc.1, hc.2, fun a ha hs => ?_⟩
        rcases Nat.lt_or_ge a i with q | q
        · have := nuF_0 i h0 a q hs; omega
        · rw [show a = i by omega]; exact Nat.le_refl _
      · unfold lst at hc
        rw [if_neg h0] at hc
        obtain ⟨h1, h2, h3⟩ := nuF_n i h0
        refine ⟨hc.1, by omega, fun a ha hs => ?_⟩
        rcases Nat.lt_or_ge a i with q | q
        · have := h3 a q hs; omega
        · rw [show a = i by omega]; exact Nat.le_refl _
    · have e : nuF L S (i + 1) = nuF L S i := by rw [nuF_s, if_neg hc]
      rw [e] at h ⊢
      obtain ⟨h1, h2, h3⟩ := nuF_n i h
      refine ⟨h1, h2, fun a ha hs => ?_⟩
      rcases Nat.lt_or_ge a i with q | q
      · exact h3 a q hs
      · rw [show a = i by omega] at hs ⊢
        unfold lst at hc
        rw [if_neg h] at hc
        rcases Nat.lt_or_ge (L i) (L (nuF L S i - 1)) with z | z
        · exact absurd ⟨hs, z⟩ hc
        · exact z
/-- what an arrival x says of those ahead of it, up to the arrival i -/
def rlx (T : NS) (c L : Nat → Nat) (x i : Nat) : Nat → Nat := fun a => if a < i ∧ plT T a = plT T (x ^^^ 1) then min (L a) (L x + c (x / 2) + nvT T (a / 2 + 1) (x / 2)) else L a
theorem rlx_0 (T : NS) (c L : Nat → Nat) (x : Nat) : rlx T c L x 0 = L := by
  funext a
  unfold rlx
  rw [if_neg (fun q => Nat.not_lt_zero a q.1)]
theorem rlx_y {T : NS} {c L : Nat → Nat} {x i : Nat} (h : plT T i = plT T (x ^^^ 1)) : va_up (rlx T c L x i) i (min (rlx T c L x i i) (L x + c (x / 2) + nvT T (i / 2 + 1) (x / 2))) = rlx T c L x (i + 1) := by
  funext a
  unfold va_up rlx
  by_cases e : a = i
  · subst e
    rw [if_pos rfl, if_neg (fun q => Nat.lt_irrefl a q.1), if_pos ⟨Nat.lt_succ_self a, h⟩]
  · rw [if_neg e]
    by_cases q : a < i ∧ plT T a = plT T (x ^^^ 1)
    · rw [if_pos q, if_pos ⟨by omega, q.2⟩]
    · rw [if_neg q, if_neg (fun z => q ⟨by omega, z.2⟩)]
theorem rlx_n {T : NS} {c L : Nat → Nat} {x i : Nat} (h : plT T i ≠ plT T (x ^^^ 1)) : rlx T c L x i = rlx T c L x (i + 1) := by
  funext a
  unfold rlx
  by_cases q : a < i ∧ plT T a = plT T (x ^^^ 1)
  · rw [if_pos q, if_pos ⟨by omega, q.2⟩]
  · rw [if_neg q, if_neg (fun z => q ⟨by
      rcases Nat.lt_or_ge a i with w | w
      · exact w
      · exact absurd (by rw [show i = a by omega]; exact z.2) h, z.2⟩)]
def rlxT (T : NS) (c : Nat → Nat) (o : Nat) (L : Nat → Nat) (x : Nat) : Nat → Nat := if o.testBit (x / 2) = true ∧ plT T (x ^^^ 1) ≠ T.1 3 then rlx T c L x (2 * T.1 1) else L
theorem xor1 : ∀ x, x < 24 → (x ^^^ 1) / 2 = x / 2 ∧ (x ^^^ 1) % 2 = 1 - x % 2 := by decide
theorem xor1_lt : ∀ x, x < 24 → (x ^^^ 1) < 24 := by decide
/-- the arrival x is where the road x / 2 leads from its other end -/
theorem ar_pl {T : NS} {x : Nat} (hx : x < 24) (hw : T.2 6 (x / 2) ≠ T.2 7 (x / 2)) : arT T (x / 2) (plT T (x ^^^ 1)) = x ∧ meetsT T (x / 2) (plT T (x ^^^ 1)) = true := by
  obtain ⟨h1, h2⟩ := xor1 x hx
  by_cases h : x % 2 = 0
  · have hp : plT T (x ^^^ 1) = T.2 7 (x / 2) := by unfold plT; rw [h1, h2, if_neg (by omega)]
    rw [hp]
    unfold arT meetsT
    rw [if_neg hw]
    exact ⟨by omega, by simp⟩
  · have hp : plT T (x ^^^ 1) = T.2 6 (x / 2) := by unfold plT; rw [h1, h2, if_pos (by omega)]
    rw [hp]
    unfold arT meetsT
    rw [if_pos rfl]
    exact ⟨by omega, by simp⟩
/-- the invariant of the class's search -/
def DI1 (T : NS) (c : Nat → Nat) (o : Nat) (L S : Nat → Nat) : Prop :=
  (∀ a, a < 2 * T.1 1 → L a ≤ 1000000 ∧ (plT T a = T.1 3 → L a = 0)) ∧
  (∀ a, a < 2 * T.1 1 → farT T c o L (a / 2 + 1) (plT T a) ≤ L a) ∧
  (∀ a b, a < 2 * T.1 1 → b < 2 * T.1 1 → S a ≠ 0 → S b = 0 → L a ≤ L b) ∧
  (∀ x a, x < 2 * T.1 1 → a < 2 * T.1 1 → S x ≠ 0 → o.testBit (x / 2) = true → plT T (x ^^^ 1) ≠ T.1 3 → plT T a = plT T (x ^^^ 1) → L a ≤ L x + c (x / 2) + nvT T (a / 2 + 1) (x / 2))
theorem DI1_init {T : NS} {c : Nat → Nat} {o : Nat} {L S : Nat → Nat} (hL : ∀ a, a < 2 * T.1 1 → L a = if plT T a = T.1 3 then 0 else 1000000) (hS : ∀ a, a < 2 * T.1 1 → S a = 0) : DI1 T c o L S := by
  refine ⟨fun a ha => ?_, fun a ha => ?_, fun a b ha _ h _ => absurd (hS a ha) h, fun x a hx _ h => absurd (hS x hx) h⟩
  · rw [hL a ha]
    by_cases h : plT T a = T.1 3
    · rw [if_pos h]; exact ⟨by omega, fun _ => rfl⟩
    · rw [if_neg h]; exact ⟨by omega, fun q => absurd q h⟩
  · rw [hL a ha]
    by_cases h : plT T a = T.1 3
    · rw [if_pos h]; unfold farT; rw [if_pos h]; omega
    · rw [if_neg h]; exact farT_le T c o L _ _
theorem DI1_end {T : NS} {c : Nat → Nat} {o : Nat} {L S : Nat → Nat} (hw : wfT T) (h : DI1 T c o L S) (he : ∀ a, a < 2 * T.1 1 → S a = 0 → 1000000 ≤ L a) : Fix T c o L := by
  intro a ha
  apply Nat.le_antisymm _ (h.2.1 a ha)
  by_cases hg : plT T a = T.1 3
  · rw [(h.1 a ha).2 hg]; omega
  · unfold farT
    rw [if_neg hg]
    rcases farL_att T c o L (a / 2 + 1) (plT T a) (T.1 1) with q | ⟨j, hj, hok, hon⟩
    · rw [q]; exact (h.1 a ha).1
    · rw [hon]
      unfold okR at hok
      simp only [Bool.and_eq_true] at hok
      have hx : arT T j (plT T a) < 2 * T.1 1 := arT_lt hj
      unfold onT
      by_cases hs : S (arT T j (plT T a)) = 0
      · have h1 := he _ hx hs
        have h2 := (h.1 a ha).1
        omega
      · have hd := arT_div T j (plT T a)
        have hpl : plT T (arT T j (plT T a) ^^^ 1) = plT T a := by
          have hne := hw.2 j hj
          have h24 : arT T j (plT T a) < 24 := by have := hw.1; omega
          obtain ⟨q1, q2⟩ := xor1 _ h24
          have hm := hok.2
          unfold meetsT at hm
          simp only [Bool.or_eq_true, decide_eq_true_eq] at hm
          have hmod : arT T j (plT T a) % 2 = if T.2 6 j = plT T a then 1 else 0 := by
            unfold arT; split <;> omega
          have hp : ∀ y, y / 2 = j → plT T y = if y % 2 = 0 then T.2 6 j else T.2 7 j := fun y hy => by unfold plT; rw [hy]
          rw [hp _ (q1.trans hd), q2, hmod]
          by_cases hf : T.2 6 j = plT T a
          · rw [if_pos hf, if_pos (by omega)]; exact hf
          · rw [if_neg hf, if_neg (by omega)]; exact hm.resolve_left hf
        have h4 := h.2.2.2 _ a hx ha hs (by rw [hd]; exact hok.1) (by rw [hpl]; exact hg) hpl.symm
        rw [hd] at h4
        omega
theorem rlxT_le {T : NS} {c : Nat → Nat} {o : Nat} {L : Nat → Nat} {x a : Nat} : rlxT T c o L x a ≤ L a := by
  unfold rlxT
  split
  · unfold rlx; split
    · exact Nat.min_le_left _ _
    · exact Nat.le_refl _
  · exact Nat.le_refl _
theorem rlxT_cases {T : NS} {c : Nat → Nat} {o : Nat} {L : Nat → Nat} {x a : Nat} : rlxT T c o L x a = L a ∨ (rlxT T c o L x a = L x + c (x / 2) + nvT T (a / 2 + 1) (x / 2) ∧ o.testBit (x / 2) = true ∧ plT T (x ^^^ 1) ≠ T.1 3 ∧ plT T a = plT T (x ^^^ 1)) := by
  unfold rlxT
  split
  · rename_i h
    unfold rlx; split
    · rename_i h2
      rcases Nat.le_total (L a) (L x + c (x / 2) + nvT T (a / 2 + 1) (x / 2)) with q | q
      · exact Or.inl (Nat.min_eq_left q)
      · exact Or.inr ⟨Nat.min_eq_right q, h.1, h.2, h2.2⟩
    · exact Or.inl rfl
  · exact Or.inl rfl
theorem DI1_step {T : NS} {c : Nat → Nat} {o : Nat} {L S : Nat → Nat} {x : Nat} (hw : wfT T) (hx : x < 2 * T.1 1) (h : DI1 T c o L S) (hS : S x = 0) (hm : ∀ a, a < 2 * T.1 1 → S a = 0 → L x ≤ L a) : DI1 T c o (rlxT T c o L x) (va_up S x 1) := by
  have hS' : ∀ a, va_up S x 1 a = 0 → S a = 0 ∧ a ≠ x := by
    intro a ha
    unfold va_up at ha
    by_cases e : a = x
    · rw [if_pos e] at ha; cases ha
    · rw [if_neg e] at ha; exact ⟨ha, e⟩
  have hlow : ∀ a, a < 2 * T.1 1 → va_up S x 1 a ≠ 0 → L a ≤ L x := by
    intro a ha hn
    unfold va_up at hn
    by_cases e : a = x
    · rw [e]; exact Nat.le_refl _
    · rw [if_neg e] at hn
      exact h.2.2.1 a x ha hx hn hS
  have hkeep : ∀ a, L a ≤ L x → rlxT T c o L x a = L a := by
    intro a hl
    rcases rlxT_cases (T := T) (c := c) (o := o) (L := L) (x := x) (a := a) with q | ⟨q, -⟩
    · exact q
    · have := rlxT_le (T := T) (c := c) (o := o) (L := L) (x := x) (a := a)
      omega
  have hx24 : x < 24 := by have := hw.1; omega
  have hxr : x / 2 < T.1 1 := by omega
  obtain ⟨e1, e2⟩ := ar_pl (T := T) hx24 (hw.2 _ hxr)
  refine ⟨fun a ha => ⟨Nat.le_trans rlxT_le (h.1 a ha).1, fun hg => ?_⟩, fun a ha => ?_, fun a b ha hb hsa hsb => ?_, fun y a hy ha hsy ho hg hp => ?_⟩
  · have := rlxT_le (T := T) (c := c) (o := o) (L := L) (x := x) (a := a)
    have := (h.1 a ha).2 hg
    omega
  · have hmono := farT_mono (T := T) (c := c) (o := o) (b := a / 2 + 1) (p := plT T a) (L := rlxT T c o L x) (L' := L) (fun k _ => rlxT_le)
    rcases rlxT_cases (T := T) (c := c) (o := o) (L := L) (x := x) (a := a) with q | ⟨q, ho, hg, hp⟩
    · rw [q]
      exact Nat.le_trans hmono (h.2.1 a ha)
    · rw [q]
      unfold farT
      rw [if_neg (by rw [hp]; exact hg)]
      have h1 := farL_on (T := T) (c := c) (o := o) (L := rlxT T c o L x) (b := a / 2 + 1) (p := plT T a) hxr (by unfold okR; rw [hp, e2, ho]; rfl)
      unfold onT at h1
      rw [hp, e1, hkeep x (Nat.le_refl _)] at h1
      rw [hp]
      omega
  · obtain ⟨hb1, hb2⟩ := hS' b hsb
    have h1 := hlow a ha hsa
    rw [hkeep a h1]
    have h2 := hm b hb hb1
    rcases rlxT_cases (T := T) (c := c) (o := o) (L := L) (x := x) (a := b) with q | ⟨q, -⟩ <;> omega
  · have h1 := hlow y hy hsy
    rw [hkeep y h1]
    by_cases e : y = x
    · subst e
      have h2 : rlxT T c o L y a ≤ L y + c (y / 2) + nvT T (a / 2 + 1) (y / 2) := by
        unfold rlxT
        rw [if_pos ⟨ho, hg⟩]
        unfold rlx
        rw [if_pos ⟨ha, hp⟩]
        exact Nat.min_le_right _ _
      exact h2
    · have hsy' : S y ≠ 0 := by unfold va_up at hsy; rw [if_neg e] at hsy; exact hsy
      exact Nat.le_trans rlxT_le (h.2.2.2 y a hy ha hsy' ho hg hp)
theorem cnt_up {S : Nat → Nat} {x n : Nat} (hx : x < n) (hS : S x = 0) : cnt (fun a => decide (S a ≠ 0)) n < cnt (fun a => decide (va_up S x 1 a ≠ 0)) n := by
  refine cnt_lt (j := x) (fun k _ hk => ?_) hx (by simp [va_up]) (by simp [hS])
  have := of_decide_eq_true hk
  apply decide_eq_true
  unfold va_up
  split
  · decide
  · exact this
