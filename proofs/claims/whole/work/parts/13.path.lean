/-! THE WAY, as numbers: what is left from an arrival to the goal -/
def plT (T : NS) (k : Nat) : Nat := if k % 2 = 0 then T.2 6 (k / 2) else T.2 7 (k / 2)
def arT (T : NS) (r p : Nat) : Nat := 2 * r + (if T.2 6 r = p then 1 else 0)
def onT (T : NS) (c L : Nat → Nat) (b p r : Nat) : Nat := c r + nvT T b r + L (arT T r p)
def okR (T : NS) (o p r : Nat) : Bool := o.testBit r && meetsT T r p
def farL (T : NS) (c : Nat → Nat) (o : Nat) (L : Nat → Nat) (b p : Nat) : Nat → Nat
  | 0 => 1000000
  | i + 1 => if okR T o p i = true then min (farL T c o L b p i) (onT T c L b p i) else farL T c o L b p i
def farT (T : NS) (c : Nat → Nat) (o : Nat) (L : Nat → Nat) (b p : Nat) : Nat := if p = T.1 3 then 0 else farL T c o L b p (T.1 1)
def frT (T : NS) (c : Nat → Nat) (o : Nat) (L : Nat → Nat) (b p : Nat) : Nat → Nat
  | 0 => 0
  | i + 1 => if okR T o p i = true ∧ onT T c L b p i < farL T c o L b p i then i + 1 else frT T c o L b p i
theorem farL_s (T : NS) (c : Nat → Nat) (o : Nat) (L : Nat → Nat) (b p i : Nat) : farL T c o L b p (i + 1) = if okR T o p i = true then min (farL T c o L b p i) (onT T c L b p i) else farL T c o L b p i := rfl
theorem frT_s (T : NS) (c : Nat → Nat) (o : Nat) (L : Nat → Nat) (b p i : Nat) : frT T c o L b p (i + 1) = if okR T o p i = true ∧ onT T c L b p i < farL T c o L b p i then i + 1 else frT T c o L b p i := rfl
def Fix (T : NS) (c : Nat → Nat) (o : Nat) (L : Nat → Nat) : Prop := ∀ k, k < 2 * T.1 1 → L k = farT T c o L (k / 2 + 1) (plT T k)
/-- a town's roads lead from one place to another -/
def wfT (T : NS) : Prop := T.1 1 ≤ 12 ∧ ∀ r, r < T.1 1 → T.2 6 r ≠ T.2 7 r
theorem arT_lt {T : NS} {r p R : Nat} (h : r < R) : arT T r p < 2 * R := by
  unfold arT; split <;> omega
theorem arT_div (T : NS) (r p : Nat) : arT T r p / 2 = r := by
  unfold arT; split <;> omega
theorem farL_le (T : NS) (c : Nat → Nat) (o : Nat) (L : Nat → Nat) (b p : Nat) : ∀ i, farL T c o L b p i ≤ 1000000
  | 0 => Nat.le_refl _
  | i + 1 => by
    have := farL_le T c o L b p i
    unfold farL
    split <;> omega
theorem farT_le (T : NS) (c : Nat → Nat) (o : Nat) (L : Nat → Nat) (b p : Nat) : farT T c o L b p ≤ 1000000 := by
  unfold farT
  split
  · omega
  · exact farL_le T c o L b p _
theorem farL_on {T : NS} {c : Nat → Nat} {o : Nat} {L : Nat → Nat} {b p : Nat} : ∀ {i j : Nat}, j < i → okR T o p j = true → farL T c o L b p i ≤ onT T c L b p j
  | 0, j, h, _ => absurd h (Nat.not_lt_zero j)
  | i + 1, j, h, hk => by
    unfold farL
    rcases Nat.lt_or_ge j i with q | q
    · have := farL_on (c := c) (L := L) (b := b) q hk
      split <;> omega
    · have e : j = i := by omega
      subst e
      rw [if_pos hk]
      omega
theorem farL_att (T : NS) (c : Nat → Nat) (o : Nat) (L : Nat → Nat) (b p : Nat) : ∀ i, farL T c o L b p i = 1000000 ∨ ∃ j, j < i ∧ okR T o p j = true ∧ farL T c o L b p i = onT T c L b p j
  | 0 => Or.inl rfl
  | i + 1 => by
    unfold farL
    by_cases hk : okR T o p i = true
    · rw [if_pos hk]
      rcases Nat.le_total (farL T c o L b p i) (onT T c L b p i) with q | q
      · rw [Nat.min_eq_left q]
        rcases farL_att T c o L b p i with e | ⟨j, h1, h2, h3⟩
        · exact Or.inl e
        · exact Or.inr ⟨j, by omega, h2, h3⟩
      · rw [Nat.min_eq_right q]
        exact Or.inr ⟨i, by omega, hk, rfl⟩
    · rw [if_neg hk]
      rcases farL_att T c o L b p i with e | ⟨j, h1, h2, h3⟩
      · exact Or.inl e
      · exact Or.inr ⟨j, by omega, h2, h3⟩
theorem onT_mono {T : NS} {c L L' : Nat → Nat} {b p r R : Nat} (h : ∀ k, k < 2 * R → L k ≤ L' k) (hr : r < R) : onT T c L b p r ≤ onT T c L' b p r := by
  unfold onT
  have := h _ (arT_lt (T := T) (p := p) hr)
  omega
theorem farL_mono {T : NS} {c : Nat → Nat} {o : Nat} {L L' : Nat → Nat} {b p R : Nat} (h : ∀ k, k < 2 * R → L k ≤ L' k) : ∀ i, i ≤ R → farL T c o L b p i ≤ farL T c o L' b p i
  | 0, _ => Nat.le_refl _
  | i + 1, hi => by
    have h1 := farL_mono (T := T) (c := c) (o := o) (b := b) (p := p) h i (by omega)
    have h2 := onT_mono (T := T) (c := c) (b := b) (p := p) (r := i) h (by omega)
    unfold farL
    split <;> omega
theorem farT_mono {T : NS} {c : Nat → Nat} {o : Nat} {L L' : Nat → Nat} {b p : Nat} (h : ∀ k, k < 2 * T.1 1 → L k ≤ L' k) : farT T c o L b p ≤ farT T c o L' b p := by
  unfold farT
  split
  · omega
  · exact farL_mono h _ (Nat.le_refl _)
theorem onT_cg {T : NS} {c c' L L' : Nat → Nat} {b p r R : Nat} (hc : ∀ r, r < R → c r = c' r) (h : ∀ k, k < 2 * R → L k = L' k) (hr : r < R) : onT T c L b p r = onT T c' L' b p r := by
  unfold onT
  rw [h _ (arT_lt hr), hc r hr]
theorem farL_cg {T : NS} {c c' : Nat → Nat} {o : Nat} {L L' : Nat → Nat} {b p R : Nat} (hc : ∀ r, r < R → c r = c' r) (h : ∀ k, k < 2 * R → L k = L' k) : ∀ i, i ≤ R → farL T c o L b p i = farL T c' o L' b p i
  | 0, _ => rfl
  | i + 1, hi => by
    unfold farL
    rw [farL_cg hc h i (by omega), onT_cg hc h (show i < R by omega)]
theorem farT_cg {T : NS} {c c' : Nat → Nat} {o : Nat} {L L' : Nat → Nat} {b p : Nat} (hc : ∀ r, r < T.1 1 → c r = c' r) (h : ∀ k, k < 2 * T.1 1 → L k = L' k) : farT T c o L b p = farT T c' o L' b p := by
  unfold farT
  rw [farL_cg hc h _ (Nat.le_refl _)]
theorem frT_cg {T : NS} {c c' : Nat → Nat} {o : Nat} {L L' : Nat → Nat} {b p R : Nat} (hc : ∀ r, r < R → c r = c' r) (h : ∀ k, k < 2 * R → L k = L' k) : ∀ i, i ≤ R → frT T c o L b p i = frT T c' o L' b p i
  | 0, _ => rfl
  | i + 1, hi => by
    rw [frT_s, frT_s]
    rw [frT_cg hc h i (by omega), onT_cg hc h (show i < R by omega), farL_cg hc h i (by omega)]
theorem fix_le {T : NS} {c : Nat → Nat} {o : Nat} {L L' : Nat → Nat} (hc : ∀ r, r < T.1 1 → 1 ≤ c r) (h : Fix T c o L) (h' : Fix T c o L') : ∀ (m k : Nat), k < 2 * T.1 1 → L k = m → L' k ≤ L k := by
  intro m
  induction m using Nat.strongRecOn with
  | _ m ih =>
    intro k hk hm
    have e1 := h k hk
    have e2 := h' k hk
    by_cases hg : plT T k = T.1 3
    · unfold farT at e1 e2
      rw [if_pos hg] at e1 e2
      omega
    · unfold farT at e1 e2
      rw [if_neg hg] at e1 e2
      rcases farL_att T c o L (k / 2 + 1) (plT T k) (T.1 1) with q | ⟨j, hj, hok, hon⟩
      · have := farL_le T c o L' (k / 2 + 1) (plT T k) (T.1 1)
        omega
      · have h1 := hc j hj
        have h2 : L (arT T j (plT T k)) < m := by
          unfold onT at hon
          omega
        have h3 := ih _ h2 _ (arT_lt hj) rfl
        have h4 := farL_on (c := c) (L := L') (b := k / 2 + 1) hj hok
        unfold onT at hon h4
        omega
theorem fix_one {T : NS} {c : Nat → Nat} {o : Nat} {L L' : Nat → Nat} (hc : ∀ r, r < T.1 1 → 1 ≤ c r) (h : Fix T c o L) (h' : Fix T c o L') : ∀ k, k < 2 * T.1 1 → L k = L' k := fun k hk =>
  Nat.le_antisymm (fix_le hc h' h _ k hk rfl) (fix_le hc h h' _ k hk rfl)
/-- which arrival a road leads to -/
theorem pl_arT {T : NS} {r p : Nat} (hm : meetsT T r p = true) : plT T (arT T r p) = otherT T r p := by
  unfold plT arT otherT
  unfold meetsT at hm
  by_cases h : T.2 6 r = p
  · rw [if_pos h, if_pos h, if_neg (by omega), show (2 * r + 1) / 2 = r by omega]
  · rw [if_neg h, if_neg h, if_pos (by omega), show (2 * r + 0) / 2 = r by omega]
/-- the first best road -/
theorem frT_0 {T : NS} {c : Nat → Nat} {o : Nat} {L : Nat → Nat} {b p : Nat} : ∀ i, frT T c o L b p i = 0 ↔ farL T c o L b p i = 1000000
  | 0 => ⟨fun _ => rfl, fun _ => rfl⟩
  | i + 1 => by
    have ih := frT_0 (T := T) (c := c) (o := o) (L := L) (b := b) (p := p) i
    have hle := farL_le T c o L b p i
    rw [frT_s, farL_s]
    by_cases hk : okR T o p i = true
    · by_cases hl : onT T c L b p i < farL T c o L b p i
      · rw [if_pos ⟨hk, hl⟩, if_pos hk]
        constructor
        · intro h; cases h
        · intro h; omega
      · rw [if_neg (fun q => hl q.2), if_pos hk, ih]
        omega
    · rw [if_neg (fun q => hk q.1), if_neg hk, ih]
theorem frT_on {T : NS} {c : Nat → Nat} {o : Nat} {L : Nat → Nat} {b p : Nat} : ∀ i, frT T c o L b p i ≠ 0 → frT T c o L b p i ≤ i ∧ okR T o p (frT T c o L b p i - 1) = true ∧ onT T c L b p (frT T c o L b p i - 1) = farL T c o L b p i
  | 0, h => absurd rfl h
  | i + 1, h => by
    rw [frT_s] at h ⊢
    rw [farL_s]
    by_cases hk : okR T o p i = true
    · by_cases hl : onT T c L b p i < farL T c o L b p i
      · rw [if_pos ⟨hk, hl⟩, if_pos hk]
        refine ⟨Nat.le_refl _, hk, ?_⟩
        show onT T c L b p i = _
        omega
      · rw [if_neg (fun q => hl q.2)] at h ⊢
        rw [if_pos hk]
        obtain ⟨h1, h2, h3⟩ := frT_on i h
        exact ⟨by omega, h2, by omega⟩
    · rw [if_neg (fun q => hk q.1)] at h ⊢
      rw [if_neg hk]
      obtain ⟨h1, h2, h3⟩ := frT_on i h
      exact ⟨by omega, h2, h3⟩
/-- no road below the first best one is as good -/
theorem frT_least {T : NS} {c : Nat → Nat} {o : Nat} {L : Nat → Nat} {b p : Nat} : ∀ i j, j < i → okR T o p j = true → onT T c L b p j = farL T c o L b p i → farL T c o L b p i < 1000000 → frT T c o L b p i ≤ j + 1
  | 0, j, h, _, _, _ => absurd h (Nat.not_lt_zero j)
  | i + 1, j, hj, hok, hon, hlt => by
    rw [frT_s]
    rw [farL_s] at hon hlt
    by_cases hk : okR T o p i = true
    · rw [if_pos hk] at hon hlt
      by_cases hl : onT T c L b p i < farL T c o L b p i
      · rw [if_pos ⟨hk, hl⟩]
        rcases Nat.lt_or_ge j i with q | q
        · have := farL_on (c := c) (L := L) (b := b) q hok
          omega
        · omega
      · rw [if_neg (fun q => hl q.2)]
        rcases Nat.lt_or_ge j i with q | q
        · exact frT_least i j q hok (by omega) (by omega)
        · have e : j = i := by omega
          subst e
          have h0 : frT T c o L b p j ≠ 0 := fun e0 => by
            have := (frT_0 (T := T) (c := c) (o := o) (L := L) (b := b) (p := p) j).mp e0
            omega
          have := (frT_on j h0).1
          omega
    · rw [if_neg hk] at hon hlt
      rw [if_neg (fun q => hk q.1)]
      rcases Nat.lt_or_ge j i with q | q
      · exact frT_least i j q hok hon hlt
      · have e : j = i := by omega
        subst e
        exact absurd hok hk
/-- counting -/
def cnt (p : Nat → Bool) : Nat → Nat
  | 0 => 0
  | n + 1 => cnt p n + (if p n = true then 1 else 0)
theorem cnt_le (p : Nat → Bool) : ∀ n, cnt p n ≤ n
  | 0 => Nat.le_refl _
  | n + 1 => by have := cnt_le p n; unfold cnt; split <;> omega
theorem cnt_sub {p q : Nat → Bool} : ∀ {n : Nat}, (∀ k, k < n → p k = true → q k = true) → cnt p n ≤ cnt q n
  | 0, _ => Nat.le_refl _
  | n + 1, h => by
    have h1 := cnt_sub (p := p) (q := q) (n := n) (fun k hk => h k (by omega))
    have h2 := h n (by omega)
    unfold cnt
    by_cases hp : p n = true
    · rw [if_pos hp, if_pos (h2 hp)]; omega
    · rw [if_neg hp]; omega
theorem cnt_lt {p q : Nat → Bool} {j : Nat} : ∀ {n : Nat}, (∀ k, k < n → p k = true → q k = true) → j < n → q j = true → ¬ p j = true → cnt p n < cnt q n
  | 0, _, hj, _, _ => absurd hj (Nat.not_lt_zero j)
  | n + 1, h, hj, hq, hp => by
    unfold cnt
    rcases Nat.lt_or_ge j n with z | z
    · have h1 := cnt_lt (p := p) (q := q) (n := n) (fun k hk => h k (by omega)) z hq hp
      have h2 := h n (by omega)
      by_cases hpn : p n = true
      · rw [if_pos hpn, if_pos (h2 hpn)]; omega
      · rw [if_neg hpn]; omega
    · have e : j = n := by omega
      subst e
      have h1 := cnt_sub (p := p) (q := q) (n := j) (fun k hk => h k (by omega))
      rw [if_neg hp, if_pos hq]; omega
theorem cnt_all {p : Nat → Bool} : ∀ {n : Nat}, cnt p n = n → ∀ k, k < n → p k = true
  | 0, _, k, hk => absurd hk (Nat.not_lt_zero k)
  | n + 1, h, k, hk => by
    unfold cnt at h
    have h1 := cnt_le p n
    by_cases hp : p n = true
    · rw [if_pos hp] at h
      rcases Nat.lt_or_ge k n with q | q
      · exact cnt_all (by omega) k q
      · rw [show k = n by omega]; exact hp
    · rw [if_neg hp] at h; omega
/-- how many arrivals are nearer -/
def rkT (T : NS) (L : Nat → Nat) (x : Nat) : Nat := cnt (fun j => decide (L j < x)) (2 * T.1 1)
theorem rk_lt {T : NS} {L : Nat → Nat} {j x : Nat} (hj : j < 2 * T.1 1) (h : L j < x) : rkT T L (L j) < rkT T L x := by
  refine cnt_lt (j := j) (fun k _ hk => ?_) hj (decide_eq_true h) (by simp)
  have := of_decide_eq_true hk
  exact decide_eq_true (by omega)
theorem rk_le (T : NS) (L : Nat → Nat) (x : Nat) : rkT T L x ≤ 2 * T.1 1 := cnt_le _ _
theorem fix_bound {T : NS} {c : Nat → Nat} {o : Nat} {L : Nat → Nat} {C : Nat} (hc : ∀ r, r < T.1 1 → 1 ≤ c r ∧ c r + T.1 4 ≤ C) (h : Fix T c o L) : ∀ (m k : Nat), k < 2 * T.1 1 → L k = m → m < 1000000 → m ≤ C * rkT T L m := by
  intro m
  induction m using Nat.strongRecOn with
  | _ m ih =>
    intro k hk hm hlt
    have e1 := h k hk
    unfold farT at e1
    by_cases hg : plT T k = T.1 3
    · rw [if_pos hg] at e1
      omega
    · rw [if_neg hg] at e1
      rcases farL_att T c o L (k / 2 + 1) (plT T k) (T.1 1) with q | ⟨j, hj, hok, hon⟩
      · omega
      · obtain ⟨h1, h2⟩ := hc j hj
        have hnv : nvT T (k / 2 + 1) j ≤ T.1 4 := by unfold nvT; split <;> omega
        unfold onT at hon
        have h3 := ih (L (arT T j (plT T k))) (by omega) _ (arT_lt hj) rfl (by omega)
        have h4 := rk_lt (T := T) (L := L) (x := m) (j := arT T j (plT T k)) (arT_lt hj) (by omega)
        have h5 : C * rkT T L (L (arT T j (plT T k))) + C ≤ C * rkT T L m := by
          rw [← Nat.mul_succ]
          exact Nat.mul_le_mul_left C h4
        omega
