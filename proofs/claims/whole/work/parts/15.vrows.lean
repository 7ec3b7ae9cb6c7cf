theorem cm_pos {x : Nat} (h : x ≠ 0) : cm x = nI (x - 1) := by
  cases x with
  | zero => exact absurd rfl h
  | succ k => rfl
theorem cm_9 {x : Nat} (hx : x < 2 ^ 31) : cm x = -9 ↔ x = 0 := by
  cases x with
  | zero => exact ⟨fun _ => rfl, fun _ => rfl⟩
  | succ k =>
    constructor
    · intro h
      have h1 : nI k = -9 := h
      have h2 : (nI k).toInt = (k : Int) := nI_toInt (by omega)
      rw [h1] at h2
      have h3 : (-9 : Int32).toInt = -9 := by decide
      omega
    · intro h; cases h
theorem plT_lt {T : NS} (h : sm T) (k : Nat) : plT T k < 2 ^ 31 := by unfold plT; split; exact h.2 _ _; exact h.2 _ _
theorem otherT_lt {T : NS} (h : sm T) (r p : Nat) : otherT T r p < 2 ^ 31 := by unfold otherT; split; exact h.2 _ _; exact h.2 _ _
theorem nvT_le (T : NS) (b r : Nat) : nvT T b r ≤ T.1 4 := by unfold nvT; split <;> omega
section ZV
variable {g : GC} {X : XC} {cc : ByteArray} {nL k n pc : Nat} {own : String} {ws : va_W} {lv lv' : List (Nat × Value)} {st : List Value}
theorem z_icmpC_ne (E : Ob g X cc nL own) {x : Nat} {off : Int} (hd : decode cc pc = .ok (.if_icmp .ne off, 3)) (tgt : Nat) (ht : (pc : Int) + off = (tgt : Int)) (hx : x < 2 ^ 31) (kt : x ≠ 0 → Z g X nL k n ws lv st tgt) (kf : x = 0 → Z g X nL k n ws lv st (pc + 3)) : Z g X nL k n ws lv (.int (-9) :: .int (cm x) :: st) pc :=
  z_icmp_ne E hd tgt ht (fun h => kt (fun e => h ((cm_9 hx).mpr e))) (fun h => kf ((cm_9 hx).mp h))
theorem z_icmpC_eq (E : Ob g X cc nL own) {x : Nat} {off : Int} (hd : decode cc pc = .ok (.if_icmp .eq off, 3)) (tgt : Nat) (ht : (pc : Int) + off = (tgt : Int)) (hx : x < 2 ^ 31) (kt : x = 0 → Z g X nL k n ws lv st tgt) (kf : x ≠ 0 → Z g X nL k n ws lv st (pc + 3)) : Z g X nL k n ws lv (.int (-9) :: .int (cm x) :: st) pc :=
  z_icmp_eq E hd tgt ht (fun h => kt ((cm_9 hx).mp h)) (fun h => kf (fun e => h ((cm_9 hx).mpr e)))
theorem z_ishr1N (E : Ob g X cc nL own) {a : Nat} (hd : decode cc pc = .ok (.ishr, 1)) (ha : a < 2 ^ 31) (K : Z g X nL k n ws lv (.int (nI (a / 2)) :: st) (pc + 1)) : Z g X nL k n ws lv (.int (nI 1) :: .int (nI a) :: st) pc :=
  z_ishrN E hd ha (by decide) (z_topi (by rw [Nat.shiftRight_eq_div_pow]) K)
theorem z_iand1N (E : Ob g X cc nL own) {a : Nat} (hd : decode cc pc = .ok (.iand, 1)) (K : Z g X nL k n ws lv (.int (nI (a % 2)) :: st) (pc + 1)) : Z g X nL k n ws lv (.int (nI 1) :: .int (nI a) :: st) pc :=
  z_iandN E hd (z_topi (by rw [Nat.and_one_is_mod]) K)
end ZV
/-! the way, road by road -/
def mbE (T : NS) (c L : Nat → Nat) (b p r : Nat) : Nat := if 1000000 ≤ L (arT T r p) then 0 else onT T c L b p r + 1
def mfE (T : NS) (c : Nat → Nat) (o : Nat) (L : Nat → Nat) (b p : Nat) : Nat := if farT T c o L b p = 1000000 then 0 else farT T c o L b p + 1
theorem onT_le {T : NS} {c L : Nat → Nat} {b p r : Nat} (hL : ∀ a, L a ≤ 1000000) (hc : ∀ r, c r ≤ 1000000) (hn : T.1 4 ≤ 1000000) : onT T c L b p r ≤ 3000000 := by
  unfold onT
  have h1 := hL (arT T r p)
  have h2 := hc r
  have h3 : nvT T b r ≤ T.1 4 := by unfold nvT; split <;> omega
  omega
theorem mbE_lt {T : NS} {c L : Nat → Nat} {b p r : Nat} (hL : ∀ a, L a ≤ 1000000) (hc : ∀ r, c r ≤ 1000000) (hn : T.1 4 ≤ 1000000) : mbE T c L b p r < 2 ^ 31 := by
  unfold mbE
  have := onT_le (T := T) (b := b) (p := p) (r := r) hL hc hn
  split <;> omega
theorem mfE_lt (T : NS) (c : Nat → Nat) (o : Nat) (L : Nat → Nat) (b p : Nat) : mfE T c o L b p < 2 ^ 31 := by
  unfold mfE
  have := farT_le T c o L b p
  split <;> omega
theorem frT_le (T : NS) (c : Nat → Nat) (o : Nat) (L : Nat → Nat) (b p i : Nat) : frT T c o L b p i ≤ i := by
  by_cases h : frT T c o L b p i = 0
  · omega
  · exact (frT_on i h).1
/-- one road on: where one is, and one more than the road by which one came -/
def stp (T : NS) (c : Nat → Nat) (o : Nat) (L : Nat → Nat) (s : Nat × Nat) : Nat × Nat := (otherT T (frT T c o L s.2 s.1 (T.1 1) - 1) s.1, frT T c o L s.2 s.1 (T.1 1))
def pth (T : NS) (c : Nat → Nat) (o : Nat) (L : Nat → Nat) (s : Nat × Nat) : Nat → Nat × Nat
  | 0 => s
  | i + 1 => stp T c o L (pth T c o L s i)
theorem pth_s (T : NS) (c : Nat → Nat) (o : Nat) (L : Nat → Nat) (s : Nat × Nat) (i : Nat) : pth T c o L s (i + 1) = stp T c o L (pth T c o L s i) := rfl
/-- the i-th road of the way -/
def rdT (T : NS) (c : Nat → Nat) (o : Nat) (L : Nat → Nat) (s : Nat × Nat) (i : Nat) : Nat := frT T c o L (pth T c o L s i).2 (pth T c o L s i).1 (T.1 1) - 1
def trn (T : NS) (c : Nat → Nat) (o : Nat) (L : Nat → Nat) (s : Nat × Nat) : Nat → Nat
  | 0 => 0
  | i + 1 => trn T c o L s i + (if isTn T (pth T c o L s i).2 (rdT T c o L s i) = true then 1 else 0)
theorem trn_le (T : NS) (c : Nat → Nat) (o : Nat) (L : Nat → Nat) (s : Nat × Nat) : ∀ i, trn T c o L s i ≤ i
  | 0 => Nat.le_refl _
  | i + 1 => by have := trn_le T c o L s i; unfold trn; split <;> omega
theorem stp_ok {T : NS} {c : Nat → Nat} {o : Nat} {L : Nat → Nat} {b p : Nat} (hc : ∀ r, r < T.1 1 → 1 ≤ c r) (hF : Fix T c o L) (hg : p ≠ T.1 3) (hf : farT T c o L b p < 1000000) :
    frT T c o L b p (T.1 1) ≠ 0 ∧ frT T c o L b p (T.1 1) - 1 < T.1 1 ∧ okR T o p (frT T c o L b p (T.1 1) - 1) = true ∧ L (arT T (frT T c o L b p (T.1 1) - 1) p) = farT T c o L (stp T c o L (p, b)).2 (stp T c o L (p, b)).1 ∧ onT T c L b p (frT T c o L b p (T.1 1) - 1) = farT T c o L b p ∧ farT T c o L (stp T c o L (p, b)).2 (stp T c o L (p, b)).1 < farT T c o L b p ∧ rkT T L (farT T c o L (stp T c o L (p, b)).2 (stp T c o L (p, b)).1) < rkT T L (farT T c o L b p) := by
  have e : farT T c o L b p = farL T c o L b p (T.1 1) := by unfold farT; rw [if_neg hg]
  have h0 : frT T c o L b p (T.1 1) ≠ 0 := fun z => by have := (frT_0 _).mp z; omega
  obtain ⟨h1, h2, h3⟩ := frT_on (T.1 1) h0
  have hr : frT T c o L b p (T.1 1) - 1 < T.1 1 := by omega
  have hm : meetsT T (frT T c o L b p (T.1 1) - 1) p = true := by
    unfold okR at h2
    simp only [Bool.and_eq_true] at h2
    exact h2.2
  have hL : L (arT T (frT T c o L b p (T.1 1) - 1) p) = farT T c o L (stp T c o L (p, b)).2 (stp T c o L (p, b)).1 := by
    rw [hF _ (arT_lt hr), arT_div, pl_arT hm, show frT T c o L b p (T.1 1) - 1 + 1 = frT T c o L b p (T.1 1) by omega]
    rfl
  have h4 : farT T c o L (stp T c o L (p, b)).2 (stp T c o L (p, b)).1 < farT T c o L b p := by
    rw [e, ← h3, ← hL]
    unfold onT
    have := hc _ hr
    omega
  refine ⟨h0, hr, h2, hL, by rw [h3, e], h4, ?_⟩
  rw [← hL] at h4 ⊢
  exact rk_lt (arT_lt hr) h4
/-- all along the way -/
theorem pth_ok {T : NS} {c : Nat → Nat} {o : Nat} {L : Nat → Nat} {s : Nat × Nat} (hc : ∀ r, r < T.1 1 → 1 ≤ c r) (hF : Fix T c o L) (hf : farT T c o L s.2 s.1 < 1000000) : ∀ i, (∀ j, j < i → (pth T c o L s j).1 ≠ T.1 3) → farT T c o L (pth T c o L s i).2 (pth T c o L s i).1 < 1000000 ∧ rkT T L (farT T c o L (pth T c o L s i).2 (pth T c o L s i).1) + i ≤ 2 * T.1 1
  | 0, _ => ⟨hf, rk_le _ _ _⟩
  | i + 1, h => by
    obtain ⟨h1, h2⟩ := pth_ok hc hF hf i (fun j hj => h j (by omega))
    have h0 := h i (by omega)
    rw [pth_s]
    generalize pth T c o L s i = q at h0 h1 h2 ⊢
    obtain ⟨p, b⟩ := q
    have h3 := stp_ok (b := b) (p := p) hc hF h0 h1
    have h4 := h3.2.2.2.2.2.1
    have h5 := h3.2.2.2.2.2.2
    dsimp only at h1 h2
    exact ⟨by omega, by omega⟩
/-- a way that isn't at its end has a road left -/
theorem pth_room {T : NS} {c : Nat → Nat} {o : Nat} {L : Nat → Nat} {s : Nat × Nat} (hc : ∀ r, r < T.1 1 → 1 ≤ c r) (hF : Fix T c o L) (hf : farT T c o L s.2 s.1 < 1000000) {i : Nat} (h : ∀ j, j < i → (pth T c o L s j).1 ≠ T.1 3) (hi : (pth T c o L s i).1 ≠ T.1 3) : i < 2 * T.1 1 := by
  have h1 := (pth_ok hc hF hf (i + 1) (fun j hj => by
    rcases Nat.lt_or_ge j i with q | q
    · exact h j q
    · rw [show j = i by omega]; exact hi)).2
  omega
/-- it ends -/
theorem pth_end {T : NS} {c : Nat → Nat} {o : Nat} {L : Nat → Nat} {s : Nat × Nat} (hc : ∀ r, r < T.1 1 → 1 ≤ c r) (hF : Fix T c o L) (hf : farT T c o L s.2 s.1 < 1000000) : ∃ n, n ≤ 2 * T.1 1 ∧ (pth T c o L s n).1 = T.1 3 ∧ ∀ j, j < n → (pth T c o L s j).1 ≠ T.1 3 := by
  have key : ∀ m, (∃ n, n ≤ m ∧ (pth T c o L s n).1 = T.1 3 ∧ ∀ j, j < n → (pth T c o L s j).1 ≠ T.1 3) ∨ ∀ j, j ≤ m → (pth T c o L s j).1 ≠ T.1 3 := by
    intro m
    induction m with
    | zero =>
      by_cases h : (pth T c o L s 0).1 = T.1 3
      · exact Or.inl ⟨0, Nat.le_refl _, h, fun j hj => absurd hj (Nat.not_lt_zero j)⟩
      · exact Or.inr (fun j hj => by rw [show j = 0 by omega]; exact h)
    | succ m ih =>
      rcases ih with ⟨n, h1, h2⟩ | h
      · exact Or.inl ⟨n, by omega, h2⟩
      · by_cases h2 : (pth T c o L s (m + 1)).1 = T.1 3
        · exact Or.inl ⟨m + 1, Nat.le_refl _, h2, fun j hj => h j (by omega)⟩
        · exact Or.inr (fun j hj => by
            rcases Nat.lt_or_ge j (m + 1) with q | q
            · exact h j (by omega)
            · rw [show j = m + 1 by omega]; exact h2)
  rcases key (2 * T.1 1) with h | h
  · exact h
  · exact absurd (pth_room hc hF hf (i := 2 * T.1 1) (fun j hj => h j (by omega)) (h _ (Nat.le_refl _))) (Nat.lt_irrefl _)
/-- it has one end -/
theorem pth_end1 {T : NS} {c : Nat → Nat} {o : Nat} {L : Nat → Nat} {s : Nat × Nat} {n m : Nat} (h1 : (pth T c o L s n).1 = T.1 3) (h2 : ∀ j, j < n → (pth T c o L s j).1 ≠ T.1 3) (h3 : (pth T c o L s m).1 = T.1 3) (h4 : ∀ j, j < m → (pth T c o L s j).1 ≠ T.1 3) : n = m := by
  rcases Nat.lt_trichotomy n m with q | q | q
  · exact absurd h1 (h4 n q)
  · exact q
  · exact absurd h3 (h2 m q)
theorem stp_cg {T : NS} {c c' : Nat → Nat} {o : Nat} {L L' : Nat → Nat} {s : Nat × Nat} (hc : ∀ r, r < T.1 1 → c r = c' r) (h : ∀ k, k < 2 * T.1 1 → L k = L' k) : stp T c o L s = stp T c' o L' s := by
  unfold stp
  rw [frT_cg hc h _ (Nat.le_refl _)]
theorem pth_cg {T : NS} {c c' : Nat → Nat} {o : Nat} {L L' : Nat → Nat} {s : Nat × Nat} (hc : ∀ r, r < T.1 1 → c r = c' r) (h : ∀ k, k < 2 * T.1 1 → L k = L' k) : ∀ i, pth T c o L s i = pth T c' o L' s i
  | 0 => rfl
  | i + 1 => by rw [pth_s, pth_s, pth_cg hc h i, stp_cg hc h]
theorem rdT_cg {T : NS} {c c' : Nat → Nat} {o : Nat} {L L' : Nat → Nat} {s : Nat × Nat} (hc : ∀ r, r < T.1 1 → c r = c' r) (h : ∀ k, k < 2 * T.1 1 → L k = L' k) (i : Nat) : rdT T c o L s i = rdT T c' o L' s i := by
  unfold rdT
  rw [pth_cg hc h, frT_cg hc h _ (Nat.le_refl _)]
theorem trn_cg {T : NS} {c c' : Nat → Nat} {o : Nat} {L L' : Nat → Nat} {s : Nat × Nat} (hc : ∀ r, r < T.1 1 → c r = c' r) (h : ∀ k, k < 2 * T.1 1 → L k = L' k) : ∀ i, trn T c o L s i = trn T c' o L' s i
  | 0 => rfl
  | i + 1 => by unfold trn; rw [trn_cg hc h i, pth_cg hc h, rdT_cg hc h]
