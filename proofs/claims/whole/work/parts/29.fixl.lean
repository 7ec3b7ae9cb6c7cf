/-! THE WAY's numbers, chosen: there are some as they must be, and only one (fix_one) -/
def sumN (L : Nat → Nat) : Nat → Nat
  | 0 => 0
  | n + 1 => sumN L n + L n
theorem sumN_le {L L' : Nat → Nat} : ∀ n, (∀ k, k < n → L k ≤ L' k) → sumN L n ≤ sumN L' n
  | 0, _ => Nat.le_refl _
  | n + 1, h => by
    have h1 := sumN_le n (fun k hk => h k (by omega))
    have h2 := h n (by omega)
    unfold sumN
    omega
theorem sumN_eq {L L' : Nat → Nat} : ∀ n, (∀ k, k < n → L k ≤ L' k) → sumN L n = sumN L' n → ∀ k, k < n → L k = L' k
  | 0, _, _, k, hk => absurd hk (Nat.not_lt_zero k)
  | n + 1, h, e, k, hk => by
    have h1 := sumN_le n (fun k hk => h k (by omega))
    have h2 := h n (by omega)
    unfold sumN at e
    rcases Nat.lt_or_ge k n with q | q
    · exact sumN_eq n (fun k hk => h k (by omega)) (by omega) k q
    · rw [show k = n by omega]; omega
theorem fix_ex0 (T : NS) (c : Nat → Nat) (o : Nat) : ∀ (m : Nat) (L : Nat → Nat), sumN L (2 * T.1 1) = m → (∀ k, k < 2 * T.1 1 → farT T c o L (k / 2 + 1) (plT T k) ≤ L k) → ∃ L, Fix T c o L := by
  intro m
  induction m using Nat.strongRecOn with
  | _ m ih =>
    intro L hm h
    let L' : Nat → Nat := fun k => farT T c o L (k / 2 + 1) (plT T k)
    have hle : ∀ k, k < 2 * T.1 1 → L' k ≤ L k := h
    have h1 := sumN_le (L := L') (L' := L) (2 * T.1 1) hle
    rcases Nat.lt_or_ge (sumN L' (2 * T.1 1)) m with q | q
    · exact ih _ q L' rfl (fun k hk => farT_mono hle)
    · exact ⟨L, fun k hk => (sumN_eq (L := L') (L' := L) (2 * T.1 1) hle (by omega) k hk).symm⟩
theorem fix_ex (T : NS) (c : Nat → Nat) (o : Nat) : ∃ L, Fix T c o L := fix_ex0 T c o _ (fun _ => 1000000) rfl (fun k _ => farT_le _ _ _ _ _ _)
noncomputable def LF (T : NS) (c : Nat → Nat) (o : Nat) : Nat → Nat := Classical.choose (fix_ex T c o)
theorem LF_fix (T : NS) (c : Nat → Nat) (o : Nat) : Fix T c o (LF T c o) := Classical.choose_spec (fix_ex T c o)
theorem fix_cg {T : NS} {c c' : Nat → Nat} {o : Nat} {L : Nat → Nat} (hc : ∀ r, r < T.1 1 → c r = c' r) (h : Fix T c o L) : Fix T c' o L := fun k hk => (h k hk).trans (farT_cg hc (fun _ _ => rfl))
theorem LF_eq {T : NS} {c c' : Nat → Nat} {o : Nat} {L : Nat → Nat} (hc1 : ∀ r, r < T.1 1 → 1 ≤ c' r) (hc : ∀ r, r < T.1 1 → c r = c' r) (h : Fix T c o L) : ∀ k, k < 2 * T.1 1 → L k = LF T c' o k := fix_one hc1 (fix_cg hc h) (LF_fix T c' o)
/-- how LONG the roads are -/
def cT (T P : NS) : Nat → Nat := fun r => T.2 8 r + P.2 5 r
theorem cT_1 {T : NS} (P : NS) (hT : tdI T) : ∀ r, r < T.1 1 → 1 ≤ cT T P r := fun r hr => by
  have := (hT.2.2.2.2.2.2.2.2.2 r hr).2.2.2
  unfold cT
  omega
noncomputable def farV (T : NS) (c : Nat → Nat) (o b p : Nat) : Nat := farT T c o (LF T c o) b p
noncomputable def mfV (T : NS) (c : Nat → Nat) (o b p : Nat) : Nat := mfE T c o (LF T c o) b p
noncomputable def frV (T : NS) (c : Nat → Nat) (o b p : Nat) : Nat := frT T c o (LF T c o) b p (T.1 1)
noncomputable def mbV (T : NS) (c : Nat → Nat) (o b p r : Nat) : Nat := mbE T c (LF T c o) b p r
noncomputable def pthV (T : NS) (c : Nat → Nat) (o : Nat) (s : Nat × Nat) (i : Nat) : Nat × Nat := pth T c o (LF T c o) s i
noncomputable def rdV (T : NS) (c : Nat → Nat) (o : Nat) (s : Nat × Nat) (i : Nat) : Nat := rdT T c o (LF T c o) s i
noncomputable def trV (T : NS) (c : Nat → Nat) (o : Nat) (s : Nat × Nat) (i : Nat) : Nat := trn T c o (LF T c o) s i
noncomputable def lenV (T : NS) (c : Nat → Nat) (o : Nat) (s : Nat × Nat) : Nat := Classical.epsilon (fun n => (pthV T c o s n).1 = T.1 3 ∧ ∀ j, j < n → (pthV T c o s j).1 ≠ T.1 3)
theorem farV_le (T : NS) (c : Nat → Nat) (o b p : Nat) : farV T c o b p ≤ 1000000 := farT_le _ _ _ _ _ _
theorem mfV_lt (T : NS) (c : Nat → Nat) (o b p : Nat) : mfV T c o b p < 2 ^ 31 := mfE_lt _ _ _ _ _ _
theorem mfV_le (T : NS) (c : Nat → Nat) (o b p : Nat) : mfV T c o b p ≤ 1000000 := by
  have := farV_le T c o b p
  unfold mfV mfE
  unfold farV at this
  split <;> omega
theorem mfV_0 {T : NS} {c : Nat → Nat} {o b p : Nat} : mfV T c o b p = 0 ↔ farV T c o b p = 1000000 := by
  unfold mfV mfE farV
  constructor
  · intro h
    split at h
    · assumption
    · cases h
  · intro h; rw [if_pos h]
theorem mfV_n {T : NS} {c : Nat → Nat} {o b p : Nat} (h : mfV T c o b p ≠ 0) : mfV T c o b p = farV T c o b p + 1 ∧ farV T c o b p < 1000000 := by
  have h1 : farV T c o b p ≠ 1000000 := fun e => h (mfV_0.mpr e)
  have h2 := farV_le T c o b p
  refine ⟨?_, by omega⟩
  unfold mfV mfE
  exact if_neg h1
theorem lenV_spec {T : NS} {c : Nat → Nat} {o : Nat} {s : Nat × Nat} (hc : ∀ r, r < T.1 1 → 1 ≤ c r) (hf : farV T c o s.2 s.1 < 1000000) : lenV T c o s ≤ 2 * T.1 1 ∧ (pthV T c o s (lenV T c o s)).1 = T.1 3 ∧ ∀ j, j < lenV T c o s → (pthV T c o s j).1 ≠ T.1 3 := by
  obtain ⟨n, h1, h2, h3⟩ := pth_end hc (LF_fix T c o) hf
  have h4 := Classical.epsilon_spec (p := fun n => (pthV T c o s n).1 = T.1 3 ∧ ∀ j, j < n → (pthV T c o s j).1 ≠ T.1 3) ⟨n, h2, h3⟩
  have h5 : n = lenV T c o s := pth_end1 h2 h3 h4.1 h4.2
  exact ⟨h5 ▸ h1, h4⟩
theorem lenV_eq {T : NS} {c : Nat → Nat} {o : Nat} {s : Nat × Nat} {n : Nat} (h2 : (pthV T c o s n).1 = T.1 3) (h3 : ∀ j, j < n → (pthV T c o s j).1 ≠ T.1 3) : n = lenV T c o s := by
  have h4 := Classical.epsilon_spec (p := fun n => (pthV T c o s n).1 = T.1 3 ∧ ∀ j, j < n → (pthV T c o s j).1 ≠ T.1 3) ⟨n, h2, h3⟩
  exact pth_end1 h2 h3 h4.1 h4.2
section FV
variable {T : NS} {c c' : Nat → Nat} {o : Nat} {L : Nat → Nat}
theorem far_V (hc1 : ∀ r, r < T.1 1 → 1 ≤ c' r) (hc : ∀ r, r < T.1 1 → c r = c' r) (h : Fix T c o L) (b p : Nat) : farT T c o L b p = farV T c' o b p := farT_cg hc (LF_eq hc1 hc h)
theorem mf_V (hc1 : ∀ r, r < T.1 1 → 1 ≤ c' r) (hc : ∀ r, r < T.1 1 → c r = c' r) (h : Fix T c o L) (b p : Nat) : mfE T c o L b p = mfV T c' o b p := by
  unfold mfV mfE
  rw [farT_cg hc (LF_eq hc1 hc h)]
theorem fr_V (hc1 : ∀ r, r < T.1 1 → 1 ≤ c' r) (hc : ∀ r, r < T.1 1 → c r = c' r) (h : Fix T c o L) (b p : Nat) : frT T c o L b p (T.1 1) = frV T c' o b p := frT_cg hc (LF_eq hc1 hc h) _ (Nat.le_refl _)
theorem mb_V (hc1 : ∀ r, r < T.1 1 → 1 ≤ c' r) (hc : ∀ r, r < T.1 1 → c r = c' r) (h : Fix T c o L) (b p : Nat) {r : Nat} (hr : r < T.1 1) : mbE T c L b p r = mbV T c' o b p r := by
  unfold mbV mbE
  rw [onT_cg hc (LF_eq hc1 hc h) hr, LF_eq hc1 hc h _ (arT_lt hr)]
theorem pth_V (hc1 : ∀ r, r < T.1 1 → 1 ≤ c' r) (hc : ∀ r, r < T.1 1 → c r = c' r) (h : Fix T c o L) (s : Nat × Nat) (i : Nat) : pth T c o L s i = pthV T c' o s i := pth_cg hc (LF_eq hc1 hc h) i
theorem rd_V (hc1 : ∀ r, r < T.1 1 → 1 ≤ c' r) (hc : ∀ r, r < T.1 1 → c r = c' r) (h : Fix T c o L) (s : Nat × Nat) (i : Nat) : rdT T c o L s i = rdV T c' o s i := rdT_cg hc (LF_eq hc1 hc h) i
theorem tr_V (hc1 : ∀ r, r < T.1 1 → 1 ≤ c' r) (hc : ∀ r, r < T.1 1 → c r = c' r) (h : Fix T c o L) (s : Nat × Nat) (i : Nat) : trn T c o L s i = trV T c' o s i := trn_cg hc (LF_eq hc1 hc h) i
theorem fol_V (hc1 : ∀ r, r < T.1 1 → 1 ≤ c' r) (hc : ∀ r, r < T.1 1 → c r = c' r) (h : Fix T c o L) {p b n t : Nat} {f : Nat → Nat} (hp : farT T c o L b p < 1000000 → (pth T c o L (p, b) n).1 = T.1 3 ∧ (∀ j, j < n → (pth T c o L (p, b) j).1 ≠ T.1 3) ∧ t = trn T c o L (p, b) n ∧ ∀ j, j < n → f j = rdT T c o L (p, b) j) (hf : farV T c' o b p < 1000000) : n = lenV T c' o (p, b) ∧ t = trV T c' o (p, b) n ∧ ∀ j, j < n → f j = rdV T c' o (p, b) j := by
  obtain ⟨h1, h2, h3, h4⟩ := hp (by rw [far_V hc1 hc h]; exact hf)
  exact ⟨lenV_eq (by rw [← pth_V hc1 hc h]; exact h1) (fun j hj => by rw [← pth_V hc1 hc h]; exact h2 j hj), by rw [h3, tr_V hc1 hc h], fun j hj => by rw [h4 j hj, rd_V hc1 hc h]⟩
end FV
