/-! Euclid's way ends -/
def fbp : Nat → Nat × Nat
  | 0 => (0, 1)
  | n + 1 => ((fbp n).2, (fbp n).1 + (fbp n).2)
def fb (n : Nat) : Nat := (fbp n).1
theorem fb_1 : fb 1 = 1 := rfl
theorem fb_ss (n : Nat) : fb (n + 2) = fb n + fb (n + 1) := rfl
theorem fb_100 : 2 ^ 63 < fb 100 := by decide +kernel
theorem eu_ge {l s : Nat} (h0 : 0 < s) (h : s < l) : s + l % s ≤ l := by
  have h1 := Nat.div_add_mod l s
  have h2 : 1 ≤ l / s := (Nat.le_div_iff_mul_le h0).mpr (by omega)
  have h3 : s * 1 ≤ s * (l / s) := Nat.mul_le_mul_left s h2
  omega
def euI (x y l s i : Nat) : Prop := Nat.gcd l s = Nat.gcd x y ∧ l < 2 ^ 63 ∧ s < 2 ^ 63 ∧ (i = 0 → s = y) ∧ (0 < i → s < l ∧ fb i * l + fb (i - 1) * s ≤ y)
theorem eu_step {x y l s i : Nat} (hy : y < 2 ^ 63) (h : euI x y l s i) (hs : s ≠ 0) : euI x y s (l % s) (i + 1) := by
  obtain ⟨h1, h2, h3, h4, h5⟩ := h
  have hs0 : 0 < s := Nat.pos_of_ne_zero hs
  have hm := Nat.mod_lt l hs0
  refine ⟨?_, h3, by omega, fun q => absurd q (Nat.succ_ne_zero i), fun _ => ⟨hm, ?_⟩⟩
  · rw [← h1, Nat.gcd_comm s, ← Nat.gcd_rec, Nat.gcd_comm]
  · rcases Nat.eq_zero_or_pos i with q | q
    · subst q
      rw [h4 rfl]
      show fb 1 * y + fb 0 * (l % y) ≤ y
      rw [fb_1, show fb 0 = 0 from rfl, Nat.zero_mul]
      omega
    · obtain ⟨h6, h7⟩ := h5 q
      have h8 := eu_ge hs0 h6
      obtain ⟨j, rfl⟩ : ∃ j, i = j + 1 := ⟨i - 1, by omega⟩
      simp only [Nat.add_sub_cancel] at h7 ⊢
      rw [fb_ss]
      have h9 : fb (j + 1) * (s + l % s) ≤ fb (j + 1) * l := Nat.mul_le_mul_left _ h8
      rw [Nat.mul_add] at h9
      rw [Nat.add_mul]
      omega
theorem eu_end {x y l s i : Nat} (hy : y < 2 ^ 63) (h : euI x y l s i) (hi : 100 ≤ i ∧ i ≤ 100 ∨ s = 0) : l = Nat.gcd x y := by
  obtain ⟨h1, h2, h3, h4, h5⟩ := h
  by_cases hs : s = 0
  · rw [hs, Nat.gcd_zero_right] at h1
    exact h1
  · rcases hi with q | q
    · obtain ⟨h6, h7⟩ := h5 (by omega)
      have e : i = 100 := by omega
      rw [e] at h7
      have h8 : fb 100 * 1 ≤ fb 100 * l := Nat.mul_le_mul_left _ (by omega)
      have := fb_100
      omega
    · exact absurd q hs
/-! the least number that the places' roads divide -/
def cuF (f : Nat → Nat) : Nat → Nat
  | 0 => 1
  | i + 1 => if pc12 (f i) = 0 then cuF f i else cuF f i / Nat.gcd (cuF f i) (pc12 (f i)) * pc12 (f i)
theorem cuF_s (f : Nat → Nat) (i : Nat) : cuF f (i + 1) = if pc12 (f i) = 0 then cuF f i else cuF f i / Nat.gcd (cuF f i) (pc12 (f i)) * pc12 (f i) := rfl
theorem pc12_le (x : Nat) : pc12 x ≤ 12 := by
  have h : ∀ k, x >>> k &&& 1 ≤ 1 := fun k => Nat.and_le_right
  unfold pc12
  simp only [List.range, List.range.loop, List.map, List.sum_cons, List.sum_nil]
  have h0 := h 0; have h1 := h 1; have h2 := h 2; have h3 := h 3; have h4 := h 4; have h5 := h 5; have h6 := h 6; have h7 := h 7; have h8 := h 8; have h9 := h 9; have h10 := h 10; have h11 := h 11
  omega
theorem d27720 : ∀ n, n ≤ 12 → n ≠ 0 → n ∣ 27720 := by decide
theorem lcm_eq {a b : Nat} (hb : b ≠ 0) : a / Nat.gcd a b * b = Nat.lcm a b := by
  unfold Nat.lcm
  rw [Nat.div_mul_right_comm (Nat.gcd_dvd_left a b)]
theorem cuF_lcm {f : Nat → Nat} {i : Nat} (h : pc12 (f i) ≠ 0) : cuF f (i + 1) = Nat.lcm (cuF f i) (pc12 (f i)) := by
  rw [cuF_s, if_neg h, lcm_eq h]
theorem cuF_dvd (f : Nat → Nat) : ∀ i, cuF f i ∣ 27720
  | 0 => Nat.one_dvd 27720
  | i + 1 => by
    by_cases h : pc12 (f i) = 0
    · rw [cuF_s, if_pos h]; exact cuF_dvd f i
    · rw [cuF_lcm h]
      exact Nat.lcm_dvd (cuF_dvd f i) (d27720 _ (pc12_le _) h)
theorem cuF_pos (f : Nat → Nat) (i : Nat) : 0 < cuF f i := Nat.pos_of_dvd_of_pos (cuF_dvd f i) (by decide)
theorem cuF_le (f : Nat → Nat) (i : Nat) : cuF f i ≤ 27720 := Nat.le_of_dvd (by decide) (cuF_dvd f i)
theorem cuF_div {f : Nat → Nat} : ∀ {i j : Nat}, j < i → pc12 (f j) ≠ 0 → pc12 (f j) ∣ cuF f i
  | 0, j, h, _ => absurd h (Nat.not_lt_zero j)
  | i + 1, j, h, hj => by
    by_cases hp : pc12 (f i) = 0
    · rw [cuF_s, if_pos hp]
      rcases Nat.lt_or_ge j i with q | q
      · exact cuF_div q hj
      · rw [show j = i by omega] at hj; exact absurd hp hj
    · rw [cuF_lcm hp]
      rcases Nat.lt_or_ge j i with q | q
      · exact Nat.dvd_trans (cuF_div q hj) (Nat.dvd_lcm_left _ _)
      · rw [show j = i by omega]; exact Nat.dvd_lcm_right _ _
/-! one step of one who takes any road -/
def spr (T : NS) (m p sh : Nat) (N : Nat → Nat) : Nat → Nat → Nat
  | 0 => N
  | i + 1 => if m.testBit i = true then va_up (spr T m p sh N i) (otherT T i p) (spr T m p sh N i (otherT T i p) + sh) else spr T m p sh N i
def tar (T : NS) (f Q : Nat → Nat) (u : Nat) : Nat → Nat → Nat
  | 0 => fun _ => 0
  | i + 1 => if pc12 (f i) = 0 then va_up (tar T f Q u i) i (tar T f Q u i i + Q i * u) else spr T (f i) i (Q i * (u / pc12 (f i))) (tar T f Q u i) (T.1 1)
def drv (T : NS) (f : Nat → Nat) (u at_ : Nat) : Nat → Nat → Nat
  | 0 => fun k => if k = at_ then 1 else 0
  | i + 1 => tar T f (drv T f u at_ i) u 8
def s8 (f : Nat → Nat) : Nat := f 0 + f 1 + f 2 + f 3 + f 4 + f 5 + f 6 + f 7
theorem s8_up (f : Nat → Nat) (k x : Nat) (hk : k < 8) : s8 (va_up f k (f k + x)) = s8 f + x := by
  unfold s8 va_up
  rcases (show k = 0 ∨ k = 1 ∨ k = 2 ∨ k = 3 ∨ k = 4 ∨ k = 5 ∨ k = 6 ∨ k = 7 by omega) with rfl | rfl | rfl | rfl | rfl | rfl | rfl | rfl <;> simp <;> omega
theorem s8_le (f : Nat → Nat) (k : Nat) (hk : k < 8) : f k ≤ s8 f := by
  unfold s8
  rcases (show k = 0 ∨ k = 1 ∨ k = 2 ∨ k = 3 ∨ k = 4 ∨ k = 5 ∨ k = 6 ∨ k = 7 by omega) with rfl | rfl | rfl | rfl | rfl | rfl | rfl | rfl <;> omega
def bc (m : Nat) : Nat → Nat
  | 0 => 0
  | i + 1 => bc m i + (if m.testBit i = true then 1 else 0)
theorem bit1 (m k : Nat) : m >>> k &&& 1 = if m.testBit k = true then 1 else 0 := by
  have h1 : m >>> k &&& 1 ≤ 1 := Nat.and_le_right
  by_cases h : m.testBit k = true
  · rw [if_pos h]
    have := (tb_shr m k).mpr h
    omega
  · rw [if_neg h]
    rcases (show m >>> k &&& 1 = 0 ∨ m >>> k &&& 1 = 1 by omega) with q | q
    · exact q
    · exact absurd ((tb_shr m k).mp (by omega)) h
theorem bc_12 (m : Nat) : bc m 12 = pc12 m := by
  unfold pc12
  simp only [List.range, List.range.loop, List.map, List.sum_cons, List.sum_nil, bit1]
  simp only [bc]
  omega
theorem bc_hi {m R : Nat} (h : m < 2 ^ R) : ∀ i, R ≤ i → bc m i = bc m R
  | 0, hi => by rw [show R = 0 by omega]
  | i + 1, hi => by
    rcases Nat.lt_or_ge i R with q | q
    · rw [show i + 1 = R by omega]
    · rw [show bc m (i + 1) = bc m i + (if m.testBit i = true then 1 else 0) from rfl, bc_hi h i q, if_neg (by rw [Nat.testBit_lt_two_pow (Nat.lt_of_lt_of_le h (Nat.pow_le_pow_right (by decide) q))]; decide)]
      rfl
theorem spr_s8 {T : NS} {m p sh : Nat} {N : Nat → Nat} (h8 : ∀ r, r < T.1 1 → otherT T r p < 8) : ∀ i, i ≤ T.1 1 → s8 (spr T m p sh N i) = s8 N + sh * bc m i
  | 0, _ => by simp [spr, bc]
  | i + 1, hi => by
    have ih := spr_s8 (m := m) (sh := sh) (N := N) h8 i (by omega)
    unfold spr bc
    by_cases h : m.testBit i = true
    · rw [if_pos h, if_pos h, s8_up _ _ _ (h8 i (by omega)), ih, Nat.mul_add]; omega
    · rw [if_neg h, if_neg h, ih, Nat.add_zero]
theorem tar_s8 {T : NS} {f Q : Nat → Nat} {u : Nat} (hR : T.1 1 ≤ 12) (h8 : ∀ p r, r < T.1 1 → otherT T r p < 8) (hf : ∀ i, f i < 2 ^ T.1 1) (hd : ∀ i, i < 8 → pc12 (f i) ≠ 0 → pc12 (f i) ∣ u) : s8 (tar T f Q u 8) = s8 Q * u := by
  have key : ∀ i, i < 8 → s8 (tar T f Q u (i + 1)) = s8 (tar T f Q u i) + Q i * u := by
    intro i hi
    show s8 (if pc12 (f i) = 0 then va_up (tar T f Q u i) i (tar T f Q u i i + Q i * u) else spr T (f i) i (Q i * (u / pc12 (f i))) (tar T f Q u i) (T.1 1)) = _
    by_cases h : pc12 (f i) = 0
    · rw [if_pos h, s8_up _ _ _ hi]
    · rw [if_neg h, spr_s8 (h8 i) _ (Nat.le_refl _), ← bc_hi (hf i) 12 hR, bc_12, Nat.mul_assoc, Nat.div_mul_cancel (hd i hi h)]
  rw [key 7 (by decide), key 6 (by decide), key 5 (by decide), key 4 (by decide), key 3 (by decide), key 2 (by decide), key 1 (by decide), key 0 (by decide)]
  have e0 : s8 (tar T f Q u 0) = 0 := rfl
  rw [e0]
  unfold s8
  simp only [Nat.add_mul]
  omega
theorem drv_s8 {T : NS} {f : Nat → Nat} {u at_ : Nat} (hR : T.1 1 ≤ 12) (h8 : ∀ p r, r < T.1 1 → otherT T r p < 8) (hf : ∀ i, f i < 2 ^ T.1 1) (hd : ∀ i, i < 8 → pc12 (f i) ≠ 0 → pc12 (f i) ∣ u) (hat : at_ < 8) : ∀ n, s8 (drv T f u at_ n) = u ^ n
  | 0 => by
    show s8 (fun k => if k = at_ then 1 else 0) = 1
    unfold s8
    rcases (show at_ = 0 ∨ at_ = 1 ∨ at_ = 2 ∨ at_ = 3 ∨ at_ = 4 ∨ at_ = 5 ∨ at_ = 6 ∨ at_ = 7 by omega) with rfl | rfl | rfl | rfl | rfl | rfl | rfl | rfl <;> rfl
  | n + 1 => by
    show s8 (tar T f (drv T f u at_ n) u 8) = _
    rw [tar_s8 hR h8 hf hd, drv_s8 hR h8 hf hd hat n, Nat.pow_succ]
/-! another unit: the same parts of it -/
theorem spr_sc {T : NS} {m p sh sh' D : Nat} {N N' : Nat → Nat} (hs : sh' = sh * D) (hN : ∀ k, N' k = N k * D) : ∀ i k, spr T m p sh' N' i k = spr T m p sh N i k * D
  | 0, k => hN k
  | i + 1, k => by
    have ih := spr_sc (T := T) (m := m) (p := p) hs hN i
    unfold spr
    by_cases h : m.testBit i = true
    · rw [if_pos h, if_pos h]
      unfold va_up
      split
      · rw [ih, hs, Nat.add_mul]
      · exact ih k
    · rw [if_neg h, if_neg h]; exact ih k
theorem tar_sc {T : NS} {f Q Q' : Nat → Nat} {u d D : Nat} (hQ : ∀ k, Q' k = Q k * D) : ∀ i, (∀ j, j < i → pc12 (f j) ≠ 0 → pc12 (f j) ∣ u) → ∀ k, tar T f Q' (u * d) i k = tar T f Q u i k * (D * d)
  | 0, _, k => by show 0 = 0 * _; rw [Nat.zero_mul]
  | i + 1, hd, k => by
    have ih := tar_sc (T := T) (f := f) (u := u) (d := d) hQ i (fun j hj => hd j (by omega))
    unfold tar
    by_cases h : pc12 (f i) = 0
    · rw [if_pos h, if_pos h]
      unfold va_up
      split
      · rw [ih, hQ, Nat.add_mul]
        congr 1
        rw [Nat.mul_assoc, Nat.mul_assoc, ← Nat.mul_assoc D u d, Nat.mul_comm D u, Nat.mul_assoc]
      · exact ih k
    · rw [if_neg h, if_neg h]
      refine spr_sc ?_ ih _ k
      rw [hQ, Nat.mul_comm u d, Nat.mul_div_assoc d (hd i (by omega) h)]
      generalize u / pc12 (f i) = z
      generalize Q i = q
      rw [Nat.mul_assoc, Nat.mul_assoc]
      congr 1
      rw [Nat.mul_comm z (D * d), Nat.mul_assoc]
