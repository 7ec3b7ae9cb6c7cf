/-! THE TEXT, token by token: t the letters, n how many -/
def dg (c : Nat) : Bool := decide (48 ≤ c) && decide (c ≤ 57)
def skF (t : Nat → Nat) (n : Nat) : Nat → Nat → Nat
  | 0, i => i
  | f + 1, i => if i < n ∧ t i = 32 then skF t n f (i + 1) else i
def sk (t : Nat → Nat) (n i : Nat) : Nat := skF t n (n - i) i
theorem sk_y {t : Nat → Nat} {n i : Nat} (h : i < n) (h2 : t i = 32) : sk t n i = sk t n (i + 1) := by
  unfold sk
  obtain ⟨f, hf⟩ : ∃ f, n - i = f + 1 := ⟨n - i - 1, by omega⟩
  rw [hf, show n - (i + 1) = f by omega]
  show (if i < n ∧ t i = 32 then skF t n f (i + 1) else i) = _
  rw [if_pos ⟨h, h2⟩]
theorem sk_n {t : Nat → Nat} {n i : Nat} (h : ¬ (i < n ∧ t i = 32)) : sk t n i = i := by
  unfold sk
  cases n - i with
  | zero => rfl
  | succ f =>
    show (if i < n ∧ t i = 32 then skF t n f (i + 1) else i) = _
    rw [if_neg h]
theorem skF_ge (t : Nat → Nat) (n : Nat) : ∀ f i, i ≤ skF t n f i ∧ (i ≤ n → skF t n f i ≤ n)
  | 0, i => ⟨Nat.le_refl _, id⟩
  | f + 1, i => by
    unfold skF
    by_cases h : i < n ∧ t i = 32
    · rw [if_pos h]
      have := skF_ge t n f (i + 1)
      exact ⟨by omega, fun _ => this.2 (by omega)⟩
    · rw [if_neg h]; exact ⟨Nat.le_refl _, id⟩
theorem sk_ge (t : Nat → Nat) (n i : Nat) : i ≤ sk t n i := (skF_ge t n _ i).1
theorem sk_le {t : Nat → Nat} {n i : Nat} (h : i ≤ n) : sk t n i ≤ n := (skF_ge t n _ i).2 h
def deF (t : Nat → Nat) (n : Nat) : Nat → Nat → Nat
  | 0, i => i
  | f + 1, i => if i < n ∧ dg (t i) = true then deF t n f (i + 1) else i
def de (t : Nat → Nat) (n i : Nat) : Nat := deF t n (n - i) i
theorem de_y {t : Nat → Nat} {n i : Nat} (h : i < n) (h2 : dg (t i) = true) : de t n i = de t n (i + 1) := by
  unfold de
  obtain ⟨f, hf⟩ : ∃ f, n - i = f + 1 := ⟨n - i - 1, by omega⟩
  rw [hf, show n - (i + 1) = f by omega]
  show (if i < n ∧ dg (t i) = true then deF t n f (i + 1) else i) = _
  rw [if_pos ⟨h, h2⟩]
theorem de_n {t : Nat → Nat} {n i : Nat} (h : ¬ (i < n ∧ dg (t i) = true)) : de t n i = i := by
  unfold de
  cases n - i with
  | zero => rfl
  | succ f =>
    show (if i < n ∧ dg (t i) = true then deF t n f (i + 1) else i) = _
    rw [if_neg h]
theorem deF_ge (t : Nat → Nat) (n : Nat) : ∀ f i, i ≤ deF t n f i ∧ (i ≤ n → deF t n f i ≤ n)
  | 0, i => ⟨Nat.le_refl _, id⟩
  | f + 1, i => by
    unfold deF
    by_cases h : i < n ∧ dg (t i) = true
    · rw [if_pos h]
      have := deF_ge t n f (i + 1)
      exact ⟨by omega, fun _ => this.2 (by omega)⟩
    · rw [if_neg h]; exact ⟨Nat.le_refl _, id⟩
theorem de_ge (t : Nat → Nat) (n i : Nat) : i ≤ de t n i := (deF_ge t n _ i).1
theorem de_le {t : Nat → Nat} {n i : Nat} (h : i ≤ n) : de t n i ≤ n := (deF_ge t n _ i).2 h
/-- the first two digits of a number -/
def nbF (t : Nat → Nat) (p k : Nat) : Nat := if k = 0 then 0 else if k = 1 then t p - 48 else (t p - 48) * 10 + (t (p + 1) - 48)
/-- a number's token: 2, or 0 (wrong) -/
def nkF (t : Nat → Nat) (p e : Nat) : Nat := if 2 < e - p ∨ (1 < e - p ∧ t p = 48) then 0 else 2
def tl (c : Nat) : Bool := c == 59 || c == 103 || c == 108 || c == 110 || c == 112 || c == 114 || c == 115
/-- the token from i on: its kind (0 wrong, 1 the end, 2 a number, else three more than its letter), where it begins, what is behind it, its number -/
def lxA (t : Nat → Nat) (n i : Nat) : Nat := sk t n i
def lxT (t : Nat → Nat) (n i : Nat) : Nat := if n ≤ sk t n i then 1 else if dg (t (sk t n i)) = true then nkF t (sk t n i) (de t n (sk t n i)) else if tl (t (sk t n i)) = true then t (sk t n i) + 3 else 0
def lxN (t : Nat → Nat) (n i : Nat) : Nat := if n ≤ sk t n i then sk t n i else if dg (t (sk t n i)) = true then de t n (sk t n i) else sk t n i + 1
def lxV (t : Nat → Nat) (n i _v : Nat) : Nat := nbF t (sk t n i) (de t n (sk t n i) - sk t n i)
theorem de_0 {t : Nat → Nat} {n j : Nat} (h : de t n j - j = 0) : de t n j = j ∧ ¬ (j < n ∧ dg (t j) = true) := by
  have h1 := de_ge t n j
  refine ⟨by omega, fun q => ?_⟩
  have h2 := de_y q.1 q.2
  have h3 := de_ge t n (j + 1)
  omega
theorem de_1 {t : Nat → Nat} {n j : Nat} (h : de t n j - j ≠ 0) : j < n ∧ dg (t j) = true := by
  by_cases q : j < n ∧ dg (t j) = true
  · exact q
  · exact absurd (by rw [de_n q, Nat.sub_self]) h
theorem dg_i {c : Nat} (h1 : 48 ≤ c) (h2 : c ≤ 57) : dg c = true := by unfold dg; rw [decide_eq_true h1, decide_eq_true h2]; rfl
theorem lxN_le {t : Nat → Nat} {n i : Nat} (h : i ≤ n) : lxN t n i ≤ n ∧ lxA t n i ≤ lxN t n i ∧ lxA t n i ≤ n := by
  have h1 := sk_le (t := t) h
  unfold lxN lxA
  split
  · exact ⟨h1, Nat.le_refl _, h1⟩
  · split
    · exact ⟨de_le h1, de_ge _ _ _, h1⟩
    · exact ⟨by omega, by omega, h1⟩
theorem lxN_gt {t : Nat → Nat} {n i : Nat} (h : lxA t n i < n) : lxA t n i < lxN t n i := by
  unfold lxN lxA at *
  rw [if_neg (by omega)]
  split
  · rename_i hd
    have := de_y (t := t) h hd
    have := de_ge t n (sk t n i + 1)
    omega
  · omega
def tkOK (x : Nat) : Prop := x = 0 ∨ x = 1 ∨ x = 2 ∨ x = 62 ∨ x = 106 ∨ x = 111 ∨ x = 113 ∨ x = 115 ∨ x = 117 ∨ x = 118
theorem lxT_ok (t : Nat → Nat) (n i : Nat) : tkOK (lxT t n i) := by
  unfold lxT
  split
  · exact Or.inr (Or.inl rfl)
  · split
    · unfold nkF; split
      · exact Or.inl rfl
      · exact Or.inr (Or.inr (Or.inl rfl))
    · split
      · rename_i h
        unfold tl at h
        simp only [Bool.or_eq_true, beq_iff_eq] at h
        unfold tkOK
        omega
      · exact Or.inl rfl
theorem tkOK_lt {x : Nat} (h : tkOK x) : x < 2 ^ 31 := by unfold tkOK at h; omega
theorem nbF_lt {t : Nat → Nat} (ht : ∀ i, t i < 2 ^ 27) (p k : Nat) : nbF t p k < 2 ^ 31 := by
  have h1 := ht p
  have h2 := ht (p + 1)
  unfold nbF
  split
  · omega
  · split <;> omega
theorem wi_dg {c : Nat} (h : c < 2 ^ 31) : wi (nI c) (nI 48) (nI 57) = dg c := by
  unfold wi dg
  have h1 : nI c < nI 48 ↔ c < 48 := nI_ltI h (by decide)
  have h2 : nI 57 < nI c ↔ 57 < c := nI_ltI (by decide) h
  simp only [h1, h2]
  by_cases a : c < 48
  · simp [a, Nat.not_le.mpr a]
  · by_cases b : 57 < c
    · simp [a, b, Nat.not_le.mpr b]
    · simp [a, b, Nat.le_of_not_lt a, Nat.le_of_not_lt b]
theorem lk_all : ∀ c, c < 256 → Op.lookupswitch.offset [(59, 67), (103, 67), (108, 67), (110, 67), (112, 67), (114, 67), (115, 67)] 69 (nI c).toInt = if tl c = true then 67 else 69 := by decide +kernel
theorem tk_inj {x k : Nat} (hx : x < 2 ^ 31) (hk : k < 2 ^ 31) : tk x = tk k ↔ x = k := by
  constructor
  · intro h
    have key : ∀ y, y < 2 ^ 31 → (tk y).toInt = (y : Int) - 3 := by
      intro y hy
      match y, hy with
      | 0, _ => decide
      | 1, _ => decide
      | 2, _ => decide
      | z + 3, hz =>
        show (nI z).toInt = _
        rw [nI_toInt (by omega)]
        omega
    have h1 := key x hx
    have h2 := key k hk
    rw [h] at h1
    omega
  · intro h; rw [h]
theorem pm_inj {x k : Nat} (hx : x < 2 ^ 31) (hk : k < 2 ^ 31) : pm x = pm k ↔ x = k := by
  constructor
  · intro h
    have key : ∀ y, y < 2 ^ 31 → (pm y).toInt = (y : Int) - 1 := by
      intro y hy
      match y, hy with
      | 0, _ => decide
      | z + 1, hz =>
        show (nI z).toInt = _
        rw [nI_toInt (by omega)]
        omega
    have h1 := key x hx
    have h2 := key k hk
    rw [h] at h1
    omega
  · intro h; rw [h]
theorem pm_pos {x : Nat} (h : x ≠ 0) : pm x = nI (x - 1) := by
  cases x with
  | zero => exact absurd rfl h
  | succ k => rfl
section ZT
variable {g : GC} {X : XC} {cc : ByteArray} {nL k n pc : Nat} {own : String} {ws : va_W} {lv lv' : List (Nat × Value)} {st : List Value}
theorem z_icmpT_ne (E : Ob g X cc nL own) {x q : Nat} {off : Int} (hd : decode cc pc = .ok (.if_icmp .ne off, 3)) (tgt : Nat) (ht : (pc : Int) + off = (tgt : Int)) (hx : x < 2 ^ 31) (hq : q < 2 ^ 31) (kt : x ≠ q → Z g X nL k n ws lv st tgt) (kf : x = q → Z g X nL k n ws lv st (pc + 3)) : Z g X nL k n ws lv (.int (tk q) :: .int (tk x) :: st) pc :=
  z_icmp_ne E hd tgt ht (fun h => kt (fun e => h ((tk_inj hx hq).mpr e))) (fun h => kf ((tk_inj hx hq).mp h))
theorem z_icmpT_eq (E : Ob g X cc nL own) {x q : Nat} {off : Int} (hd : decode cc pc = .ok (.if_icmp .eq off, 3)) (tgt : Nat) (ht : (pc : Int) + off = (tgt : Int)) (hx : x < 2 ^ 31) (hq : q < 2 ^ 31) (kt : x = q → Z g X nL k n ws lv st tgt) (kf : x ≠ q → Z g X nL k n ws lv st (pc + 3)) : Z g X nL k n ws lv (.int (tk q) :: .int (tk x) :: st) pc :=
  z_icmp_eq E hd tgt ht (fun h => kt ((tk_inj hx hq).mp h)) (fun h => kf (fun e => h ((tk_inj hx hq).mpr e)))
theorem z_icmpP_ne (E : Ob g X cc nL own) {x q : Nat} {off : Int} (hd : decode cc pc = .ok (.if_icmp .ne off, 3)) (tgt : Nat) (ht : (pc : Int) + off = (tgt : Int)) (hx : x < 2 ^ 31) (hq : q < 2 ^ 31) (kt : x ≠ q → Z g X nL k n ws lv st tgt) (kf : x = q → Z g X nL k n ws lv st (pc + 3)) : Z g X nL k n ws lv (.int (pm q) :: .int (pm x) :: st) pc :=
  z_icmp_ne E hd tgt ht (fun h => kt (fun e => h ((pm_inj hx hq).mpr e))) (fun h => kf ((pm_inj hx hq).mp h))
end ZT
