section ZMf
variable {g : GC} {X : XC} {cc : ByteArray} {nL k n pc : Nat} {own : String} {ws : va_W} {lv lv' : List (Nat × Value)} {st : List Value}
theorem z_ifP_ge (E : Ob g X cc nL own) {x : Nat} {off : Int} (hd : decode cc pc = .ok (.ifCond .ge off, 3)) (tgt : Nat) (ht : (pc : Int) + off = (tgt : Int)) (hx : x < 2 ^ 31) (kt : x ≠ 0 → Z g X nL k n ws lv st tgt) (kf : x = 0 → Z g X nL k n ws lv st (pc + 3)) : Z g X nL k n ws lv (.int (pm x) :: st) pc :=
  z_if_ge E hd tgt ht (fun h => kt (fun e => by
    subst e
    exact absurd h (by decide))) (fun h => kf (by
    cases x with
    | zero => rfl
    | succ y => exact absurd (Int32.not_lt.mp (nI_pos (by omega))) h))
end ZMf
/-- a letter of the text, one more; 0 behind its end -/
def ltF (t : Nat → Nat) (n i : Nat) : Nat := if i < n then t i + 1 else 0
theorem ltF_y {t : Nat → Nat} {n i : Nat} (h : i < n) : ltF t n i = t i + 1 := if_pos h
theorem ltF_n {t : Nat → Nat} {n i : Nat} (h : ¬ i < n) : ltF t n i = 0 := if_neg h
theorem ltF_lt {t : Nat → Nat} (ht : ∀ i, t i < 256) (n i : Nat) : ltF t n i ≤ 256 := by
  unfold ltF
  have := ht i
  split <;> omega
theorem ltF_32 {t : Nat → Nat} {n i : Nat} : ltF t n i = 33 ↔ (i < n ∧ t i = 32) := by
  unfold ltF
  split
  · constructor
    · intro h; exact ⟨by assumption, by omega⟩
    · intro h; omega
  · constructor
    · intro h; cases h
    · intro h; exact absurd h.1 (by assumption)
theorem wi_lt {t : Nat → Nat} (ht : ∀ i, t i < 256) {n i : Nat} : wi (pm (ltF t n i)) (nI 48) (nI 57) = true ↔ (i < n ∧ dg (t i) = true) := by
  have h1 := ht i
  by_cases h : i < n
  · rw [ltF_y h]
    show wi (nI (t i)) (nI 48) (nI 57) = true ↔ _
    rw [wi_dg (by omega)]
    exact ⟨fun q => ⟨h, q⟩, fun q => q.2⟩
  · rw [ltF_n h]
    constructor
    · intro q; exact absurd q (by decide)
    · intro q; exact absurd q.1 h
/-- the number of a token's first k digits, as the reference counts -/
def mvF (t : Nat → Nat) (p : Nat) : Nat → Nat
  | 0 => 0
  | k + 1 => if 99 < mvF t p k then mvF t p k else 10 * mvF t p k + t (p + k) - 48
theorem mvF_s (t : Nat → Nat) (p k : Nat) : mvF t p (k + 1) = if 99 < mvF t p k then mvF t p k else 10 * mvF t p k + t (p + k) - 48 := rfl
theorem mvF_le {t : Nat → Nat} {p : Nat} : ∀ k, (∀ j, j < k → dg (t (p + j)) = true) → mvF t p k ≤ 999
  | 0, _ => Nat.zero_le _
  | k + 1, h => by
    have ih := mvF_le k (fun j hj => h j (by omega))
    have := dg_b (h k (by omega))
    rw [mvF_s]
    split <;> omega
theorem mvF_2 {t : Nat → Nat} {p k : Nat} (h : ∀ j, j < k → dg (t (p + j)) = true) (hk : k = 1 ∨ k = 2) : mvF t p k = nbF t p k ∧ mvF t p k ≤ 99 := by
  rcases hk with rfl | rfl
  · have h0 := dg_b (h 0 (by omega))
    rw [mvF_s, if_neg (show ¬ 99 < mvF t p 0 from by show ¬ 99 < 0; omega)]
    show 10 * 0 + t (p + 0) - 48 = nbF t p 1 ∧ 10 * 0 + t (p + 0) - 48 ≤ 99
    unfold nbF
    rw [if_neg (by decide), if_pos rfl]
    rw [Nat.add_zero] at h0 ⊢
    omega
  · have h0 := dg_b (h 0 (by omega))
    have h1 := dg_b (h 1 (by omega))
    have e1 : mvF t p 1 = t p - 48 := by
      rw [mvF_s, if_neg (show ¬ 99 < mvF t p 0 from by show ¬ 99 < 0; omega)]
      show 10 * 0 + t (p + 0) - 48 = _
      rw [Nat.add_zero]; omega
    rw [Nat.add_zero] at h0
    rw [mvF_s, e1, if_neg (by omega)]
    unfold nbF
    rw [if_neg (by decide), if_neg (by decide)]
    omega
theorem mvF_3 {t : Nat → Nat} {p : Nat} (h48 : t p ≠ 48) : ∀ k, (∀ j, j < k → dg (t (p + j)) = true) → 3 ≤ k → 99 < mvF t p k
  | 0, _, h => absurd h (by decide)
  | k + 1, h, h3 => by
    rw [mvF_s]
    split
    · assumption
    · rename_i q
      rcases Nat.lt_or_ge k 3 with z | z
      · have e : k = 2 := by omega
        subst e
        have h0 := dg_b (h 0 (by omega))
        have h1 := dg_b (h 1 (by omega))
        have h2 := dg_b (h 2 (by omega))
        have e2 := (mvF_2 (t := t) (p := p) (k := 2) (fun j hj => h j (by omega)) (Or.inr rfl)).1
        unfold nbF at e2
        rw [if_neg (by decide), if_neg (by decide)] at e2
        rw [Nat.add_zero] at h0
        omega
      · exact absurd (mvF_3 h48 k (fun j hj => h j (by omega)) z) q
/-- the reference's tokens: 0 the end, 1 a letter, 2 a number, 3 ;, 4 wrong -/
def tkm (x : Nat) : Nat := if x = 1 then 0 else if x = 2 then 2 else if x = 62 then 3 else if x = 0 then 4 else 1
def avP (t : Nat → Nat) (n i x4 x5 x6 x7 : Nat) : Prop := x4 = lxN t n i ∧ x5 = tkm (lxT t n i) ∧ x6 = lxA t n i ∧ (lxT t n i = 2 → ∀ v, x7 = lxV t n i v) ∧ (3 ≤ lxT t n i → x7 = lxT t n i - 3) ∧ x7 ≤ 999
theorem av_end {t : Nat → Nat} {n i j x7 : Nat} (hj : j = sk t n i) (h : ¬ j < n) (h7 : x7 ≤ 999) : avP t n i j 0 j x7 := by
  have e : lxT t n i = 1 := by unfold lxT; rw [if_pos (by omega)]
  refine ⟨by unfold lxN; rw [if_pos (by omega)]; exact hj, by rw [e]; rfl, hj, fun q => ?_, fun q => ?_, h7⟩
  · rw [e] at q; cases q
  · rw [e] at q; omega
theorem av_num {t : Nat → Nat} {n i j e : Nat} (hj : j = sk t n i) (h : j < n) (hd : dg (t j) = true) (he : e = de t n j) (hje : j < e) (hdg : ∀ k, k < e - j → dg (t (j + k)) = true) {x5 : Nat} (h5 : x5 = if 99 < mvF t j (e - j) ∨ (t j = 48 ∧ 1 < e - j) then 4 else 2) : avP t n i e x5 j (mvF t j (e - j)) := by
  have hN : lxN t n i = e := by unfold lxN; rw [← hj, if_neg (by omega), if_pos hd, he]
  have hT : lxT t n i = nkF t j e := by unfold lxT; rw [← hj, if_neg (by omega), if_pos hd, he]
  have hV : ∀ v, lxV t n i v = nbF t j (e - j) := fun v => by unfold lxV; rw [← hj, he]
  have hc : (99 < mvF t j (e - j) ∨ (t j = 48 ∧ 1 < e - j)) ↔ (2 < e - j ∨ (1 < e - j ∧ t j = 48)) := by
    constructor
    · intro q
      rcases q with q | q
      · left
        rcases Nat.lt_or_ge 2 (e - j) with z | z
        · exact z
        · have := (mvF_2 hdg (by omega)).2; omega
      · exact Or.inr ⟨q.2, q.1⟩
    · intro q
      by_cases h48 : t j = 48
      · right
        rcases q with q | q
        · exact ⟨h48, by omega⟩
        · exact ⟨h48, q.1⟩
      · left
        rcases q with q | q
        · exact mvF_3 h48 _ hdg (by omega)
        · exact absurd q.2 h48
  have hle := mvF_le _ hdg
  unfold nkF at hT
  by_cases q : 2 < e - j ∨ (1 < e - j ∧ t j = 48)
  · rw [if_pos q] at hT
    rw [if_pos (hc.mpr q)] at h5
    exact ⟨hN.symm, by rw [hT, h5]; rfl, hj, fun z => absurd (hT.symm.trans z) (by decide), fun z => absurd (hT ▸ z) (by decide), hle⟩
  · rw [if_neg q] at hT
    rw [if_neg (fun z => q (hc.mp z))] at h5
    exact ⟨hN.symm, by rw [hT, h5]; rfl, hj, fun _ v => by rw [hV v]; exact (mvF_2 hdg (by omega)).1, fun z => by rw [hT] at z; omega, hle⟩
theorem av_oth {t : Nat → Nat} (ht : ∀ i, t i < 256) {n i j : Nat} (hj : j = sk t n i) (h : j < n) (hd : dg (t j) = false) {x5 : Nat} (h5 : x5 = if t j = 59 then 3 else if (tl (t j) = true) then 1 else 4) : avP t n i (j + 1) x5 j (t j) := by
  have hN : lxN t n i = j + 1 := by unfold lxN; rw [← hj, if_neg (by omega), if_neg (by rw [hd]; decide)]
  have hT : lxT t n i = if tl (t j) = true then t j + 3 else 0 := by unfold lxT; rw [← hj, if_neg (by omega), if_neg (by rw [hd]; decide)]
  have h1 := ht j
  refine ⟨hN.symm, ?_, hj, fun q => ?_, fun q => ?_, by omega⟩
  · rw [hT, h5]
    by_cases hl : tl (t j) = true
    · rw [if_pos hl, if_pos hl]
      unfold tkm
      by_cases h59 : t j = 59
      · rw [if_pos h59, if_neg (by omega), if_neg (by omega), if_pos (by omega)]
      · rw [if_neg h59, if_neg (by omega), if_neg (by omega), if_neg (by omega), if_neg (by omega)]
    · have h59 : t j ≠ 59 := fun e => hl (by rw [e]; decide)
      rw [if_neg hl, if_neg hl, if_neg h59]
      rfl
  · rw [hT] at q; split at q <;> omega
  · rw [hT] at q ⊢
    split at q
    · rename_i z; rw [if_pos z]; omega
    · omega

set_option maxHeartbeats 4000000 in
set_option maxRecDepth 100000 in
theorem c_X7_letterAt (g : GC) (a : Nat) (h : Nat → Nat) (M : NS) (i : Nat) (R : NS) (hrI : rdI R) (hX2 : mrX R M) (hi : i < 2 ^ 31) : Ct g yX7_letterAt cX7_letterAt 2 (some .int) 0 0 0 [.ref a, .int (nI i)] (wMod g a h M) (DI (pm (ltF (R.2 0) (R.1 1) i)) (wMod g a h M)) := by
  refine Ct.of (by decide) (Nat.le_of_ble_eq_true rfl) ?_
  intro X E Er hX _ hnm
  have E : Ob g X cX7_letterAt 2 RX7 := E
  have hr1 := hrI.2.2.1
  refine z_lve (lv' := [(0, .ref a), (1, .int (nI i))]) rfl ?_
  refine z_iload_n E dX7_letterAt_0 1 rfl rfl ?_
  refine z_aload_n E dX7_letterAt_1 0 rfl rfl ?_
  refine gt_X7_77 (v := .int (nI (M.1 3))) E dX7_letterAt_2 0 rfl rfl ?_
  refine z_topi (y := nI (R.1 1)) (congrArg nI (hX2.1)) ?_
  refine z_icmpN_ge E dX7_letterAt_5 17 (by decide) (by omega) (by omega) (fun c1 => ?_) (fun c1 => ?_)
  · refine z_iconst (v := (-1)) E dX7_letterAt_17 (by decide) ?_
    refine z_iret E Er dX7_letterAt_18 ?_
    exact ⟨by rw [ltF_n (by omega)]; rfl, rfl⟩
  · refine z_aload_n E dX7_letterAt_8 0 rfl rfl ?_
    refine gt_X7_7 (v := .ref (h 2)) E dX7_letterAt_9 0 rfl rfl ?_
    refine z_iload_n E dX7_letterAt_12 1 rfl rfl ?_
    refine z_ialdN (f := (M.2 2)) E dX7_letterAt_13 1 rfl (by omega) (by decide) ?_
    refine z_topi (y := nI ((R.2 0) i)) (congrArg nI (hX2.2 i (by omega))) ?_
    refine z_goto E dX7_letterAt_14 18 (by decide) ?_
    refine z_iret E Er dX7_letterAt_18 ?_
    exact ⟨by rw [ltF_y c1]; rfl, rfl⟩

set_option maxHeartbeats 4000000 in
set_option maxRecDepth 100000 in
theorem c_X7_isLetter (g : GC) (x : Nat) (hx : x < 256) : Ct g yX7_isLetter cX7_isLetter 1 (some .boolean) 0 0 0 [.int (nI x)] (([] : va_W)) (DI (bI (x == 112 || x == 114 || x == 115 || x == 103 || x == 110 || x == 108)) (([] : va_W))) := by
  refine Ct.of (by decide) (Nat.le_of_ble_eq_true rfl) ?_
  intro X E Er hX _ hnm
  have E : Ob g X cX7_isLetter 1 RX7 := E
  refine z_lve (lv' := [(0, .int (nI x))]) rfl ?_
  refine z_iload_n E dX7_isLetter_0 0 rfl rfl ?_
  refine z_bipush (v := (nI 112)) E dX7_isLetter_1 (by decide) ?_
  refine z_icmpN_eq E dX7_isLetter_3 36 (by decide) (by omega) (by decide) (fun c1 => ?_) (fun c1 => ?_)
  · refine z_iconst (v := (nI 1)) E dX7_isLetter_36 (by decide) ?_
    refine z_goto E dX7_isLetter_37 41 (by decide) ?_
    refine z_zret E Er dX7_isLetter_41 (by decide) ?_
    exact ⟨bz1 (by subst c1; decide), rfl⟩
  · refine z_iload_n E dX7_isLetter_6 0 rfl rfl ?_
    refine z_bipush (v := (nI 114)) E dX7_isLetter_7 (by decide) ?_
    refine z_icmpN_eq E dX7_isLetter_9 36 (by decide) (by omega) (by decide) (fun c2 => ?_) (fun c2 => ?_)
    · refine z_iconst (v := (nI 1)) E dX7_isLetter_36 (by decide) ?_
      refine z_goto E dX7_isLetter_37 41 (by decide) ?_
      refine z_zret E Er dX7_isLetter_41 (by decide) ?_
      exact ⟨bz1 (by subst c2; decide), rfl⟩
    · refine z_iload_n E dX7_isLetter_12 0 rfl rfl ?_
      refine z_bipush (v := (nI 115)) E dX7_isLetter_13 (by decide) ?_
      refine z_icmpN_eq E dX7_isLetter_15 36 (by decide) (by omega) (by decide) (fun c3 => ?_) (fun c3 => ?_)
      · refine z_iconst (v := (nI 1)) E dX7_isLetter_36 (by decide) ?_
        refine z_goto E dX7_isLetter_37 41 (by decide) ?_
        refine z_zret E Er dX7_isLetter_41 (by decide) ?_
        exact ⟨bz1 (by subst c3; decide), rfl⟩
      · refine z_iload_n E dX7_isLetter_18 0 rfl rfl ?_
        refine z_bipush (v := (nI 103)) E dX7_isLetter_19 (by decide) ?_
        refine z_icmpN_eq E dX7_isLetter_21 36 (by decide) (by omega) (by decide) (fun c4 => ?_) (fun c4 => ?_)
        · refine z_iconst (v := (nI 1)) E dX7_isLetter_36 (by decide) ?_
          refine z_goto E dX7_isLetter_37 41 (by decide) ?_
          refine z_zret E Er dX7_isLetter_41 (by decide) ?_
          exact ⟨bz1 (by subst c4; decide), rfl⟩
        · refine z_iload_n E dX7_isLetter_24 0 rfl rfl ?_
          refine z_bipush (v := (nI 110)) E dX7_isLetter_25 (by decide) ?_
          refine z_icmpN_eq E dX7_isLetter_27 36 (by decide) (by omega) (by decide) (fun c5 => ?_) (fun c5 => ?_)
          · refine z_iconst (v := (nI 1)) E dX7_isLetter_36 (by decide) ?_
            refine z_goto E dX7_isLetter_37 41 (by decide) ?_
            refine z_zret E Er dX7_isLetter_41 (by decide) ?_
            exact ⟨bz1 (by subst c5; decide), rfl⟩
          · refine z_iload_n E dX7_isLetter_30 0 rfl rfl ?_
            refine z_bipush (v := (nI 108)) E dX7_isLetter_31 (by decide) ?_
            refine z_icmpN_ne E dX7_isLetter_33 40 (by decide) (by omega) (by decide) (fun c6 => ?_) (fun c6 => ?_)
            · refine z_iconst (v := (nI 0)) E dX7_isLetter_40 (by decide) ?_
              refine z_zret E Er dX7_isLetter_41 (by decide) ?_
              exact ⟨bz0 (by simp only [Bool.or_eq_false_iff, beq_eq_false_iff_ne]; exact ⟨⟨⟨⟨⟨c1, c2⟩, c3⟩, c4⟩, c5⟩, c6⟩), rfl⟩
            · refine z_iconst (v := (nI 1)) E dX7_isLetter_36 (by decide) ?_
              refine z_goto E dX7_isLetter_37 41 (by decide) ?_
              refine z_zret E Er dX7_isLetter_41 (by decide) ?_
              exact ⟨bz1 (by subst c6; decide), rfl⟩

theorem tl_let {x : Nat} (h : x ≠ 59) : (x == 112 || x == 114 || x == 115 || x == 103 || x == 110 || x == 108) = tl x := by
  have h0 : (x == 59) = false := by simp [h]
  unfold tl
  rw [h0]
  cases (x == 112) <;> cases (x == 114) <;> cases (x == 115) <;> cases (x == 103) <;> cases (x == 110) <;> cases (x == 108) <;> rfl

set_option maxHeartbeats 4000000 in
set_option maxRecDepth 100000 in
theorem l_mav1 (g : GC) (a : Nat) (h : Nat → Nat) (M : NS) (R : NS) (i0 : Nat) (hrI : rdI R) (hX2 : mrX R M) (h4i : M.1 4 = i0) (hi0 : i0 ≤ R.1 1) (h7 : M.1 7 ≤ 999) (X : XC) (E : Ob g X cX7_advances 2 RX7) (hX : X.2.2.1 = zR 1 0 0) (K : ∀ (j : Nat), (j ≤ R.1 1) → (j = sk (R.2 0) (R.1 1) i0) → Z g X 2 0 0 (wMod g a h (sF M 4 j)) [(0, .ref a)] [] 26) : ∀ (n : Nat) (j : Nat), (j ≤ R.1 1) → (sk (R.2 0) (R.1 1) j = sk (R.2 0) (R.1 1) i0) → (R.1 1 < j + n) → Z g X 2 0 0 (wMod g a h (sF M 4 j)) [(0, .ref a)] [] 0 := by
  intro n
  induction n with
  | zero =>
    intro j hj hs hf
    have ht := hrI.2.1
    have hr1 := hrI.2.2.1
    have hlt := ltF_lt hrI.2.1 (R.1 1) j
    exfalso; omega
  | succ n ih =>
    intro j hj hs hf
    have ht := hrI.2.1
    have hr1 := hrI.2.2.1
    have hlt := ltF_lt hrI.2.1 (R.1 1) j
    refine z_aload_n E dX7_advances_0 0 rfl rfl ?_
    refine z_aload_n E dX7_advances_1 0 rfl rfl ?_
    refine gt_X7_80 (v := .int (nI j)) E dX7_advances_2 0 rfl rfl ?_
    refine z_ro0 E (rV E hX (c_X7_letterAt g a h (sF M 4 j) j R hrI hX2 (by omega)) mw_X7_letterAt ml_X7_83 dX7_advances_5 (Nat.le_of_ble_eq_true rfl) ⟨(Nat.le_of_ble_eq_true rfl), (Nat.le_of_ble_eq_true rfl)⟩ rfl rfl (Nat.le_of_ble_eq_true rfl) 0 rfl rfl) ?_
    refine z_bipush (v := (nI 32)) E dX7_advances_8 (by decide) ?_
    refine z_icmpP_ne (q := 33) E dX7_advances_10 26 (by decide) (by have := ltF_lt hrI.2.1 (R.1 1) j; omega) (by decide) (fun c1 => ?_) (fun c1 => ?_)
    · exact K j hj (by rw [← hs, sk_n (fun q => c1 (ltF_32.mpr q))])
    · refine z_aload_n E dX7_advances_13 0 rfl rfl ?_
      refine z_dup E dX7_advances_14 rfl ?_
      refine gt_X7_80 (v := .int (nI j)) E dX7_advances_15 0 rfl rfl ?_
      refine z_iconst (v := (nI 1)) E dX7_advances_18 (by decide) ?_
      refine z_iaddN E dX7_advances_19 ?_
      refine pt_X7_80 (x := nI (j + 1)) (ws' := wMod g a h (sF M 4 (j + 1))) E dX7_advances_20 0 rfl (Nat.le_of_ble_eq_true rfl) rfl ?_
      refine z_goto E dX7_advances_23 0 (by decide) ?_
      exact ih (j + 1) (by have := (ltF_32.mp c1).1; omega) (by rw [← sk_y (ltF_32.mp c1).1 (ltF_32.mp c1).2]; exact hs) (by omega)

set_option maxHeartbeats 4000000 in
set_option maxRecDepth 100000 in
theorem l_mav2 (g : GC) (a : Nat) (h : Nat → Nat) (M : NS) (R : NS) (i0 : Nat) (hrI : rdI R) (hX2 : mrX R M) (h4i : M.1 4 = i0) (hi0 : i0 ≤ R.1 1) (h7 : M.1 7 ≤ 999) (X : XC) (E : Ob g X cX7_advances 2 RX7) (hX : X.2.2.1 = zR 1 0 0) (j : Nat) (K : ∀ (e : Nat) (v : Nat), (j ≤ e ∧ e ≤ R.1 1) → (e = de (R.2 0) (R.1 1) j) → (v = mvF (R.2 0) j (e - j)) → (∀ k, k < e - j → dg (R.2 0 (j + k)) = true) → Z g X 2 0 0 (wMod g a h (sF (sF (sF M 4 e) 6 j) 7 v)) [(0, .ref a), (1, .int (nI (R.2 0 j)))] [] 141) : ∀ (n : Nat) (e : Nat) (v : Nat), (j ≤ e ∧ e ≤ R.1 1) → (de (R.2 0) (R.1 1) e = de (R.2 0) (R.1 1) j) → (v = mvF (R.2 0) j (e - j)) → (∀ k, k < e - j → dg (R.2 0 (j + k)) = true) → (R.1 1 < e + n) → Z g X 2 0 0 (wMod g a h (sF (sF (sF M 4 e) 6 j) 7 v)) [(0, .ref a), (1, .int (nI (R.2 0 j)))] [] 71 := by
  intro n
  induction n with
  | zero =>
    intro e v he hde hv hdg hf
    have ht := hrI.2.1
    have hr1 := hrI.2.2.1
    have hvl := mvF_le _ hdg
    have hlt := ltF_lt hrI.2.1 (R.1 1) e
    have he1 := he.1
    have he2 := he.2
    exfalso; omega
  | succ n ih =>
    intro e v he hde hv hdg hf
    have ht := hrI.2.1
    have hr1 := hrI.2.2.1
    have hvl := mvF_le _ hdg
    have hlt := ltF_lt hrI.2.1 (R.1 1) e
    have he1 := he.1
    have he2 := he.2
    refine z_aload_n E dX7_advances_71 0 rfl rfl ?_
    refine z_aload_n E dX7_advances_72 0 rfl rfl ?_
    refine gt_X7_80 (v := .int (nI e)) E dX7_advances_73 0 rfl rfl ?_
    refine z_ro0 E (rV E hX (c_X7_letterAt g a h (sF (sF (sF M 4 e) 6 j) 7 v) e R hrI hX2 (by omega)) mw_X7_letterAt ml_X7_83 dX7_advances_76 (Nat.le_of_ble_eq_true rfl) ⟨(Nat.le_of_ble_eq_true rfl), (Nat.le_of_ble_eq_true rfl)⟩ rfl rfl (Nat.le_of_ble_eq_true rfl) 0 rfl rfl) ?_
    refine z_bipush (v := (nI 48)) E dX7_advances_79 (by decide) ?_
    refine z_bipush (v := (nI 57)) E dX7_advances_81 (by decide) ?_
    refine z_se E (rS E hX (c_X7_in g (pm (ltF (R.2 0) (R.1 1) e)) (nI 48) (nI 57)) mw_X7_in ms_X7_in ml_X7_73 dX7_advances_83 (Nat.le_of_ble_eq_true rfl) ⟨(Nat.le_of_ble_eq_true rfl), (Nat.le_of_ble_eq_true rfl)⟩ rfl rfl (Nat.le_of_ble_eq_true rfl)) ?_
    refine z_ifB_eq E dX7_advances_86 141 (by decide) (fun c1 => ?_) (fun c1 => ?_)
    · exact K e v he (by rw [← hde, de_n (fun q => by rw [(wi_lt ht).mpr q] at c1; cases c1)]) hv hdg
    · have hw := (wi_lt ht).mp c1
      have hdb := dg_b hw.2
      refine z_aload_n E dX7_advances_89 0 rfl rfl ?_
      refine z_aload_n E dX7_advances_90 0 rfl rfl ?_
      refine gt_X7_93 (v := .int (nI v)) E dX7_advances_91 0 rfl rfl ?_
      refine z_bipush (v := (nI 99)) E dX7_advances_94 (by decide) ?_
      refine z_icmpN_le E dX7_advances_96 106 (by decide) (by omega) (by decide) (fun c2 => ?_) (fun c2 => ?_)
      · refine z_bipush (v := (nI 10)) E dX7_advances_106 (by decide) ?_
        refine z_aload_n E dX7_advances_108 0 rfl rfl ?_
        refine gt_X7_93 (v := .int (nI v)) E dX7_advances_109 0 rfl rfl ?_
        refine z_imulN E dX7_advances_112 ?_
        refine z_aload_n E dX7_advances_113 0 rfl rfl ?_
        refine z_aload_n E dX7_advances_114 0 rfl rfl ?_
        refine gt_X7_80 (v := .int (nI e)) E dX7_advances_115 0 rfl rfl ?_
        refine z_ro0 E (rV E hX (c_X7_letterAt g a h (sF (sF (sF M 4 e) 6 j) 7 v) e R hrI hX2 (by omega)) mw_X7_letterAt ml_X7_83 dX7_advances_118 (Nat.le_of_ble_eq_true rfl) ⟨(Nat.le_of_ble_eq_true rfl), (Nat.le_of_ble_eq_true rfl)⟩ rfl rfl (Nat.le_of_ble_eq_true rfl) 0 rfl rfl) ?_
        refine z_topi (y := nI (R.2 0 e)) (by rw [ltF_y hw.1]; rfl) ?_
        refine z_iaddN E dX7_advances_121 ?_
        refine z_bipush (v := (nI 48)) E dX7_advances_122 (by decide) ?_
        refine z_isubN E dX7_advances_124 (by omega) ?_
        refine pt_X7_93 (x := nI (((10 * v) + (R.2 0 e)) - 48)) (ws' := wMod g a h (sF (sF (sF M 4 e) 6 j) 7 (((10 * v) + (R.2 0 e)) - 48))) E dX7_advances_125 0 rfl (Nat.le_of_ble_eq_true rfl) rfl ?_
        refine z_aload_n E dX7_advances_128 0 rfl rfl ?_
        refine z_dup E dX7_advances_129 rfl ?_
        refine gt_X7_80 (v := .int (nI e)) E dX7_advances_130 0 rfl rfl ?_
        refine z_iconst (v := (nI 1)) E dX7_advances_133 (by decide) ?_
        refine z_iaddN E dX7_advances_134 ?_
        refine pt_X7_80 (x := nI (e + 1)) (ws' := wMod g a h (sF (sF (sF M 4 (e + 1)) 6 j) 7 (((10 * v) + (R.2 0 e)) - 48))) E dX7_advances_135 0 rfl (Nat.le_of_ble_eq_true rfl) rfl ?_
        refine z_goto E dX7_advances_138 71 (by decide) ?_
        exact ih (e + 1) (((10 * v) + (R.2 0 e)) - 48) (⟨by omega, by have := hw.1; omega⟩) (by rw [← de_y hw.1 hw.2]; exact hde) (by rw [show e + 1 - j = (e - j) + 1 by omega, mvF_s, ← hv, if_neg (by omega), show j + (e - j) = e by omega]) (fun k hk => by rcases Nat.lt_or_ge k (e - j) with q | q; (exact hdg k q); (rw [show j + k = e by omega]; exact hw.2)) (by omega)
      · refine z_aload_n E dX7_advances_99 0 rfl rfl ?_
        refine gt_X7_93 (v := .int (nI v)) E dX7_advances_100 0 rfl rfl ?_
        refine z_goto E dX7_advances_103 125 (by decide) ?_
        refine pt_X7_93 (x := nI v) (ws' := wMod g a h (sF (sF (sF M 4 e) 6 j) 7 v)) E dX7_advances_125 0 rfl (Nat.le_of_ble_eq_true rfl) rfl ?_
        refine z_aload_n E dX7_advances_128 0 rfl rfl ?_
        refine z_dup E dX7_advances_129 rfl ?_
        refine gt_X7_80 (v := .int (nI e)) E dX7_advances_130 0 rfl rfl ?_
        refine z_iconst (v := (nI 1)) E dX7_advances_133 (by decide) ?_
        refine z_iaddN E dX7_advances_134 ?_
        refine pt_X7_80 (x := nI (e + 1)) (ws' := wMod g a h (sF (sF (sF M 4 (e + 1)) 6 j) 7 v)) E dX7_advances_135 0 rfl (Nat.le_of_ble_eq_true rfl) rfl ?_
        refine z_goto E dX7_advances_138 71 (by decide) ?_
        exact ih (e + 1) v (⟨by omega, by have := hw.1; omega⟩) (by rw [← de_y hw.1 hw.2]; exact hde) (by rw [show e + 1 - j = (e - j) + 1 by omega, mvF_s, ← hv, if_pos c2]) (fun k hk => by rcases Nat.lt_or_ge k (e - j) with q | q; (exact hdg k q); (rw [show j + k = e by omega]; exact hw.2)) (by omega)

theorem f_same {M : NS} {k x : Nat} (e : M.1 k = x) : sF M k x = M := by
  refine Prod.ext ?_ rfl
  funext j
  show va_up M.1 k x j = M.1 j
  unfold va_up
  split
  · rename_i q; rw [q, e]
  · rfl
theorem av_same {g : GC} {a : Nat} {h : Nat → Nat} {M : NS} {x : Nat} (e : M.1 4 = x) : wMod g a h M = wMod g a h (sF M 4 x) := by rw [f_same e]

set_option maxHeartbeats 4000000 in
set_option maxRecDepth 100000 in
theorem c_X7_advances (g : GC) (a : Nat) (h : Nat → Nat) (M : NS) (R : NS) (i0 : Nat) (hrI : rdI R) (hX2 : mrX R M) (h4i : M.1 4 = i0) (hi0 : i0 ≤ R.1 1) (h7 : M.1 7 ≤ 999) : Ct g yX7_advances cX7_advances 2 none 1 0 0 [.ref a] (wMod g a h M) (QV (fun w_ => ∃ M2 : NS, w_ = wMod g a h M2 ∧ (∃ x4 x5 x6 x7, M2 = sF (sF (sF (sF M 4 x4) 5 x5) 6 x6) 7 x7 ∧ avP (R.2 0) (R.1 1) i0 x4 x5 x6 x7))) := by
  refine Ct.of (by decide) (Nat.le_of_ble_eq_true rfl) ?_
  intro X E Er hX _ hnm
  have E : Ob g X cX7_advances 2 RX7 := E
  have ht := hrI.2.1
  have hr1 := hrI.2.2.1
  refine z_lve (lv' := [(0, .ref a)]) rfl ?_
  refine z_ws (ws' := wMod g a h (sF M 4 i0)) (av_same h4i) ?_
  refine l_mav1 g a h M R i0 hrI hX2 h4i hi0 h7 X E hX (fun j hj hs => ?_) (R.1 1 + 1) i0 hi0 rfl (by omega)
  refine z_aload_n E dX7_advances_26 0 rfl rfl ?_
  refine z_aload_n E dX7_advances_27 0 rfl rfl ?_
  refine gt_X7_80 (v := .int (nI j)) E dX7_advances_28 0 rfl rfl ?_
  refine pt_X7_87 (x := nI j) (ws' := wMod g a h (sF (sF M 4 j) 6 j)) E dX7_advances_31 0 rfl (Nat.le_of_ble_eq_true rfl) rfl ?_
  refine z_aload_n E dX7_advances_34 0 rfl rfl ?_
  refine z_aload_n E dX7_advances_35 0 rfl rfl ?_
  refine gt_X7_80 (v := .int (nI j)) E dX7_advances_36 0 rfl rfl ?_
  refine z_ro0 E (rV E hX (c_X7_letterAt g a h (sF (sF M 4 j) 6 j) j R hrI hX2 (by omega)) mw_X7_letterAt ml_X7_83 dX7_advances_39 (Nat.le_of_ble_eq_true rfl) ⟨(Nat.le_of_ble_eq_true rfl), (Nat.le_of_ble_eq_true rfl)⟩ rfl rfl (Nat.le_of_ble_eq_true rfl) 0 rfl rfl) ?_
  refine z_istore_n (lv' := [(0, .ref a), (1, .int (pm (ltF (R.2 0) (R.1 1) j)))]) E dX7_advances_42 1 rfl (by decide) rfl ?_
  have hlt := ltF_lt hrI.2.1 (R.1 1) j
  refine z_iload_n E dX7_advances_43 1 rfl rfl ?_
  refine z_ifP_ge E dX7_advances_44 55 (by decide) (by omega) (fun c1 => ?_) (fun c1 => ?_)
  · have hjn : j < R.1 1 := by rcases Nat.lt_or_ge j (R.1 1) with q | q; (exact q); (exact absurd (ltF_n (Nat.not_lt.mpr q)) c1)
    have htj := ht j
    refine z_lve (lv' := [(0, .ref a), (1, .int (nI (R.2 0 j)))]) (by rw [ltF_y hjn]; rfl) ?_
    refine z_iload_n E dX7_advances_55 1 rfl rfl ?_
    refine z_bipush (v := (nI 48)) E dX7_advances_56 (by decide) ?_
    refine z_bipush (v := (nI 57)) E dX7_advances_58 (by decide) ?_
    refine z_se E (rS E hX (c_X7_in g (nI (R.2 0 j)) (nI 48) (nI 57)) mw_X7_in ms_X7_in ml_X7_73 dX7_advances_60 (Nat.le_of_ble_eq_true rfl) ⟨(Nat.le_of_ble_eq_true rfl), (Nat.le_of_ble_eq_true rfl)⟩ rfl rfl (Nat.le_of_ble_eq_true rfl)) ?_
    refine z_ifB_eq E dX7_advances_63 181 (by decide) (fun c2 => ?_) (fun c2 => ?_)
    · have hdj : dg (R.2 0 j) = false := by rw [wi_dg (by omega)] at c2; exact c2
      refine z_aload_n E dX7_advances_181 0 rfl rfl ?_
      refine z_dup E dX7_advances_182 rfl ?_
      refine gt_X7_80 (v := .int (nI j)) E dX7_advances_183 0 rfl rfl ?_
      refine z_iconst (v := (nI 1)) E dX7_advances_186 (by decide) ?_
      refine z_iaddN E dX7_advances_187 ?_
      refine pt_X7_80 (x := nI (j + 1)) (ws' := wMod g a h (sF (sF M 4 (j + 1)) 6 j)) E dX7_advances_188 0 rfl (Nat.le_of_ble_eq_true rfl) rfl ?_
      refine z_aload_n E dX7_advances_191 0 rfl rfl ?_
      refine z_iload_n E dX7_advances_192 1 rfl rfl ?_
      refine pt_X7_93 (x := nI (R.2 0 j)) (ws' := wMod g a h (sF (sF (sF M 4 (j + 1)) 6 j) 7 (R.2 0 j))) E dX7_advances_193 0 rfl (Nat.le_of_ble_eq_true rfl) rfl ?_
      refine z_aload_n E dX7_advances_196 0 rfl rfl ?_
      refine z_iload_n E dX7_advances_197 1 rfl rfl ?_
      refine z_bipush (v := (nI 59)) E dX7_advances_198 (by decide) ?_
      refine z_icmpN_ne E dX7_advances_200 207 (by decide) (by omega) (by decide) (fun c3 => ?_) (fun c3 => ?_)
      · refine z_iload_n E dX7_advances_207 1 rfl rfl ?_
        refine z_se E (rS E hX (c_X7_isLetter g (R.2 0 j) (by omega)) mw_X7_isLetter ms_X7_isLetter ml_X7_96 dX7_advances_208 (Nat.le_of_ble_eq_true rfl) ⟨(Nat.le_of_ble_eq_true rfl), (Nat.le_of_ble_eq_true rfl)⟩ rfl rfl (Nat.le_of_ble_eq_true rfl)) ?_
        refine z_ifB_eq E dX7_advances_211 218 (by decide) (fun c4 => ?_) (fun c4 => ?_)
        · refine z_iconst (v := (nI 4)) E dX7_advances_218 (by decide) ?_
          refine pt_X7_90 (x := nI 4) (ws' := wMod g a h (sF (sF (sF (sF M 4 (j + 1)) 5 4) 6 j) 7 (R.2 0 j))) E dX7_advances_219 0 rfl (Nat.le_of_ble_eq_true rfl) rfl ?_
          refine z_vret E Er dX7_advances_222 ?_
          exact ⟨rfl, _, rfl, j + 1, 4, j, R.2 0 j, rfl, av_oth ht hs hjn hdj (by rw [if_neg c3, if_neg (by rw [tl_let c3] at c4; rw [c4]; decide)])⟩
        · refine z_iconst (v := (nI 1)) E dX7_advances_214 (by decide) ?_
          refine z_goto E dX7_advances_215 219 (by decide) ?_
          refine pt_X7_90 (x := nI 1) (ws' := wMod g a h (sF (sF (sF (sF M 4 (j + 1)) 5 1) 6 j) 7 (R.2 0 j))) E dX7_advances_219 0 rfl (Nat.le_of_ble_eq_true rfl) rfl ?_
          refine z_vret E Er dX7_advances_222 ?_
          exact ⟨rfl, _, rfl, j + 1, 1, j, R.2 0 j, rfl, av_oth ht hs hjn hdj (by rw [if_neg c3, if_pos (by rw [tl_let c3] at c4; exact c4)])⟩
      · refine z_iconst (v := (nI 3)) E dX7_advances_203 (by decide) ?_
        refine z_goto E dX7_advances_204 219 (by decide) ?_
        refine pt_X7_90 (x := nI 3) (ws' := wMod g a h (sF (sF (sF (sF M 4 (j + 1)) 5 3) 6 j) 7 (R.2 0 j))) E dX7_advances_219 0 rfl (Nat.le_of_ble_eq_true rfl) rfl ?_
        refine z_vret E Er dX7_advances_222 ?_
        exact ⟨rfl, _, rfl, j + 1, 3, j, R.2 0 j, rfl, av_oth ht hs hjn hdj (by rw [if_pos c3])⟩
    · refine z_aload_n E dX7_advances_66 0 rfl rfl ?_
      refine z_iconst (v := (nI 0)) E dX7_advances_67 (by decide) ?_
      refine pt_X7_93 (x := nI 0) (ws' := wMod g a h (sF (sF (sF M 4 j) 6 j) 7 0)) E dX7_advances_68 0 rfl (Nat.le_of_ble_eq_true rfl) rfl ?_
      have hdj : dg (R.2 0 j) = true := by rw [wi_dg (by omega)] at c2; exact c2
      refine l_mav2 g a h M R i0 hrI hX2 h4i hi0 h7 X E hX j (fun e v he hde hv hdg => ?_) (R.1 1 + 1) j 0 ⟨Nat.le_refl _, hj⟩ rfl (by rw [Nat.sub_self]; rfl) (fun k hk => absurd hk (by omega)) (by omega)
      have hvl := mvF_le _ hdg
      have hje : j < e := by have := de_y hjn hdj; have := de_ge (R.2 0) (R.1 1) (j + 1); omega
      refine z_aload_n E dX7_advances_141 0 rfl rfl ?_
      refine z_aload_n E dX7_advances_142 0 rfl rfl ?_
      refine gt_X7_93 (v := .int (nI v)) E dX7_advances_143 0 rfl rfl ?_
      refine z_bipush (v := (nI 99)) E dX7_advances_146 (by decide) ?_
      refine z_icmpN_gt E dX7_advances_148 170 (by decide) (by omega) (by decide) (fun c3 => ?_) (fun c3 => ?_)
      · refine z_iconst (v := (nI 4)) E dX7_advances_170 (by decide) ?_
        refine z_goto E dX7_advances_171 175 (by decide) ?_
        refine pt_X7_90 (x := nI 4) (ws' := wMod g a h (sF (sF (sF (sF M 4 e) 5 4) 6 j) 7 v)) E dX7_advances_175 0 rfl (Nat.le_of_ble_eq_true rfl) rfl ?_
        refine z_goto E dX7_advances_178 222 (by decide) ?_
        refine z_vret E Er dX7_advances_222 ?_
        exact ⟨rfl, _, rfl, e, 4, j, v, rfl, by rw [hv]; exact av_num hs hjn hdj hde hje hdg (by rw [← hv]; exact (if_pos (Or.inl (by omega))).symm)⟩
      · refine z_iload_n E dX7_advances_151 1 rfl rfl ?_
        refine z_bipush (v := (nI 48)) E dX7_advances_152 (by decide) ?_
        refine z_icmpN_ne E dX7_advances_154 174 (by decide) (by omega) (by decide) (fun c4 => ?_) (fun c4 => ?_)
        · refine z_iconst (v := (nI 2)) E dX7_advances_174 (by decide) ?_
          refine pt_X7_90 (x := nI 2) (ws' := wMod g a h (sF (sF (sF (sF M 4 e) 5 2) 6 j) 7 v)) E dX7_advances_175 0 rfl (Nat.le_of_ble_eq_true rfl) rfl ?_
          refine z_goto E dX7_advances_178 222 (by decide) ?_
          refine z_vret E Er dX7_advances_222 ?_
          exact ⟨rfl, _, rfl, e, 2, j, v, rfl, by rw [hv]; exact av_num hs hjn hdj hde hje hdg (by rw [← hv]; exact (if_neg (by omega)).symm)⟩
        · refine z_aload_n E dX7_advances_157 0 rfl rfl ?_
          refine gt_X7_80 (v := .int (nI e)) E dX7_advances_158 0 rfl rfl ?_
          refine z_aload_n E dX7_advances_161 0 rfl rfl ?_
          refine gt_X7_87 (v := .int (nI j)) E dX7_advances_162 0 rfl rfl ?_
          refine z_isubN E dX7_advances_165 (by omega) ?_
          refine z_iconst (v := (nI 1)) E dX7_advances_166 (by decide) ?_
          refine z_icmpN_le E dX7_advances_167 174 (by decide) (by omega) (by decide) (fun c5 => ?_) (fun c5 => ?_)
          · refine z_iconst (v := (nI 2)) E dX7_advances_174 (by decide) ?_
            refine pt_X7_90 (x := nI 2) (ws' := wMod g a h (sF (sF (sF (sF M 4 e) 5 2) 6 j) 7 v)) E dX7_advances_175 0 rfl (Nat.le_of_ble_eq_true rfl) rfl ?_
            refine z_goto E dX7_advances_178 222 (by decide) ?_
            refine z_vret E Er dX7_advances_222 ?_
            exact ⟨rfl, _, rfl, e, 2, j, v, rfl, by rw [hv]; exact av_num hs hjn hdj hde hje hdg (by rw [← hv]; exact (if_neg (by omega)).symm)⟩
          · refine z_iconst (v := (nI 4)) E dX7_advances_170 (by decide) ?_
            refine z_goto E dX7_advances_171 175 (by decide) ?_
            refine pt_X7_90 (x := nI 4) (ws' := wMod g a h (sF (sF (sF (sF M 4 e) 5 4) 6 j) 7 v)) E dX7_advances_175 0 rfl (Nat.le_of_ble_eq_true rfl) rfl ?_
            refine z_goto E dX7_advances_178 222 (by decide) ?_
            refine z_vret E Er dX7_advances_222 ?_
            exact ⟨rfl, _, rfl, e, 4, j, v, rfl, by rw [hv]; exact av_num hs hjn hdj hde hje hdg (by rw [← hv]; exact (if_pos (Or.inr ⟨c4, by omega⟩)).symm)⟩
  · have hjn : ¬ j < R.1 1 := fun q => by rw [ltF_y q] at c1; cases c1
    refine z_aload_n E dX7_advances_47 0 rfl rfl ?_
    refine z_iconst (v := (nI 0)) E dX7_advances_48 (by decide) ?_
    refine pt_X7_90 (x := nI 0) (ws' := wMod g a h (sF (sF (sF M 4 j) 5 0) 6 j)) E dX7_advances_49 0 rfl (Nat.le_of_ble_eq_true rfl) rfl ?_
    refine z_goto E dX7_advances_52 222 (by decide) ?_
    refine z_vret E Er dX7_advances_222 ?_
    exact ⟨rfl, _, rfl, j, 0, j, M.1 7, (f_same (k := 7) rfl).symm, av_end hs hjn h7⟩
