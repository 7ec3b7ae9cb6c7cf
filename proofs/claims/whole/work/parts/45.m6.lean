def blk (f : Nat → Nat) (k : Nat) (P : NS) : Prop := (∀ j, j < 5 → f (17 * k + j) = P.1 j) ∧ ∀ r, r < 12 → f (17 * k + (5 + r)) = P.2 5 r
def rix (S : NS) (k : Nat) : Nat := (S.1 1 + 10 - S.1 2 + k) % 10
def mrU (S : NS) (U : Nat → NS) (M : NS) : Prop := M.1 18 = S.1 2 ∧ ∀ k, k < S.1 2 → blk (M.2 17) k (U (rix S k))
/-- nothing changed but NOW, what may be undone, and what is made anew by each call -/
def mQ (M M2 : NS) : Prop := (∀ k, 0 < k → k < 24 → k ≠ 18 → M2.1 k = M.1 k) ∧ ∀ i, i < 24 → i ≠ 14 → i ≠ 17 → M2.2 i = M.2 i
theorem mQ.rf (M : NS) : mQ M M := ⟨fun _ _ _ _ => rfl, fun _ _ _ _ => rfl⟩
theorem mQ.F {M X : NS} (h : mQ M X) {k v : Nat} (hk : k = 0 ∨ 24 ≤ k ∨ k = 18) : mQ M (sF X k v) := ⟨fun j h1 h2 h3 => by
  show va_up X.1 k v j = _
  unfold va_up
  rw [if_neg (by omega)]
  exact h.1 j h1 h2 h3, h.2⟩
theorem mQ.A {M X : NS} (h : mQ M X) {k : Nat} {f : Nat → Nat} (hk : 24 ≤ k ∨ k = 14 ∨ k = 17) : mQ M (sA X k f) := ⟨h.1, fun j h1 h2 h3 => by
  show va_up X.2 k f j = _
  unfold va_up
  rw [if_neg (by omega)]
  exact h.2 j h1 h2 h3⟩
section ZMd
variable {g : GC} {X : XC} {cc : ByteArray} {nL k n pc : Nat} {own : String} {ws : va_W} {lv lv' : List (Nat × Value)} {st : List Value}
theorem z_icmpB0_ne (E : Ob g X cc nL own) {b : Bool} {off : Int} (hd : decode cc pc = .ok (.if_icmp .ne off, 3)) (tgt : Nat) (ht : (pc : Int) + off = (tgt : Int)) (kt : b = true → Z g X nL k n ws lv st tgt) (kf : b = false → Z g X nL k n ws lv st (pc + 3)) : Z g X nL k n ws lv (.int (nI 0) :: .int (bI b) :: st) pc :=
  z_icmp_ne E hd tgt ht (fun h => kt (by cases b; exact absurd rfl h; rfl)) (fun h => kf (by cases b; rfl; exact absurd h (by decide)))
end ZMd
theorem mrU_note {S : NS} {U : Nat → NS} {M P : NS} {f : Nat → Nat} {n : Nat} (h1 : S.1 1 < 10) (h2 : S.1 2 ≤ 10) (hU : mrU S U M) (hN : mrP P M) (hn : n = if S.1 2 = 10 then 9 else S.1 2) (hA : ∀ j, j < 17 * n → f j = if S.1 2 = 10 then M.2 17 (j + 17) else M.2 17 j) (hB : ∀ k, k < 17 → f (17 * n + k) = M.2 14 k) {M2 : NS} (e1 : M2.1 18 = n + 1) (e2 : M2.2 17 = f) : mrU (rmS S) (va_up U (S.1 1) P) M2 := by
  have hk : (rmS S).1 2 = n + 1 := by
    show min (S.1 2 + 1) 10 = n + 1
    split at hn <;> omega
  have hx : (rmS S).1 1 = if S.1 1 + 1 < 10 then S.1 1 + 1 else 0 := rfl
  refine ⟨by rw [e1, hk], fun k hk2 => ?_⟩
  rw [hk] at hk2
  rw [e2]
  have hr : rix (rmS S) k = ((if S.1 1 + 1 < 10 then S.1 1 + 1 else 0) + 10 - (n + 1) + k) % 10 := by unfold rix; rw [hk, hx]
  rcases Nat.lt_or_ge k n with q | q
  · by_cases h10 : S.1 2 = 10
    · rw [if_pos h10] at hn
      have hb := hU.2 (k + 1) (by omega)
      have e : rix (rmS S) k = rix S (k + 1) := by
        rw [hr]; unfold rix; rw [h10]; split <;> omega
      have hne : rix (rmS S) k ≠ S.1 1 := by rw [e]; unfold rix; rw [h10]; omega
      have e3 : va_up U (S.1 1) P (rix (rmS S) k) = U (rix S (k + 1)) := by unfold va_up; rw [if_neg hne, e]
      rw [e3]
      refine ⟨fun j hj => ?_, fun r hr2 => ?_⟩
      · rw [hA _ (by omega), if_pos h10, ← hb.1 j hj, show 17 * (k + 1) + j = 17 * k + j + 17 by omega]
      · rw [hA _ (by omega), if_pos h10, ← hb.2 r hr2, show 17 * (k + 1) + (5 + r) = 17 * k + (5 + r) + 17 by omega]
    · rw [if_neg h10] at hn
      have hb := hU.2 k (by omega)
      have e : rix (rmS S) k = rix S k := by
        rw [hr]; unfold rix; split <;> omega
      have hne : rix (rmS S) k ≠ S.1 1 := by rw [e]; unfold rix; omega
      have e3 : va_up U (S.1 1) P (rix (rmS S) k) = U (rix S k) := by unfold va_up; rw [if_neg hne, e]
      rw [e3]
      refine ⟨fun j hj => ?_, fun r hr2 => ?_⟩
      · rw [hA _ (by omega), if_neg h10]; exact hb.1 j hj
      · rw [hA _ (by omega), if_neg h10]; exact hb.2 r hr2
  · have ek : k = n := by omega
    have e : rix (rmS S) k = S.1 1 := by rw [hr]; split at hn <;> split <;> omega
    have e3 : va_up U (S.1 1) P (rix (rmS S) k) = P := by unfold va_up; rw [if_pos e]
    rw [e3, ek]
    refine ⟨fun j hj => ?_, fun r hr2 => ?_⟩
    · rw [hB j (by omega)]; exact hN.1 j hj
    · rw [hB (5 + r) (by omega)]; exact hN.2 r hr2
theorem mrU_undo {S : NS} {U : Nat → NS} {M : NS} (h1 : S.1 1 < 10) (h2 : S.1 2 ≤ 10) (h0 : S.1 2 ≠ 0) (hU : mrU S U M) {f : Nat → Nat} (hf : ∀ k, k < 17 → f k = M.2 17 (17 * (S.1 2 - 1) + k)) {M2 : NS} (e1 : M2.1 18 = S.1 2 - 1) (e2 : M2.2 17 = M.2 17) (e3 : M2.2 14 = f) : mrU (sF (sF S 1 (pv10 (S.1 1))) 2 (S.1 2 - 1)) U M2 ∧ mrP (U (pv10 (S.1 1))) M2 := by
  have hx : rix S (S.1 2 - 1) = pv10 (S.1 1) := by unfold rix pv10; split <;> omega
  have hl := hU.2 (S.1 2 - 1) (by omega)
  rw [hx] at hl
  refine ⟨⟨e1, fun k hk => ?_⟩, ⟨fun j hj => ?_, fun r hr => ?_⟩⟩
  · have hk' : k < S.1 2 - 1 := hk
    have e : rix (sF (sF S 1 (pv10 (S.1 1))) 2 (S.1 2 - 1)) k = rix S k := by
      show (pv10 (S.1 1) + 10 - (S.1 2 - 1) + k) % 10 = (S.1 1 + 10 - S.1 2 + k) % 10
      unfold pv10; split <;> omega
    rw [e, e2]
    exact hU.2 k (by omega)
  · rw [e3, hf j (by omega)]; exact hl.1 j hj
  · rw [e3, hf (5 + r) (by omega)]; exact hl.2 r hr

set_option maxHeartbeats 4000000 in
set_option maxRecDepth 100000 in
theorem l_mno1 (g : GC) (a : Nat) (h : Nat → Nat) (M : NS) (P : NS) (S : NS) (U : Nat → NS) (hN : mrP P M) (hS1 : S.1 1 < 10) (hS2 : S.1 2 ≤ 10) (hU : mrU S U M) (X : XC) (E : Ob g X cX7_notes 2 RX7) (hX : X.2.2.1 = zR 0 0 0) (K : ∀ (f : Nat → Nat), (∀ j, j < 153 → f j = M.2 17 (j + 17)) → Z g X 2 0 0 (wMod g a h (sA M 17 f)) [(0, .ref a)] [] 39) : ∀ (n : Nat) (i : Nat) (f : Nat → Nat), (i ≤ 153) → (∀ j, f j = if j < i then M.2 17 (j + 17) else M.2 17 j) → (153 < i + n) → Z g X 2 0 0 (wMod g a h (sA M 17 f)) [(0, .ref a), (1, .int (nI i))] [] 11 := by
  intro n
  induction n with
  | zero =>
    intro i f hi hz hf
    exfalso; omega
  | succ n ih =>
    intro i f hi hz hf
    refine z_iload_n E dX7_notes_11 1 rfl rfl ?_
    refine z_sipush (v := (nI 153)) E dX7_notes_12 (by decide) ?_
    refine z_icmpN_ge E dX7_notes_15 39 (by decide) (by omega) (by decide) (fun c1 => ?_) (fun c1 => ?_)
    · refine z_lv [0] rfl ?_; exact K f (fun j hj => by rw [hz j, if_pos (by omega)])
    · refine z_aload_n E dX7_notes_18 0 rfl rfl ?_
      refine gt_X7_35 (v := .ref (h 17)) E dX7_notes_19 0 rfl rfl ?_
      refine z_iload_n E dX7_notes_22 1 rfl rfl ?_
      refine z_aload_n E dX7_notes_23 0 rfl rfl ?_
      refine gt_X7_35 (v := .ref (h 17)) E dX7_notes_24 0 rfl rfl ?_
      refine z_iload_n E dX7_notes_27 1 rfl rfl ?_
      refine z_bipush (v := (nI 17)) E dX7_notes_28 (by decide) ?_
      refine z_iaddN E dX7_notes_30 ?_
      refine z_ialdN (f := f) E dX7_notes_31 9 rfl (by omega) (by decide) ?_
      refine z_iastN (f := f) (i := i) (x := (f (i + 17))) (ws' := wMod g a h (sA M 17 (va_up f i (f (i + 17))))) E dX7_notes_32 9 rfl (by omega) (by decide) rfl ?_
      refine z_iincN (lv' := [(0, .ref a), (1, .int (nI (i + 1)))]) E dX7_notes_33 1 rfl (by decide) rfl ?_
      refine z_goto E dX7_notes_36 11 (by decide) ?_
      exact ih (i + 1) (va_up f i (f (i + 17))) (by omega) (fun j => by unfold va_up; by_cases q : j = i; (rw [if_pos q, if_pos (by omega), hz, if_neg (by omega), q]); (rw [if_neg q, hz j]; by_cases q2 : j < i; (rw [if_pos q2, if_pos (by omega)]); (rw [if_neg q2, if_neg (by omega)]))) (by omega)

set_option maxHeartbeats 4000000 in
set_option maxRecDepth 100000 in
theorem l_mno2 (g : GC) (a : Nat) (h : Nat → Nat) (M : NS) (P : NS) (S : NS) (U : Nat → NS) (hN : mrP P M) (hS1 : S.1 1 < 10) (hS2 : S.1 2 ≤ 10) (hU : mrU S U M) (X : XC) (E : Ob g X cX7_notes 2 RX7) (hX : X.2.2.1 = zR 0 0 0) (m9 : Nat) (f9 : Nat → Nat) (hm9 : m9 ≤ 9) (K : ∀ (f : Nat → Nat), (∀ k, k < 17 → f (17 * m9 + k) = M.2 14 k) → (∀ j, j < 17 * m9 → f j = f9 j) → Z g X 2 0 0 (wMod g a h (sA (sF M 18 m9) 17 f)) [(0, .ref a)] [] 79) : ∀ (n : Nat) (i : Nat) (f : Nat → Nat), (i ≤ 17) → (∀ k, k < i → f (17 * m9 + k) = M.2 14 k) → (∀ j, j < 17 * m9 → f j = f9 j) → (17 < i + n) → Z g X 2 0 0 (wMod g a h (sA (sF M 18 m9) 17 f)) [(0, .ref a), (1, .int (nI i))] [] 47 := by
  intro n
  induction n with
  | zero =>
    intro i f hi hz hA hf
    exfalso; omega
  | succ n ih =>
    intro i f hi hz hA hf
    refine z_iload_n E dX7_notes_47 1 rfl rfl ?_
    refine z_bipush (v := (nI 17)) E dX7_notes_48 (by decide) ?_
    refine z_icmpN_ge E dX7_notes_50 79 (by decide) (by omega) (by decide) (fun c1 => ?_) (fun c1 => ?_)
    · refine z_lv [0] rfl ?_; exact K f (fun k hk => hz k (by omega)) hA
    · refine z_aload_n E dX7_notes_53 0 rfl rfl ?_
      refine gt_X7_35 (v := .ref (h 17)) E dX7_notes_54 0 rfl rfl ?_
      refine z_bipush (v := (nI 17)) E dX7_notes_57 (by decide) ?_
      refine z_aload_n E dX7_notes_59 0 rfl rfl ?_
      refine gt_X7_140 (v := .int (nI m9)) E dX7_notes_60 0 rfl rfl ?_
      refine z_imulN E dX7_notes_63 ?_
      refine z_iload_n E dX7_notes_64 1 rfl rfl ?_
      refine z_iaddN E dX7_notes_65 ?_
      refine z_aload_n E dX7_notes_66 0 rfl rfl ?_
      refine gt_X7_25 (v := .ref (h 14)) E dX7_notes_67 0 rfl rfl ?_
      refine z_iload_n E dX7_notes_70 1 rfl rfl ?_
      refine z_ialdN (f := (M.2 14)) E dX7_notes_71 6 rfl (by omega) (by decide) ?_
      refine z_iastN (f := f) (i := ((17 * m9) + i)) (x := ((M.2 14) i)) (ws' := wMod g a h (sA (sF M 18 m9) 17 (va_up f ((17 * m9) + i) ((M.2 14) i)))) E dX7_notes_72 9 rfl (by omega) (by decide) rfl ?_
      refine z_iincN (lv' := [(0, .ref a), (1, .int (nI (i + 1)))]) E dX7_notes_73 1 rfl (by decide) rfl ?_
      refine z_goto E dX7_notes_76 47 (by decide) ?_
      exact ih (i + 1) (va_up f ((17 * m9) + i) ((M.2 14) i)) (by omega) (fun k hk => by unfold va_up; by_cases q : k = i; (rw [if_pos (by omega), q]); (rw [if_neg (by omega)]; exact hz k (by omega))) (fun j hj => by unfold va_up; rw [if_neg (by omega)]; exact hA j hj) (by omega)

theorem nt_same {g : GC} {a : Nat} {h : Nat → Nat} {M : NS} {x : Nat} (e : M.1 18 = x) : wMod g a h M = wMod g a h (sA (sF M 18 x) 17 (M.2 17)) := by
  have e1 : sA (sF M 18 x) 17 (M.2 17) = M := by
    refine Prod.ext ?_ ?_
    · funext k
      show va_up M.1 18 x k = M.1 k
      unfold va_up
      split
      · rename_i q; rw [q, e]
      · rfl
    · funext k
      show va_up M.2 17 (M.2 17) k = M.2 k
      unfold va_up
      split
      · rename_i q; rw [q]
      · rfl
  rw [e1]

set_option maxHeartbeats 4000000 in
set_option maxRecDepth 100000 in
theorem c_X7_notes (g : GC) (a : Nat) (h : Nat → Nat) (M : NS) (P : NS) (S : NS) (U : Nat → NS) (hN : mrP P M) (hS1 : S.1 1 < 10) (hS2 : S.1 2 ≤ 10) (hU : mrU S U M) : Ct g yX7_notes cX7_notes 2 none 0 0 0 [.ref a] (wMod g a h M) (QV (fun w_ => ∃ M2 : NS, w_ = wMod g a h M2 ∧ (∃ n f, M2 = sA (sF M 18 n) 17 f ∧ mrU (rmS S) (va_up U (S.1 1) P) M2))) := by
  refine Ct.of (by decide) (Nat.le_of_ble_eq_true rfl) ?_
  intro X E Er hX _ hnm
  have E : Ob g X cX7_notes 2 RX7 := E
  refine z_lve (lv' := [(0, .ref a)]) rfl ?_
  refine z_aload_n E dX7_notes_0 0 rfl rfl ?_
  refine gt_X7_140 (v := .int (nI (M.1 18))) E dX7_notes_1 0 rfl rfl ?_
  refine z_topi (y := nI (S.1 2)) (congrArg nI (hU.1)) ?_
  refine z_bipush (v := (nI 10)) E dX7_notes_4 (by decide) ?_
  refine z_icmpN_ne E dX7_notes_6 45 (by decide) (by omega) (by decide) (fun c1 => ?_) (fun c1 => ?_)
  · refine z_iconst (v := (nI 0)) E dX7_notes_45 (by decide) ?_
    refine z_istore_n (lv' := [(0, .ref a), (1, .int (nI 0))]) E dX7_notes_46 1 rfl (by decide) rfl ?_
    refine z_ws (ws' := wMod g a h (sA (sF M 18 (S.1 2)) 17 (M.2 17))) (nt_same hU.1) ?_
    refine l_mno2 g a h M P S U hN hS1 hS2 hU X E hX (S.1 2) (M.2 17) (by omega) (fun f2 hz2 hA2 => ?_) 18 0 (M.2 17) (by omega) (fun k hk => absurd hk (Nat.not_lt_zero k)) (fun j hj => rfl) (by omega)
    refine z_aload_n E dX7_notes_79 0 rfl rfl ?_
    refine z_dup E dX7_notes_80 rfl ?_
    refine gt_X7_140 (v := .int (nI (S.1 2))) E dX7_notes_81 0 rfl rfl ?_
    refine z_iconst (v := (nI 1)) E dX7_notes_84 (by decide) ?_
    refine z_iaddN E dX7_notes_85 ?_
    refine pt_X7_140 (x := nI ((S.1 2) + 1)) (ws' := wMod g a h (sA (sF M 18 ((S.1 2) + 1)) 17 f2)) E dX7_notes_86 0 rfl (Nat.le_of_ble_eq_true rfl) rfl ?_
    refine z_vret E Er dX7_notes_89 ?_
    exact ⟨rfl, _, rfl, S.1 2 + 1, f2, rfl, mrU_note hS1 hS2 hU hN (n := S.1 2) (by rw [if_neg c1]) (fun j hj => by rw [hA2 j hj, if_neg c1]) hz2 rfl rfl⟩
  · refine z_iconst (v := (nI 0)) E dX7_notes_9 (by decide) ?_
    refine z_istore_n (lv' := [(0, .ref a), (1, .int (nI 0))]) E dX7_notes_10 1 rfl (by decide) rfl ?_
    refine l_mno1 g a h M P S U hN hS1 hS2 hU X E hX (fun f hz => ?_) 154 0 (M.2 17) (by omega) (fun j => by rw [if_neg (Nat.not_lt_zero j)]) (by omega)
    refine z_aload_n E dX7_notes_39 0 rfl rfl ?_
    refine z_bipush (v := (nI 9)) E dX7_notes_40 (by decide) ?_
    refine pt_X7_140 (x := nI 9) (ws' := wMod g a h (sA (sF M 18 9) 17 f)) E dX7_notes_42 0 rfl (Nat.le_of_ble_eq_true rfl) rfl ?_
    refine z_iconst (v := (nI 0)) E dX7_notes_45 (by decide) ?_
    refine z_istore_n (lv' := [(0, .ref a), (1, .int (nI 0))]) E dX7_notes_46 1 rfl (by decide) rfl ?_
    refine l_mno2 g a h M P S U hN hS1 hS2 hU X E hX 9 f (by decide) (fun f2 hz2 hA2 => ?_) 18 0 f (by omega) (fun k hk => absurd hk (Nat.not_lt_zero k)) (fun j hj => rfl) (by omega)
    refine z_aload_n E dX7_notes_79 0 rfl rfl ?_
    refine z_dup E dX7_notes_80 rfl ?_
    refine gt_X7_140 (v := .int (nI 9)) E dX7_notes_81 0 rfl rfl ?_
    refine z_iconst (v := (nI 1)) E dX7_notes_84 (by decide) ?_
    refine z_iaddN E dX7_notes_85 ?_
    refine pt_X7_140 (x := nI (9 + 1)) (ws' := wMod g a h (sA (sF M 18 (9 + 1)) 17 f2)) E dX7_notes_86 0 rfl (Nat.le_of_ble_eq_true rfl) rfl ?_
    refine z_vret E Er dX7_notes_89 ?_
    exact ⟨rfl, _, rfl, 9 + 1, f2, rfl, mrU_note hS1 hS2 hU hN (n := 9) (by rw [if_pos c1]) (fun j hj => by rw [hA2 j hj, hz j (by omega), if_pos c1]) hz2 rfl rfl⟩

set_option maxHeartbeats 4000000 in
set_option maxRecDepth 100000 in
theorem l_mundo (g : GC) (a : Nat) (h : Nat → Nat) (M : NS) (P : NS) (S : NS) (U : Nat → NS) (hN : mrP P M) (hS1 : S.1 1 < 10) (hS2 : S.1 2 ≤ 10) (hU : mrU S U M) (X : XC) (E : Ob g X cX7_undo 2 RX7) (hX : X.2.2.1 = zR 0 0 0) (K : ∀ (f : Nat → Nat), (∀ k, k < 17 → f k = M.2 17 (17 * (S.1 2 - 1) + k)) → Z g X 2 0 0 (wMod g a h (sA (sF (sF M 0 0) 18 (S.1 2 - 1)) 14 f)) [(0, .ref a)] [] 59) : ∀ (n : Nat) (i : Nat) (f : Nat → Nat), (i ≤ 17) → (∀ k, k < i → f k = M.2 17 (17 * (S.1 2 - 1) + k)) → (17 < i + n) → Z g X 2 0 0 (wMod g a h (sA (sF (sF M 0 0) 18 (S.1 2 - 1)) 14 f)) [(0, .ref a), (1, .int (nI i))] [] 27 := by
  intro n
  induction n with
  | zero =>
    intro i f hi hz hf
    exfalso; omega
  | succ n ih =>
    intro i f hi hz hf
    refine z_iload_n E dX7_undo_27 1 rfl rfl ?_
    refine z_bipush (v := (nI 17)) E dX7_undo_28 (by decide) ?_
    refine z_icmpN_ge E dX7_undo_30 59 (by decide) (by omega) (by decide) (fun c1 => ?_) (fun c1 => ?_)
    · refine z_lv [0] rfl ?_; exact K f (fun k hk => hz k (by omega))
    · refine z_aload_n E dX7_undo_33 0 rfl rfl ?_
      refine gt_X7_25 (v := .ref (h 14)) E dX7_undo_34 0 rfl rfl ?_
      refine z_iload_n E dX7_undo_37 1 rfl rfl ?_
      refine z_aload_n E dX7_undo_38 0 rfl rfl ?_
      refine gt_X7_35 (v := .ref (h 17)) E dX7_undo_39 0 rfl rfl ?_
      refine z_bipush (v := (nI 17)) E dX7_undo_42 (by decide) ?_
      refine z_aload_n E dX7_undo_44 0 rfl rfl ?_
      refine gt_X7_140 (v := .int (nI (S.1 2 - 1))) E dX7_undo_45 0 rfl rfl ?_
      refine z_imulN E dX7_undo_48 ?_
      refine z_iload_n E dX7_undo_49 1 rfl rfl ?_
      refine z_iaddN E dX7_undo_50 ?_
      refine z_ialdN (f := (M.2 17)) E dX7_undo_51 9 rfl (by omega) (by decide) ?_
      refine z_iastN (f := f) (i := i) (x := ((M.2 17) ((17 * (S.1 2 - 1)) + i))) (ws' := wMod g a h (sA (sF (sF M 0 0) 18 (S.1 2 - 1)) 14 (va_up f i ((M.2 17) ((17 * (S.1 2 - 1)) + i))))) E dX7_undo_52 6 rfl (by omega) (by decide) rfl ?_
      refine z_iincN (lv' := [(0, .ref a), (1, .int (nI (i + 1)))]) E dX7_undo_53 1 rfl (by decide) rfl ?_
      refine z_goto E dX7_undo_56 27 (by decide) ?_
      exact ih (i + 1) (va_up f i ((M.2 17) ((17 * (S.1 2 - 1)) + i))) (by omega) (fun k hk => by unfold va_up; by_cases q : k = i; (rw [if_pos q, q]); (rw [if_neg q]; exact hz k (by omega))) (by omega)

set_option maxHeartbeats 4000000 in
set_option maxRecDepth 100000 in
theorem c_X7_undo (g : GC) (a : Nat) (h : Nat → Nat) (M : NS) (P : NS) (S : NS) (U : Nat → NS) (hN : mrP P M) (hS1 : S.1 1 < 10) (hS2 : S.1 2 ≤ 10) (hU : mrU S U M) : Ct g yX7_undo cX7_undo 2 (some .int) 0 0 0 [.ref a] (wMod g a h M) (QI (fun r_ w_ => ∃ M2 : NS, r_ = (if S.1 2 = 0 then -2 else nI (S.1 2 - 1)) ∧ w_ = wMod g a h M2 ∧ (mQ M M2 ∧ mrU (if S.1 2 = 0 then S else sF (sF S 1 (pv10 (S.1 1))) 2 (S.1 2 - 1)) U M2 ∧ mrP (if S.1 2 = 0 then P else U (pv10 (S.1 1))) M2))) := by
  refine Ct.of (by decide) (Nat.le_of_ble_eq_true rfl) ?_
  intro X E Er hX _ hnm
  have E : Ob g X cX7_undo 2 RX7 := E
  refine z_lve (lv' := [(0, .ref a)]) rfl ?_
  refine z_aload_n E dX7_undo_0 0 rfl rfl ?_
  refine z_iconst (v := (nI 0)) E dX7_undo_1 (by decide) ?_
  refine pt_X7_69 (x := nI 0) (ws' := wMod g a h (sF M 0 0)) E dX7_undo_2 0 rfl (Nat.le_of_ble_eq_true rfl) rfl ?_
  refine z_aload_n E dX7_undo_5 0 rfl rfl ?_
  refine gt_X7_140 (v := .int (nI (M.1 18))) E dX7_undo_6 0 rfl rfl ?_
  refine z_topi (y := nI (S.1 2)) (congrArg nI (hU.1)) ?_
  refine z_ifN_ne E dX7_undo_9 15 (by decide) (by omega) (fun c1 => ?_) (fun c1 => ?_)
  · refine z_aload_n E dX7_undo_15 0 rfl rfl ?_
    refine z_dup E dX7_undo_16 rfl ?_
    refine gt_X7_140 (v := .int (nI (M.1 18))) E dX7_undo_17 0 rfl rfl ?_
    refine z_topi (y := nI (S.1 2)) (congrArg nI (hU.1)) ?_
    refine z_iconst (v := (nI 1)) E dX7_undo_20 (by decide) ?_
    refine z_isubN E dX7_undo_21 (by omega) ?_
    refine pt_X7_140 (x := nI ((S.1 2) - 1)) (ws' := wMod g a h (sF (sF M 0 0) 18 ((S.1 2) - 1))) E dX7_undo_22 0 rfl (Nat.le_of_ble_eq_true rfl) rfl ?_
    refine z_iconst (v := (nI 0)) E dX7_undo_25 (by decide) ?_
    refine z_istore_n (lv' := [(0, .ref a), (1, .int (nI 0))]) E dX7_undo_26 1 rfl (by decide) rfl ?_
    refine l_mundo g a h M P S U hN hS1 hS2 hU X E hX (fun f hz => ?_) 18 0 (M.2 14) (by omega) (fun k hk => absurd hk (Nat.not_lt_zero k)) (by omega)
    refine z_aload_n E dX7_undo_59 0 rfl rfl ?_
    refine gt_X7_140 (v := .int (nI (S.1 2 - 1))) E dX7_undo_60 0 rfl rfl ?_
    refine z_iret E Er dX7_undo_63 ?_
    exact ⟨_, rfl, _, by rw [if_neg c1], rfl, (((mQ.rf M).F (by omega)).F (by omega)).A (by omega), by rw [if_neg c1, if_neg c1]; exact mrU_undo hS1 hS2 c1 hU hz rfl rfl rfl⟩
  · refine z_bipush (v := (-2)) E dX7_undo_12 (by decide) ?_
    refine z_iret E Er dX7_undo_14 ?_
    exact ⟨_, rfl, _, by rw [if_pos c1], rfl, (mQ.rf M).F (by omega), by rw [if_pos c1]; exact hU, by rw [if_pos c1]; exact hN⟩
